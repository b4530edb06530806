def wik_X12_readRising : List Nat := [968, 969, 970, 971, 972, 973, 974, 3839]
def wrk_X12_readRising : List Nat := []
def wlk_X12_readRising : List Nat := [975]
set_option maxHeartbeats 4000000 in
theorem fk_X12_readRising {l : Launch} {T : Nat → Nat} {cn : Nat} {K N : Nat → Nat} {I0 : cz_I} {R0 : cz_R} {L0 : cz_L} (hW0 : Wf T cn K N I0 R0 0) (gB : cz_B) (gs : Int) (gQ : Nat → Int) {a0 : Nat} (ta0 : T a0 = 15) {a1 : Nat} (ta1 : T a1 = 59) {x2 : Int32} (hx2 : 0 ≤ x2.toInt ∧ x2.toInt ≤ 0) {x3 : Int32} (hx3 : 8 ≤ x3.toInt ∧ x3.toInt ≤ 8) (hT : ∀ t, R0 a0 5 = some t → Tx I0 t gB) (pre0 : (I0 a0 9).toInt = (tkM gB gs)) (pre1 : (I0 a0 9).toInt ≤ 4) (pre2 : (I0 a0 10).toInt = (tkS gB gs)) (pre3 : (I0 a0 11).toInt = (tkG gB gs)) (pre4 : (AtW ((tkK gB gs)) ((L0 a0 15).toInt) ((tkW gB gs)))) (pre5 : (AtV ((tkK gB gs)) ((I0 a0 12).toInt) ((tkV gB gs)))) (pre6 : (AtN ((tkK gB gs)) ((I0 a0 8).toInt) ((tkN gB gs)))) (pre7 : (I0 a0 7).toInt = (gB.2)) (pre8 : ∀ b1, R0 a0 4 = some b1 → (I0 b1 0).toInt = (gQ 0)) (pre9 : (gQ 0) ≥ 1) (nn4 : ∃ b, R0 a0 4 = some b) : ConE l mX12_readRising [.ref a0, .ref a1, .int x2, .int x3] cn K N I0 R0 L0 (ca_i (fun v cn' K' N' I' R' L' => cn = cn' ∧ K = K' ∧ N = N' ∧ R0 = R' ∧ St T cn K N 0 wik_X12_readRising wrk_X12_readRising I0 R0 I' R0 ∧ (0 ≤ v.toInt ∧ v.toInt ≤ 8) ∧ ((((riF gB gQ 8 0 gs) = 0) ∧ ((I' a0 13).toInt = (I0 a0 13).toInt) ∧ ((I' a0 9).toInt = (tkM gB (riS gB gQ 8 0 gs))) ∧ ((I' a0 9).toInt ≤ 4) ∧ ((I' a0 10).toInt = (tkS gB (riS gB gQ 8 0 gs))) ∧ ((I' a0 11).toInt = (tkG gB (riS gB gQ 8 0 gs))) ∧ ((AtW ((tkK gB (riS gB gQ 8 0 gs))) ((L' a0 15).toInt) ((tkW gB (riS gB gQ 8 0 gs))))) ∧ ((AtV ((tkK gB (riS gB gQ 8 0 gs))) ((I' a0 12).toInt) ((tkV gB (riS gB gQ 8 0 gs))))) ∧ ((AtN ((tkK gB (riS gB gQ 8 0 gs))) ((I' a0 8).toInt) ((tkN gB (riS gB gQ 8 0 gs))))) ∧ LgS T wlk_X12_readRising L0 L' ∧ True) ∨ (((riF gB gQ 8 0 gs) ≠ 0) ∧ ((I' a0 9).toInt = 5) ∧ ((I' a0 13).toInt = (riF gB gQ 8 0 gs)) ∧ ((I' a0 14).toInt = (riP gB gQ 8 0 gs)) ∧ True)) ∧ True)) := by
  refine ConE.of (by decide +kernel) rfl (Nat.le_of_ble_eq_true rfl) rfl (fun X hX hZ hE => ?_)
  subst hX
  have hS0 : St T cn K N 0 wik_X12_readRising wrk_X12_readRising I0 R0 I0 R0 := St.rf0 hW0
  have hL0 : LgS T wlk_X12_readRising L0 L0 := LgS.rf0
  obtain ⟨a11, d12⟩ := nn4
  have ta11 : T a11 = 14 := hW0.rsN ta0 rfl d12
  obtain ⟨v13, c14⟩ : ∃ v, I0 a0 9 = v := ⟨_, rfl⟩
  have b15 := iv15_9 hS0.1 ta0 c14
  have p16 := pre0
  rw [c14] at p16
  have p17 := pre1
  rw [c14] at p17
  obtain ⟨v18, c19⟩ : ∃ v, I0 a0 10 = v := ⟨_, rfl⟩
  have b20 := iv15_10 hS0.1 ta0 c19
  have p21 := pre2
  rw [c19] at p21
  obtain ⟨v22, c23⟩ : ∃ v, I0 a0 11 = v := ⟨_, rfl⟩
  have p24 := pre3
  rw [c23] at p24
  obtain ⟨y25, c26⟩ : ∃ v, L0 a0 15 = v := ⟨_, rfl⟩
  have p27 := pre4
  rw [c26] at p27
  obtain ⟨v28, c29⟩ : ∃ v, I0 a0 12 = v := ⟨_, rfl⟩
  have p30 := pre5
  rw [c29] at p30
  obtain ⟨v31, c32⟩ : ∃ v, I0 a0 8 = v := ⟨_, rfl⟩
  have b33 := iv15_8 hS0.1 ta0 c32
  have p34 := pre6
  rw [c32] at p34
  obtain ⟨v35, c36⟩ : ∃ v, I0 a0 7 = v := ⟨_, rfl⟩
  have b37 := iv15_7 hW0 ta0 c36
  have p38 := pre7
  rw [c36] at p38
  obtain ⟨v39, c40⟩ : ∃ v, I0 a11 0 = v := ⟨_, rfl⟩
  have b41 := iv14_0 hW0 ta11 c40
  have p42 := pre8 _ d12
  rw [c40] at p42
  have p43 := pre9
  obtain ⟨v44, c45⟩ : ∃ v, I0 a0 13 = v := ⟨_, rfl⟩
  refine q_iconst dX12_readRising_0 (by decide) ?_
  intro v46 h47
  refine tr_istore dX12_readRising_1 (by decide) (by decide) ?_
  refine q_iconst dX12_readRising_3 (by decide) ?_
  intro v48 h49
  refine tr_istore dX12_readRising_4 (by decide) (by decide) ?_
  refine q_iconst dX12_readRising_6 (by decide) ?_
  intro v50 h51
  refine tr_istore dX12_readRising_7 (by decide) (by decide) ?_
  have lp99 : ∀ (fu : Nat) (ls : Nat → Option Value) (v52 : Int32) (v53 : Int32) (v54 : Int32) (I62 : cz_I) (L63 : cz_L) (gs64 : Int) (gr65 : Nat) (v68 : Int32) (v70 : Int32) (v72 : Int32) (v74 : Int32) (y76 : Int64) (v78 : Int32) (v80 : Int32), ls 0 = some (.ref a0) → ls 1 = some (.ref a1) → ls 2 = some (.int x2) → ls 3 = some (.int x3) → ls 4 = some (.int v52) → ls 5 = some (.int v53) → ls 6 = some (.int v54) → St T cn K N 0 wik_X12_readRising wrk_X12_readRising I0 R0 I62 R0 → LgS T wlk_X12_readRising L0 L63 → I62 a0 13 = v68 → I62 a0 9 = v70 → I62 a0 10 = v72 → I62 a0 11 = v74 → L63 a0 15 = y76 → I62 a0 12 = v78 → I62 a0 8 = v80 → (riF gB gQ gr65 v53.toInt gs64) = (riF gB gQ 8 0 gs) → (riP gB gQ gr65 v53.toInt gs64) = (riP gB gQ 8 0 gs) → (riS gB gQ gr65 v53.toInt gs64) = (riS gB gQ 8 0 gs) → v54.toInt = 1 → 0 ≤ v53.toInt → v53.toInt ≤ 240 → 0 ≤ v52.toInt → v52.toInt ≤ 8 → ((gr65 : Int)) = -v52.toInt + 8 → v68.toInt = v44.toInt → v70.toInt = (tkM gB gs64) → v70.toInt ≤ 4 → v72.toInt = (tkS gB gs64) → v74.toInt = (tkG gB gs64) → (AtW ((tkK gB gs64)) (y76.toInt) ((tkW gB gs64))) → (AtV ((tkK gB gs64)) (v78.toInt) ((tkV gB gs64))) → (AtN ((tkK gB gs64)) (v80.toInt) ((tkN gB gs64))) → (-v52.toInt + 9).toNat < fu → Tr X mX12_readRising 9 ls [] cn K N I62 R0 L63 0 0 := by
    intro fu
    induction fu with
    | zero => intros; rename_i hz; exact absurd hz (Nat.not_lt_zero _)
    | succ fu ih99 =>
      intro ls v52 v53 v54 I62 L63 gs64 gr65 v68 v70 v72 v74 y76 v78 v80 hl55 hl56 hl57 hl58 hl59 hl60 hl61 hS66 hL67 c69 c71 c73 c75 c77 c79 c81 g82 g83 g84 g85 g86 g87 g88 g89 g90 g91 g92 g93 g94 g95 g96 g97 g98 hm99
      have b101 := iv15_9 hS66.1 ta0 c71
      have b102 := iv15_10 hS66.1 ta0 c73
      have b103 := iv15_8 hS66.1 ta0 c81
      rcases Nat.eq_zero_or_pos gr65 with hz104 | hz104
      · skip
        subst hz104
        refine tr_iload dX12_readRising_9 hl61 ?_
        refine q_if_eq 92 dX12_readRising_11 (by decide) (fun h106 => ?_) (fun h106 => ?_)
        · skip
          exfalso; omega
        · skip
          refine tr_aload_n dX12_readRising_14 hl55 ?_
          refine q_getI dX12_readRising_15 fl12_99 (kR15 hS66.1 ta0) c71 ?_
          refine q_iconst dX12_readRising_18 (by decide) ?_
          intro v107 h108
          refine q_icmp_eq 92 dX12_readRising_19 (by decide) (fun h109 => ?_) (fun h109 => ?_)
          · skip
            exfalso; omega
          · skip
            refine tr_aload_n dX12_readRising_22 hl55 ?_
            refine tr_iload dX12_readRising_23 hl60 ?_
            refine tr_aload_n dX12_readRising_25 hl55 ?_
            refine tr_getR dX12_readRising_26 fl12_188 (kR15 hS66.1 ta0) d12 ?_
            refine q_getI dX12_readRising_29 fl12_192 (kR14 hS66.1 ta11) ((hS66.cell ta11 (by decide +kernel)).trans c40) ?_
            refine q_iconst dX12_readRising_32 (by decide) ?_
            intro v110 h111
            refine q_isubE dX12_readRising_33 (by intros; omega) ?_
            intro v112 h113
            refine q_callVi hE (M' := mX12_bounded) (as := [_, _]) dX12_readRising_34 lk12_153 inX12_bounded seX12_bounded myX12_bounded (by decide) ⟨by decide, by decide⟩ rfl (kR15 hS66.1 ta0) (Nat.le_of_ble_eq_true rfl) rfl rfl (by decide) (by decide) (fk_X12_bounded hS66.1 (gB) (gs64) ta0 (by (try rw [c71]); first | done | with_reducible assumption | omega) (by (try rw [c71]); first | done | with_reducible assumption | omega) (by (try rw [c73]); first | done | with_reducible assumption | omega) (by (try rw [c75]); first | done | with_reducible assumption | omega) (by (try rw [c77]); first | done | assumption) (by (try rw [c79]); first | done | assumption) (by (try rw [c81]); first | done | assumption)) ?_
            rintro v119 cn' K' N' I114 R115 L116 ⟨rfl, rfl, rfl, rfl, rfl, g117, dj120, -⟩
            have hS121 := hS66.tr g117 (by decide +kernel) (by decide +kernel)
            have c122 : I114 a0 10 = v72 := (g117.cell ta0 (by decide +kernel)).trans c73
            have c123 : I114 a0 11 = v74 := (g117.cell ta0 (by decide +kernel)).trans c75
            have c124 : I114 a0 12 = v78 := (g117.cell ta0 (by decide +kernel)).trans c79
            have c125 : I114 a0 8 = v80 := (g117.cell ta0 (by decide +kernel)).trans c81
            rcases dj120 with ⟨p126, p127, p128, p129, p130, p131, p132, p133, p134, p135, p136, p137, -⟩ | ⟨p138, p139, p140, p141, p142, -⟩ | ⟨p143, p144, p145, p146, p147, p148, -⟩
            · skip
              obtain ⟨v149, c150⟩ : ∃ v, I114 a0 13 = v := ⟨_, rfl⟩
              rw [c150] at p130
              rw [c69] at p130
              obtain ⟨v151, c152⟩ : ∃ v, I114 a0 9 = v := ⟨_, rfl⟩
              have b153 := iv15_9 hS121.1 ta0 c152
              rw [c152] at p131
              rw [c152] at p132
              rw [c122] at p133
              rw [c123] at p134
              rw [c77] at p135
              rw [c124] at p136
              rw [c125] at p137
              refine tr_istore dX12_readRising_37 (by decide) (by decide) ?_
              refine tr_iload dX12_readRising_39 hl59 ?_
              refine tr_iload_n dX12_readRising_41 hl58 ?_
              refine q_icmp_ne 50 dX12_readRising_42 (by decide) (fun h154 => ?_) (fun h154 => ?_)
              · skip
                exfalso; omega
              · skip
                refine tr_aload_n dX12_readRising_45 hl55 ?_
                refine q_iconst dX12_readRising_46 (by decide) ?_
                intro v155 h156
                refine q_callVv hE (M' := mX12_flaw) (as := [_]) dX12_readRising_47 lk12_145 inX12_flaw seX12_flaw myX12_flaw (by decide) ⟨by decide, by decide⟩ rfl (kR15 hS121.1 ta0) (Nat.le_of_ble_eq_true rfl) rfl rfl (by decide) (by decide) (fk_X12_flaw hS121.1  ta0 (by omega) (by (try rw [c152]); first | done | with_reducible assumption | omega)) ?_
                rintro cn' K' N' I157 R158 L159 ⟨rfl, rfl, rfl, rfl, rfl, g160, p163, p164, p165, -⟩
                have hS166 := hS121.tr g160 (by decide +kernel) (by decide +kernel)
                have c167 : I157 a0 10 = v72 := (g160.cell ta0 (by decide +kernel)).trans c122
                have c168 : I157 a0 11 = v74 := (g160.cell ta0 (by decide +kernel)).trans c123
                have c169 : I157 a0 12 = v78 := (g160.cell ta0 (by decide +kernel)).trans c124
                have c170 : I157 a0 8 = v80 := (g160.cell ta0 (by decide +kernel)).trans c125
                obtain ⟨v171, c172⟩ : ∃ v, I157 a0 9 = v := ⟨_, rfl⟩
                have b173 := iv15_9 hS166.1 ta0 c172
                rw [c172] at p163
                obtain ⟨v174, c175⟩ : ∃ v, I157 a0 13 = v := ⟨_, rfl⟩
                rw [c175] at p164
                obtain ⟨v176, c177⟩ : ∃ v, I157 a0 14 = v := ⟨_, rfl⟩
                rw [c177] at p165
                rw [c122] at p165
                refine tr_aload_n dX12_readRising_50 hl55 ?_
                refine q_callVv hE (M' := mX12_goesOn) (as := []) dX12_readRising_51 lk12_142 inX12_goesOn seX12_goesOn myX12_goesOn (by decide) ⟨by decide, by decide⟩ rfl (kR15 hS166.1 ta0) (Nat.le_of_ble_eq_true rfl) rfl rfl (by decide) (by decide) (k_X12_goesOn hS166.1 ta0) ?_
                rintro cn' K' N' I178 R179 L180 ⟨rfl, rfl, rfl, rfl, g181, p183, p184, p185, w186, -⟩
                have hS187 := hS166.tr g181 (by decide +kernel) (by decide +kernel)
                have c188 : I178 a0 13 = v174 := (g181.cell ta0 (by decide +kernel)).trans c175
                have c189 : I178 a0 14 = v176 := (g181.cell ta0 (by decide +kernel)).trans c177
                obtain ⟨v190, c191⟩ : ∃ v, I178 a0 9 = v := ⟨_, rfl⟩
                have b192 := iv15_9 hS187.1 ta0 c191
                rw [c172] at p183
                rw [c191] at p183
                rw [c172] at p184
                rw [c191] at p184
                obtain ⟨v193, c194⟩ : ∃ v, I178 a0 8 = v := ⟨_, rfl⟩
                have b195 := iv15_8 hS187.1 ta0 c194
                rw [c194] at p185
                rw [c170] at p185
                rw [c188] at p185
                rw [c175] at p185
                have ov196 := w186.over (by rw [c172]; omega)
                obtain ⟨v197, c198⟩ : ∃ v, I178 a0 9 = v := ⟨_, rfl⟩
                have b199 := iv15_9 hS187.1 ta0 c198
                obtain ⟨v200, c201⟩ : ∃ v, I178 a0 13 = v := ⟨_, rfl⟩
                obtain ⟨v202, c203⟩ : ∃ v, I178 a0 14 = v := ⟨_, rfl⟩
                (try rw [c198] at ov196)
                (try rw [c201] at ov196)
                (try rw [c203] at ov196)
                (try rw [c172] at ov196)
                (try rw [c175] at ov196)
                (try rw [c177] at ov196)
                refine tr_aload_n dX12_readRising_54 hl55 ?_
                refine q_getI dX12_readRising_55 fl12_99 (kR15 hS187.1 ta0) c198 ?_
                refine q_iconst dX12_readRising_58 (by decide) ?_
                intro v204 h205
                refine q_icmp_ne 64 dX12_readRising_59 (by decide) (fun h206 => ?_) (fun h206 => ?_)
                · skip
                  exfalso; omega
                · skip
                  refine q_iconst dX12_readRising_62 (by decide) ?_
                  intro v207 h208
                  obtain ⟨v209, c210⟩ : ∃ v, I178 a0 10 = v := ⟨_, rfl⟩
                  have b211 := iv15_10 hS187.1 ta0 c210
                  obtain ⟨v212, c213⟩ : ∃ v, I178 a0 11 = v := ⟨_, rfl⟩
                  obtain ⟨y214, c215⟩ : ∃ v, L180 a0 15 = v := ⟨_, rfl⟩
                  obtain ⟨v216, c217⟩ : ∃ v, I178 a0 12 = v := ⟨_, rfl⟩
                  exact tr_iret hZ dX12_readRising_63 rfl (by decide) (by decide) ⟨v207, rfl, rfl, rfl, rfl, rfl, hS187, (by omega), (Or.inr (⟨(by rw [← g82]; simp only [riF, ↓reduceIte]; repeat' (first | split | omega)), (by (try rw [c198]); first | done | with_reducible assumption | omega), (by (try rw [c201]); rw [← g82]; simp only [riF, ↓reduceIte]; repeat' (first | split | omega)), (by (try rw [c203]); rw [← g83]; simp only [riP, ↓reduceIte]; repeat' (first | split | omega)), trivial⟩)), trivial⟩
            · skip
              obtain ⟨v218, c219⟩ : ∃ v, I114 a0 9 = v := ⟨_, rfl⟩
              have b220 := iv15_9 hS121.1 ta0 c219
              rw [c219] at p140
              obtain ⟨v221, c222⟩ : ∃ v, I114 a0 13 = v := ⟨_, rfl⟩
              rw [c222] at p141
              obtain ⟨v223, c224⟩ : ∃ v, I114 a0 14 = v := ⟨_, rfl⟩
              rw [c224] at p142
              refine tr_istore dX12_readRising_37 (by decide) (by decide) ?_
              refine tr_iload dX12_readRising_39 hl59 ?_
              refine tr_iload_n dX12_readRising_41 hl58 ?_
              refine q_icmp_ne 50 dX12_readRising_42 (by decide) (fun h225 => ?_) (fun h225 => ?_)
              · skip
                exfalso; omega
              · skip
                refine tr_aload_n dX12_readRising_45 hl55 ?_
                refine q_iconst dX12_readRising_46 (by decide) ?_
                intro v226 h227
                refine q_callVv hE (M' := mX12_flaw) (as := [_]) dX12_readRising_47 lk12_145 inX12_flaw seX12_flaw myX12_flaw (by decide) ⟨by decide, by decide⟩ rfl (kR15 hS121.1 ta0) (Nat.le_of_ble_eq_true rfl) rfl rfl (by decide) (by decide) (k_X12_flaw hS121.1 ta0 (by omega)) ?_
                rintro cn' K' N' I228 R229 L230 ⟨rfl, rfl, rfl, rfl, rfl, g231, p233, p234, w235, -⟩
                have hS236 := hS121.tr g231 (by decide +kernel) (by decide +kernel)
                have c237 : I228 a0 10 = v72 := (g231.cell ta0 (by decide +kernel)).trans c122
                have c238 : I228 a0 11 = v74 := (g231.cell ta0 (by decide +kernel)).trans c123
                have c239 : I228 a0 12 = v78 := (g231.cell ta0 (by decide +kernel)).trans c124
                have c240 : I228 a0 8 = v80 := (g231.cell ta0 (by decide +kernel)).trans c125
                obtain ⟨v241, c242⟩ : ∃ v, I228 a0 9 = v := ⟨_, rfl⟩
                have b243 := iv15_9 hS236.1 ta0 c242
                rw [c242] at p233
                rw [c240] at p234
                rw [c125] at p234
                have ov244 := w235.over (by rw [c219]; omega)
                obtain ⟨v245, c246⟩ : ∃ v, I228 a0 9 = v := ⟨_, rfl⟩
                have b247 := iv15_9 hS236.1 ta0 c246
                obtain ⟨v248, c249⟩ : ∃ v, I228 a0 13 = v := ⟨_, rfl⟩
                obtain ⟨v250, c251⟩ : ∃ v, I228 a0 14 = v := ⟨_, rfl⟩
                (try rw [c246] at ov244)
                (try rw [c249] at ov244)
                (try rw [c251] at ov244)
                (try rw [c219] at ov244)
                (try rw [c222] at ov244)
                (try rw [c224] at ov244)
                refine tr_aload_n dX12_readRising_50 hl55 ?_
                refine q_callVv hE (M' := mX12_goesOn) (as := []) dX12_readRising_51 lk12_142 inX12_goesOn seX12_goesOn myX12_goesOn (by decide) ⟨by decide, by decide⟩ rfl (kR15 hS236.1 ta0) (Nat.le_of_ble_eq_true rfl) rfl rfl (by decide) (by decide) (k_X12_goesOn hS236.1 ta0) ?_
                rintro cn' K' N' I252 R253 L254 ⟨rfl, rfl, rfl, rfl, g255, p257, p258, p259, w260, -⟩
                have hS261 := hS236.tr g255 (by decide +kernel) (by decide +kernel)
                have c262 : I252 a0 13 = v248 := (g255.cell ta0 (by decide +kernel)).trans c249
                have c263 : I252 a0 14 = v250 := (g255.cell ta0 (by decide +kernel)).trans c251
                obtain ⟨v264, c265⟩ : ∃ v, I252 a0 9 = v := ⟨_, rfl⟩
                have b266 := iv15_9 hS261.1 ta0 c265
                rw [c246] at p257
                rw [c265] at p257
                rw [c246] at p258
                rw [c265] at p258
                obtain ⟨v267, c268⟩ : ∃ v, I252 a0 8 = v := ⟨_, rfl⟩
                have b269 := iv15_8 hS261.1 ta0 c268
                rw [c268] at p259
                rw [c240] at p259
                rw [c262] at p259
                rw [c249] at p259
                have ov270 := w260.over (by rw [c246]; omega)
                obtain ⟨v271, c272⟩ : ∃ v, I252 a0 9 = v := ⟨_, rfl⟩
                have b273 := iv15_9 hS261.1 ta0 c272
                obtain ⟨v274, c275⟩ : ∃ v, I252 a0 13 = v := ⟨_, rfl⟩
                obtain ⟨v276, c277⟩ : ∃ v, I252 a0 14 = v := ⟨_, rfl⟩
                (try rw [c272] at ov270)
                (try rw [c275] at ov270)
                (try rw [c277] at ov270)
                (try rw [c246] at ov270)
                (try rw [c249] at ov270)
                (try rw [c251] at ov270)
                refine tr_aload_n dX12_readRising_54 hl55 ?_
                refine q_getI dX12_readRising_55 fl12_99 (kR15 hS261.1 ta0) c272 ?_
                refine q_iconst dX12_readRising_58 (by decide) ?_
                intro v278 h279
                refine q_icmp_ne 64 dX12_readRising_59 (by decide) (fun h280 => ?_) (fun h280 => ?_)
                · skip
                  exfalso; omega
                · skip
                  refine q_iconst dX12_readRising_62 (by decide) ?_
                  intro v281 h282
                  obtain ⟨v283, c284⟩ : ∃ v, I252 a0 10 = v := ⟨_, rfl⟩
                  have b285 := iv15_10 hS261.1 ta0 c284
                  obtain ⟨v286, c287⟩ : ∃ v, I252 a0 11 = v := ⟨_, rfl⟩
                  obtain ⟨y288, c289⟩ : ∃ v, L254 a0 15 = v := ⟨_, rfl⟩
                  obtain ⟨v290, c291⟩ : ∃ v, I252 a0 12 = v := ⟨_, rfl⟩
                  exact tr_iret hZ dX12_readRising_63 rfl (by decide) (by decide) ⟨v281, rfl, rfl, rfl, rfl, rfl, hS261, (by omega), (Or.inr (⟨(by rw [← g82]; simp only [riF, ↓reduceIte]; repeat' (first | split | omega)), (by (try rw [c272]); first | done | with_reducible assumption | omega), (by (try rw [c275]); rw [← g82]; simp only [riF, ↓reduceIte]; repeat' (first | split | omega)), (by (try rw [c277]); rw [← g83]; simp only [riP, ↓reduceIte]; repeat' (first | split | omega)), trivial⟩)), trivial⟩
            · skip
              obtain ⟨v292, c293⟩ : ∃ v, I114 a0 9 = v := ⟨_, rfl⟩
              have b294 := iv15_9 hS121.1 ta0 c293
              rw [c293] at p146
              obtain ⟨v295, c296⟩ : ∃ v, I114 a0 13 = v := ⟨_, rfl⟩
              rw [c296] at p147
              obtain ⟨v297, c298⟩ : ∃ v, I114 a0 14 = v := ⟨_, rfl⟩
              rw [c298] at p148
              refine tr_istore dX12_readRising_37 (by decide) (by decide) ?_
              refine tr_iload dX12_readRising_39 hl59 ?_
              refine tr_iload_n dX12_readRising_41 hl58 ?_
              refine q_icmp_ne 50 dX12_readRising_42 (by decide) (fun h299 => ?_) (fun h299 => ?_)
              · skip
                exfalso; omega
              · skip
                refine tr_aload_n dX12_readRising_45 hl55 ?_
                refine q_iconst dX12_readRising_46 (by decide) ?_
                intro v300 h301
                refine q_callVv hE (M' := mX12_flaw) (as := [_]) dX12_readRising_47 lk12_145 inX12_flaw seX12_flaw myX12_flaw (by decide) ⟨by decide, by decide⟩ rfl (kR15 hS121.1 ta0) (Nat.le_of_ble_eq_true rfl) rfl rfl (by decide) (by decide) (k_X12_flaw hS121.1 ta0 (by omega)) ?_
                rintro cn' K' N' I302 R303 L304 ⟨rfl, rfl, rfl, rfl, rfl, g305, p307, p308, w309, -⟩
                have hS310 := hS121.tr g305 (by decide +kernel) (by decide +kernel)
                have c311 : I302 a0 10 = v72 := (g305.cell ta0 (by decide +kernel)).trans c122
                have c312 : I302 a0 11 = v74 := (g305.cell ta0 (by decide +kernel)).trans c123
                have c313 : I302 a0 12 = v78 := (g305.cell ta0 (by decide +kernel)).trans c124
                have c314 : I302 a0 8 = v80 := (g305.cell ta0 (by decide +kernel)).trans c125
                obtain ⟨v315, c316⟩ : ∃ v, I302 a0 9 = v := ⟨_, rfl⟩
                have b317 := iv15_9 hS310.1 ta0 c316
                rw [c316] at p307
                rw [c314] at p308
                rw [c125] at p308
                have ov318 := w309.over (by rw [c293]; omega)
                obtain ⟨v319, c320⟩ : ∃ v, I302 a0 9 = v := ⟨_, rfl⟩
                have b321 := iv15_9 hS310.1 ta0 c320
                obtain ⟨v322, c323⟩ : ∃ v, I302 a0 13 = v := ⟨_, rfl⟩
                obtain ⟨v324, c325⟩ : ∃ v, I302 a0 14 = v := ⟨_, rfl⟩
                (try rw [c320] at ov318)
                (try rw [c323] at ov318)
                (try rw [c325] at ov318)
                (try rw [c293] at ov318)
                (try rw [c296] at ov318)
                (try rw [c298] at ov318)
                refine tr_aload_n dX12_readRising_50 hl55 ?_
                refine q_callVv hE (M' := mX12_goesOn) (as := []) dX12_readRising_51 lk12_142 inX12_goesOn seX12_goesOn myX12_goesOn (by decide) ⟨by decide, by decide⟩ rfl (kR15 hS310.1 ta0) (Nat.le_of_ble_eq_true rfl) rfl rfl (by decide) (by decide) (k_X12_goesOn hS310.1 ta0) ?_
                rintro cn' K' N' I326 R327 L328 ⟨rfl, rfl, rfl, rfl, g329, p331, p332, p333, w334, -⟩
                have hS335 := hS310.tr g329 (by decide +kernel) (by decide +kernel)
                have c336 : I326 a0 13 = v322 := (g329.cell ta0 (by decide +kernel)).trans c323
                have c337 : I326 a0 14 = v324 := (g329.cell ta0 (by decide +kernel)).trans c325
                obtain ⟨v338, c339⟩ : ∃ v, I326 a0 9 = v := ⟨_, rfl⟩
                have b340 := iv15_9 hS335.1 ta0 c339
                rw [c320] at p331
                rw [c339] at p331
                rw [c320] at p332
                rw [c339] at p332
                obtain ⟨v341, c342⟩ : ∃ v, I326 a0 8 = v := ⟨_, rfl⟩
                have b343 := iv15_8 hS335.1 ta0 c342
                rw [c342] at p333
                rw [c314] at p333
                rw [c336] at p333
                rw [c323] at p333
                have ov344 := w334.over (by rw [c320]; omega)
                obtain ⟨v345, c346⟩ : ∃ v, I326 a0 9 = v := ⟨_, rfl⟩
                have b347 := iv15_9 hS335.1 ta0 c346
                obtain ⟨v348, c349⟩ : ∃ v, I326 a0 13 = v := ⟨_, rfl⟩
                obtain ⟨v350, c351⟩ : ∃ v, I326 a0 14 = v := ⟨_, rfl⟩
                (try rw [c346] at ov344)
                (try rw [c349] at ov344)
                (try rw [c351] at ov344)
                (try rw [c320] at ov344)
                (try rw [c323] at ov344)
                (try rw [c325] at ov344)
                refine tr_aload_n dX12_readRising_54 hl55 ?_
                refine q_getI dX12_readRising_55 fl12_99 (kR15 hS335.1 ta0) c346 ?_
                refine q_iconst dX12_readRising_58 (by decide) ?_
                intro v352 h353
                refine q_icmp_ne 64 dX12_readRising_59 (by decide) (fun h354 => ?_) (fun h354 => ?_)
                · skip
                  exfalso; omega
                · skip
                  refine q_iconst dX12_readRising_62 (by decide) ?_
                  intro v355 h356
                  obtain ⟨v357, c358⟩ : ∃ v, I326 a0 10 = v := ⟨_, rfl⟩
                  have b359 := iv15_10 hS335.1 ta0 c358
                  obtain ⟨v360, c361⟩ : ∃ v, I326 a0 11 = v := ⟨_, rfl⟩
                  obtain ⟨y362, c363⟩ : ∃ v, L328 a0 15 = v := ⟨_, rfl⟩
                  obtain ⟨v364, c365⟩ : ∃ v, I326 a0 12 = v := ⟨_, rfl⟩
                  exact tr_iret hZ dX12_readRising_63 rfl (by decide) (by decide) ⟨v355, rfl, rfl, rfl, rfl, rfl, hS335, (by omega), (Or.inr (⟨(by rw [← g82]; simp only [riF, ↓reduceIte]; repeat' (first | split | omega)), (by (try rw [c346]); first | done | with_reducible assumption | omega), (by (try rw [c349]); rw [← g82]; simp only [riF, ↓reduceIte]; repeat' (first | split | omega)), (by (try rw [c351]); rw [← g83]; simp only [riP, ↓reduceIte]; repeat' (first | split | omega)), trivial⟩)), trivial⟩
      · skip
        obtain ⟨gk105, rfl⟩ : ∃ k, gr65 = k + 1 := ⟨gr65 - 1, by omega⟩
        refine tr_iload dX12_readRising_9 hl61 ?_
        refine q_if_eq 92 dX12_readRising_11 (by decide) (fun h366 => ?_) (fun h366 => ?_)
        · skip
          exfalso; omega
        · skip
          refine tr_aload_n dX12_readRising_14 hl55 ?_
          refine q_getI dX12_readRising_15 fl12_99 (kR15 hS66.1 ta0) c71 ?_
          refine q_iconst dX12_readRising_18 (by decide) ?_
          intro v367 h368
          refine q_icmp_eq 92 dX12_readRising_19 (by decide) (fun h369 => ?_) (fun h369 => ?_)
          · skip
            exfalso; omega
          · skip
            refine tr_aload_n dX12_readRising_22 hl55 ?_
            refine tr_iload dX12_readRising_23 hl60 ?_
            refine tr_aload_n dX12_readRising_25 hl55 ?_
            refine tr_getR dX12_readRising_26 fl12_188 (kR15 hS66.1 ta0) d12 ?_
            refine q_getI dX12_readRising_29 fl12_192 (kR14 hS66.1 ta11) ((hS66.cell ta11 (by decide +kernel)).trans c40) ?_
            refine q_iconst dX12_readRising_32 (by decide) ?_
            intro v370 h371
            refine q_isubE dX12_readRising_33 (by intros; omega) ?_
            intro v372 h373
            refine q_callVi hE (M' := mX12_bounded) (as := [_, _]) dX12_readRising_34 lk12_153 inX12_bounded seX12_bounded myX12_bounded (by decide) ⟨by decide, by decide⟩ rfl (kR15 hS66.1 ta0) (Nat.le_of_ble_eq_true rfl) rfl rfl (by decide) (by decide) (fk_X12_bounded hS66.1 (gB) (gs64) ta0 (by (try rw [c71]); first | done | with_reducible assumption | omega) (by (try rw [c71]); first | done | with_reducible assumption | omega) (by (try rw [c73]); first | done | with_reducible assumption | omega) (by (try rw [c75]); first | done | with_reducible assumption | omega) (by (try rw [c77]); first | done | assumption) (by (try rw [c79]); first | done | assumption) (by (try rw [c81]); first | done | assumption)) ?_
            rintro v379 cn' K' N' I374 R375 L376 ⟨rfl, rfl, rfl, rfl, rfl, g377, dj380, -⟩
            have hS381 := hS66.tr g377 (by decide +kernel) (by decide +kernel)
            have c382 : I374 a0 10 = v72 := (g377.cell ta0 (by decide +kernel)).trans c73
            have c383 : I374 a0 11 = v74 := (g377.cell ta0 (by decide +kernel)).trans c75
            have c384 : I374 a0 12 = v78 := (g377.cell ta0 (by decide +kernel)).trans c79
            have c385 : I374 a0 8 = v80 := (g377.cell ta0 (by decide +kernel)).trans c81
            rcases dj380 with ⟨p386, p387, p388, p389, p390, p391, p392, p393, p394, p395, p396, p397, -⟩ | ⟨p398, p399, p400, p401, p402, -⟩ | ⟨p403, p404, p405, p406, p407, p408, -⟩
            · skip
              obtain ⟨v409, c410⟩ : ∃ v, I374 a0 13 = v := ⟨_, rfl⟩
              rw [c410] at p390
              rw [c69] at p390
              obtain ⟨v411, c412⟩ : ∃ v, I374 a0 9 = v := ⟨_, rfl⟩
              have b413 := iv15_9 hS381.1 ta0 c412
              rw [c412] at p391
              rw [c412] at p392
              rw [c382] at p393
              rw [c383] at p394
              rw [c77] at p395
              rw [c384] at p396
              rw [c385] at p397
              refine tr_istore dX12_readRising_37 (by decide) (by decide) ?_
              refine tr_iload dX12_readRising_39 hl59 ?_
              refine tr_iload_n dX12_readRising_41 hl58 ?_
              refine q_icmp_ne 50 dX12_readRising_42 (by decide) (fun h414 => ?_) (fun h414 => ?_)
              · skip
                refine tr_aload_n dX12_readRising_50 hl55 ?_
                have p415 := p397 (by omega)
                refine q_callVv hE (M' := mX12_goesOn) (as := []) dX12_readRising_51 lk12_142 inX12_goesOn seX12_goesOn myX12_goesOn (by decide) ⟨by decide, by decide⟩ rfl (kR15 hS381.1 ta0) (Nat.le_of_ble_eq_true rfl) rfl rfl (by decide) (by decide) (fk_X12_goesOn hS381.1 (gB) ((tkN gB gs64)) ta0 (TxA.kp hT hS381 ta0 rfl rfl rfl (by decide +kernel) (by decide +kernel)) (by (try rw [c385]); first | done | with_reducible assumption | omega) (by (try rw [((hS381.cell ta0 (by decide +kernel)).trans c36)]); first | done | with_reducible assumption | omega) (by (try rw [c412]); first | done | with_reducible assumption | omega)) ?_
                rintro cn' K' N' I416 R417 L418 ⟨rfl, rfl, rfl, rfl, g419, gl420, p422, p423, p424, p425, p426, p427, p428, -⟩
                have hS429 := hS381.tr g419 (by decide +kernel) (by decide +kernel)
                have c430 : I416 a0 13 = v409 := (g419.cell ta0 (by decide +kernel)).trans c410
                have hL431 := hL67.tr gl420 (by decide +kernel)
                obtain ⟨v432, c433⟩ : ∃ v, I416 a0 9 = v := ⟨_, rfl⟩
                have b434 := iv15_9 hS429.1 ta0 c433
                rw [c433] at p422
                rw [c433] at p423
                obtain ⟨v435, c436⟩ : ∃ v, I416 a0 10 = v := ⟨_, rfl⟩
                have b437 := iv15_10 hS429.1 ta0 c436
                rw [c436] at p424
                obtain ⟨v438, c439⟩ : ∃ v, I416 a0 11 = v := ⟨_, rfl⟩
                rw [c439] at p425
                obtain ⟨y440, c441⟩ : ∃ v, L418 a0 15 = v := ⟨_, rfl⟩
                rw [c441] at p426
                obtain ⟨v442, c443⟩ : ∃ v, I416 a0 12 = v := ⟨_, rfl⟩
                rw [c443] at p427
                obtain ⟨v444, c445⟩ : ∃ v, I416 a0 8 = v := ⟨_, rfl⟩
                have b446 := iv15_8 hS429.1 ta0 c445
                rw [c445] at p428
                refine tr_aload_n dX12_readRising_54 hl55 ?_
                refine q_getI dX12_readRising_55 fl12_99 (kR15 hS429.1 ta0) c433 ?_
                refine q_iconst dX12_readRising_58 (by decide) ?_
                intro v447 h448
                refine q_icmp_ne 64 dX12_readRising_59 (by decide) (fun h449 => ?_) (fun h449 => ?_)
                · skip
                  refine tr_aload_n dX12_readRising_64 hl56 ?_
                  refine tr_iload_n dX12_readRising_65 hl57 ?_
                  refine tr_iload dX12_readRising_66 hl59 ?_
                  refine q_iaddE dX12_readRising_68 (by intros; omega) ?_
                  intro v450 h451
                  refine tr_iload dX12_readRising_69 rfl ?_
                  refine q_iast dX12_readRising_71 (kR59 hS429.1 ta1) (ti_in (nR59 hS429.1 ta1) (by omega) (by omega)) hS429 ta1 (by show (0 : Int) ≤ v379.toInt ∧ v379.toInt ≤ (239 : Int); omega) rfl (by rfl) ?_
                  intro I452 hS453 e455 f454
                  have c456 : I452 a0 13 = v409 := (f454 _ _ (fun q => by have z := ta0; rw [q.1, ta1] at z; exact absurd z (by decide))).trans c430
                  have c457 : I452 a0 9 = v432 := (f454 _ _ (fun q => by have z := ta0; rw [q.1, ta1] at z; exact absurd z (by decide))).trans c433
                  have c458 : I452 a0 10 = v435 := (f454 _ _ (fun q => by have z := ta0; rw [q.1, ta1] at z; exact absurd z (by decide))).trans c436
                  have c459 : I452 a0 11 = v438 := (f454 _ _ (fun q => by have z := ta0; rw [q.1, ta1] at z; exact absurd z (by decide))).trans c439
                  have c460 : I452 a0 12 = v442 := (f454 _ _ (fun q => by have z := ta0; rw [q.1, ta1] at z; exact absurd z (by decide))).trans c443
                  have c461 : I452 a0 8 = v444 := (f454 _ _ (fun q => by have z := ta0; rw [q.1, ta1] at z; exact absurd z (by decide))).trans c445
                  refine q_iincE dX12_readRising_72 hl59 (by decide) (by decide) (by intros; omega) ?_
                  intro v462 h463
                  refine tr_iload dX12_readRising_75 rfl ?_
                  refine q_iconst dX12_readRising_77 (by decide) ?_
                  intro v464 h465
                  refine q_iaddE dX12_readRising_78 (by intros; omega) ?_
                  intro v466 h467
                  refine tr_istore dX12_readRising_79 (by decide) (by decide) ?_
                  refine tr_aload_n dX12_readRising_81 hl55 ?_
                  refine q_bipush dX12_readRising_82 (by decide +kernel) ?_
                  intro v468 h469
                  refine q_callVi hE (M' := mX12_eatsSign) (as := [_]) dX12_readRising_84 lk12_221 inX12_eatsSign seX12_eatsSign myX12_eatsSign (by decide) ⟨by decide, by decide⟩ rfl (kR15 hS453.1 ta0) (Nat.le_of_ble_eq_true rfl) rfl rfl (by decide) (by decide) (fk_X12_eatsSign hS453.1 (gB) ((tkN gB gs64)) ta0 (TxA.kp hT hS453 ta0 rfl rfl rfl (by decide +kernel) (by decide +kernel)) (by (try rw [c457]); first | done | with_reducible assumption | omega) (by (try rw [c457]); first | done | with_reducible assumption | omega) (by (try rw [c458]); first | done | with_reducible assumption | omega) (by (try rw [c459]); first | done | with_reducible assumption | omega) (by (try rw [c441]); first | done | assumption) (by (try rw [c460]); first | done | assumption) (by (try rw [c461]); first | done | assumption) (by (try rw [((hS453.cell ta0 (by decide +kernel)).trans c36)]); first | done | with_reducible assumption | omega) (by first | done | with_reducible assumption | omega)) ?_
                  rintro v475 cn' K' N' I470 R471 L472 ⟨rfl, rfl, rfl, rfl, g473, gl474, h476, dj477, -⟩
                  have hS478 := hS453.tr g473 (by decide +kernel) (by decide +kernel)
                  have c479 : I470 a0 13 = v409 := (g473.cell ta0 (by decide +kernel)).trans c456
                  have hL480 := hL431.tr gl474 (by decide +kernel)
                  rcases dj477 with ⟨p481, p482, p483, p484, p485, p486, p487, p488, p489, p490, -⟩ | ⟨p491, p492, p493, p494, p495, p496, p497, p498, p499, p500, -⟩
                  · skip
                    rw [c479] at p483
                    rw [c456] at p483
                    obtain ⟨v501, c502⟩ : ∃ v, I470 a0 9 = v := ⟨_, rfl⟩
                    have b503 := iv15_9 hS478.1 ta0 c502
                    rw [c502] at p484
                    rw [c502] at p485
                    obtain ⟨v504, c505⟩ : ∃ v, I470 a0 10 = v := ⟨_, rfl⟩
                    have b506 := iv15_10 hS478.1 ta0 c505
                    rw [c505] at p486
                    obtain ⟨v507, c508⟩ : ∃ v, I470 a0 11 = v := ⟨_, rfl⟩
                    rw [c508] at p487
                    obtain ⟨y509, c510⟩ : ∃ v, L472 a0 15 = v := ⟨_, rfl⟩
                    rw [c510] at p488
                    obtain ⟨v511, c512⟩ : ∃ v, I470 a0 12 = v := ⟨_, rfl⟩
                    rw [c512] at p489
                    obtain ⟨v513, c514⟩ : ∃ v, I470 a0 8 = v := ⟨_, rfl⟩
                    have b515 := iv15_8 hS478.1 ta0 c514
                    rw [c514] at p490
                    refine tr_istore dX12_readRising_87 (by decide) (by decide) ?_
                    refine tr_goto 9 dX12_readRising_89 (by decide) ?_
                    exact ih99 _ v462 v466 v475 I470 L472 ((tkN gB (tkN gB gs64))) (gk105) v409 v501 v504 v507 y509 v511 v513 hl55 hl56 hl57 hl58 rfl rfl rfl hS478 hL480 c479 c502 c505 c508 c510 c512 c514 (by rw [← g82]; simp only [riF, ↓reduceIte]; rw [show v466.toInt = tkV gB gs64 + 1 by omega]; repeat' (first | split | omega)) (by rw [← g83]; simp only [riP, ↓reduceIte]; rw [show v466.toInt = tkV gB gs64 + 1 by omega]; repeat' (first | split | omega)) (by rw [← g84]; simp only [riS, ↓reduceIte]; rw [show v466.toInt = tkV gB gs64 + 1 by omega]; repeat' (first | split | omega)) (by omega) (by omega) (by omega) (by omega) (by omega) (by omega) (by omega) (by omega) (by omega) (by omega) (by omega) (by assumption) (by assumption) (by assumption) (by omega)
                  · skip
                    rw [c479] at p493
                    rw [c456] at p493
                    obtain ⟨v516, c517⟩ : ∃ v, I470 a0 9 = v := ⟨_, rfl⟩
                    have b518 := iv15_9 hS478.1 ta0 c517
                    rw [c517] at p494
                    rw [c517] at p495
                    obtain ⟨v519, c520⟩ : ∃ v, I470 a0 10 = v := ⟨_, rfl⟩
                    have b521 := iv15_10 hS478.1 ta0 c520
                    rw [c520] at p496
                    obtain ⟨v522, c523⟩ : ∃ v, I470 a0 11 = v := ⟨_, rfl⟩
                    rw [c523] at p497
                    obtain ⟨y524, c525⟩ : ∃ v, L472 a0 15 = v := ⟨_, rfl⟩
                    rw [c525] at p498
                    obtain ⟨v526, c527⟩ : ∃ v, I470 a0 12 = v := ⟨_, rfl⟩
                    rw [c527] at p499
                    obtain ⟨v528, c529⟩ : ∃ v, I470 a0 8 = v := ⟨_, rfl⟩
                    have b530 := iv15_8 hS478.1 ta0 c529
                    rw [c529] at p500
                    refine tr_istore dX12_readRising_87 (by decide) (by decide) ?_
                    refine tr_goto 9 dX12_readRising_89 (by decide) ?_
                    refine tr_iload dX12_readRising_9 rfl ?_
                    refine q_if_eq 92 dX12_readRising_11 (by decide) (fun h531 => ?_) (fun h531 => ?_)
                    · skip
                      refine tr_iload dX12_readRising_92 rfl ?_
                      have es532 : riS gB gQ 8 0 gs = (tkN gB gs64) := by rw [← g84]; simp only [riS, ↓reduceIte]; repeat' (first | split | omega)
                      obtain ⟨v533, c534⟩ : ∃ v, I470 a0 14 = v := ⟨_, rfl⟩
                      exact tr_iret hZ dX12_readRising_94 rfl (by decide) (by decide) ⟨v462, rfl, rfl, rfl, rfl, rfl, hS478, (by omega), (Or.inl ⟨(by rw [← g82]; simp only [riF, ↓reduceIte]; repeat' (first | split | omega)), (by (try rw [es532]); (try rw [c479]); (try rw [c45]); first | done | with_reducible assumption | omega), (by (try rw [es532]); (try rw [c517]); first | done | with_reducible assumption | omega), (by (try rw [es532]); (try rw [c517]); first | done | with_reducible assumption | omega), (by (try rw [es532]); (try rw [c520]); first | done | with_reducible assumption | omega), (by (try rw [es532]); (try rw [c523]); first | done | with_reducible assumption | omega), (by (try rw [es532]); (try rw [c525]); first | done | assumption), (by (try rw [es532]); (try rw [c527]); first | done | assumption), (by (try rw [es532]); (try rw [c529]); first | done | assumption), hL480, trivial⟩), trivial⟩
                    · skip
                      exfalso; omega
                · skip
                  exfalso; omega
              · skip
                exfalso; omega
            · skip
              obtain ⟨v535, c536⟩ : ∃ v, I374 a0 9 = v := ⟨_, rfl⟩
              have b537 := iv15_9 hS381.1 ta0 c536
              rw [c536] at p400
              obtain ⟨v538, c539⟩ : ∃ v, I374 a0 13 = v := ⟨_, rfl⟩
              rw [c539] at p401
              obtain ⟨v540, c541⟩ : ∃ v, I374 a0 14 = v := ⟨_, rfl⟩
              rw [c541] at p402
              refine tr_istore dX12_readRising_37 (by decide) (by decide) ?_
              refine tr_iload dX12_readRising_39 hl59 ?_
              refine tr_iload_n dX12_readRising_41 hl58 ?_
              refine q_icmp_ne 50 dX12_readRising_42 (by decide) (fun h542 => ?_) (fun h542 => ?_)
              · skip
                refine tr_aload_n dX12_readRising_50 hl55 ?_
                refine q_callVv hE (M' := mX12_goesOn) (as := []) dX12_readRising_51 lk12_142 inX12_goesOn seX12_goesOn myX12_goesOn (by decide) ⟨by decide, by decide⟩ rfl (kR15 hS381.1 ta0) (Nat.le_of_ble_eq_true rfl) rfl rfl (by decide) (by decide) (k_X12_goesOn hS381.1 ta0) ?_
                rintro cn' K' N' I543 R544 L545 ⟨rfl, rfl, rfl, rfl, g546, p548, p549, p550, w551, -⟩
                have hS552 := hS381.tr g546 (by decide +kernel) (by decide +kernel)
                have c553 : I543 a0 13 = v538 := (g546.cell ta0 (by decide +kernel)).trans c539
                have c554 : I543 a0 14 = v540 := (g546.cell ta0 (by decide +kernel)).trans c541
                obtain ⟨v555, c556⟩ : ∃ v, I543 a0 9 = v := ⟨_, rfl⟩
                have b557 := iv15_9 hS552.1 ta0 c556
                rw [c536] at p548
                rw [c556] at p548
                rw [c536] at p549
                rw [c556] at p549
                obtain ⟨v558, c559⟩ : ∃ v, I543 a0 8 = v := ⟨_, rfl⟩
                have b560 := iv15_8 hS552.1 ta0 c559
                rw [c559] at p550
                rw [c385] at p550
                rw [c553] at p550
                rw [c539] at p550
                have ov561 := w551.over (by rw [c536]; omega)
                obtain ⟨v562, c563⟩ : ∃ v, I543 a0 9 = v := ⟨_, rfl⟩
                have b564 := iv15_9 hS552.1 ta0 c563
                obtain ⟨v565, c566⟩ : ∃ v, I543 a0 13 = v := ⟨_, rfl⟩
                obtain ⟨v567, c568⟩ : ∃ v, I543 a0 14 = v := ⟨_, rfl⟩
                (try rw [c563] at ov561)
                (try rw [c566] at ov561)
                (try rw [c568] at ov561)
                (try rw [c536] at ov561)
                (try rw [c539] at ov561)
                (try rw [c541] at ov561)
                refine tr_aload_n dX12_readRising_54 hl55 ?_
                refine q_getI dX12_readRising_55 fl12_99 (kR15 hS552.1 ta0) c563 ?_
                refine q_iconst dX12_readRising_58 (by decide) ?_
                intro v569 h570
                refine q_icmp_ne 64 dX12_readRising_59 (by decide) (fun h571 => ?_) (fun h571 => ?_)
                · skip
                  exfalso; omega
                · skip
                  refine q_iconst dX12_readRising_62 (by decide) ?_
                  intro v572 h573
                  obtain ⟨v574, c575⟩ : ∃ v, I543 a0 10 = v := ⟨_, rfl⟩
                  have b576 := iv15_10 hS552.1 ta0 c575
                  obtain ⟨v577, c578⟩ : ∃ v, I543 a0 11 = v := ⟨_, rfl⟩
                  obtain ⟨y579, c580⟩ : ∃ v, L545 a0 15 = v := ⟨_, rfl⟩
                  obtain ⟨v581, c582⟩ : ∃ v, I543 a0 12 = v := ⟨_, rfl⟩
                  exact tr_iret hZ dX12_readRising_63 rfl (by decide) (by decide) ⟨v572, rfl, rfl, rfl, rfl, rfl, hS552, (by omega), (Or.inr (⟨(by rw [← g82]; simp only [riF, ↓reduceIte]; repeat' (first | split | omega)), (by (try rw [c563]); first | done | with_reducible assumption | omega), (by (try rw [c566]); rw [← g82]; simp only [riF, ↓reduceIte]; repeat' (first | split | omega)), (by (try rw [c568]); rw [← g83]; simp only [riP, ↓reduceIte]; repeat' (first | split | omega)), trivial⟩)), trivial⟩
              · skip
                exfalso; omega
            · skip
              obtain ⟨v583, c584⟩ : ∃ v, I374 a0 9 = v := ⟨_, rfl⟩
              have b585 := iv15_9 hS381.1 ta0 c584
              rw [c584] at p406
              obtain ⟨v586, c587⟩ : ∃ v, I374 a0 13 = v := ⟨_, rfl⟩
              rw [c587] at p407
              obtain ⟨v588, c589⟩ : ∃ v, I374 a0 14 = v := ⟨_, rfl⟩
              rw [c589] at p408
              refine tr_istore dX12_readRising_37 (by decide) (by decide) ?_
              refine tr_iload dX12_readRising_39 hl59 ?_
              refine tr_iload_n dX12_readRising_41 hl58 ?_
              refine q_icmp_ne 50 dX12_readRising_42 (by decide) (fun h590 => ?_) (fun h590 => ?_)
              · skip
                refine tr_aload_n dX12_readRising_50 hl55 ?_
                refine q_callVv hE (M' := mX12_goesOn) (as := []) dX12_readRising_51 lk12_142 inX12_goesOn seX12_goesOn myX12_goesOn (by decide) ⟨by decide, by decide⟩ rfl (kR15 hS381.1 ta0) (Nat.le_of_ble_eq_true rfl) rfl rfl (by decide) (by decide) (k_X12_goesOn hS381.1 ta0) ?_
                rintro cn' K' N' I591 R592 L593 ⟨rfl, rfl, rfl, rfl, g594, p596, p597, p598, w599, -⟩
                have hS600 := hS381.tr g594 (by decide +kernel) (by decide +kernel)
                have c601 : I591 a0 13 = v586 := (g594.cell ta0 (by decide +kernel)).trans c587
                have c602 : I591 a0 14 = v588 := (g594.cell ta0 (by decide +kernel)).trans c589
                obtain ⟨v603, c604⟩ : ∃ v, I591 a0 9 = v := ⟨_, rfl⟩
                have b605 := iv15_9 hS600.1 ta0 c604
                rw [c584] at p596
                rw [c604] at p596
                rw [c584] at p597
                rw [c604] at p597
                obtain ⟨v606, c607⟩ : ∃ v, I591 a0 8 = v := ⟨_, rfl⟩
                have b608 := iv15_8 hS600.1 ta0 c607
                rw [c607] at p598
                rw [c385] at p598
                rw [c601] at p598
                rw [c587] at p598
                have ov609 := w599.over (by rw [c584]; omega)
                obtain ⟨v610, c611⟩ : ∃ v, I591 a0 9 = v := ⟨_, rfl⟩
                have b612 := iv15_9 hS600.1 ta0 c611
                obtain ⟨v613, c614⟩ : ∃ v, I591 a0 13 = v := ⟨_, rfl⟩
                obtain ⟨v615, c616⟩ : ∃ v, I591 a0 14 = v := ⟨_, rfl⟩
                (try rw [c611] at ov609)
                (try rw [c614] at ov609)
                (try rw [c616] at ov609)
                (try rw [c584] at ov609)
                (try rw [c587] at ov609)
                (try rw [c589] at ov609)
                refine tr_aload_n dX12_readRising_54 hl55 ?_
                refine q_getI dX12_readRising_55 fl12_99 (kR15 hS600.1 ta0) c611 ?_
                refine q_iconst dX12_readRising_58 (by decide) ?_
                intro v617 h618
                refine q_icmp_ne 64 dX12_readRising_59 (by decide) (fun h619 => ?_) (fun h619 => ?_)
                · skip
                  exfalso; omega
                · skip
                  refine q_iconst dX12_readRising_62 (by decide) ?_
                  intro v620 h621
                  obtain ⟨v622, c623⟩ : ∃ v, I591 a0 10 = v := ⟨_, rfl⟩
                  have b624 := iv15_10 hS600.1 ta0 c623
                  obtain ⟨v625, c626⟩ : ∃ v, I591 a0 11 = v := ⟨_, rfl⟩
                  obtain ⟨y627, c628⟩ : ∃ v, L593 a0 15 = v := ⟨_, rfl⟩
                  obtain ⟨v629, c630⟩ : ∃ v, I591 a0 12 = v := ⟨_, rfl⟩
                  exact tr_iret hZ dX12_readRising_63 rfl (by decide) (by decide) ⟨v620, rfl, rfl, rfl, rfl, rfl, hS600, (by omega), (Or.inr (⟨(by rw [← g82]; simp only [riF, ↓reduceIte]; repeat' (first | split | omega)), (by (try rw [c611]); first | done | with_reducible assumption | omega), (by (try rw [c614]); rw [← g82]; simp only [riF, ↓reduceIte]; repeat' (first | split | omega)), (by (try rw [c616]); rw [← g83]; simp only [riP, ↓reduceIte]; repeat' (first | split | omega)), trivial⟩)), trivial⟩
              · skip
                exfalso; omega
  exact lp99 _ _ v46 v48 v50 I0 L0 (gs) (8) v44 v13 v18 v22 y25 v28 v31 rfl rfl rfl rfl rfl rfl rfl hS0 hL0 c45 c14 c19 c23 c26 c29 c32 (by first | rfl | (congr 1; omega) | (congr 2 <;> omega)) (by first | rfl | (congr 1; omega) | (congr 2 <;> omega)) (by first | rfl | (congr 1; omega) | (congr 2 <;> omega)) (by omega) (by omega) (by omega) (by omega) (by omega) (by omega) (by omega) (by omega) (by omega) (by omega) (by omega) (by assumption) (by assumption) (by assumption) (Nat.lt_succ_self _)
def wik_X12_readAlmanac : List Nat := [904, 905, 968, 969, 970, 971, 972, 973, 974, 3839]
def wrk_X12_readAlmanac : List Nat := []
def wlk_X12_readAlmanac : List Nat := [975]
set_option maxHeartbeats 4000000 in
theorem fk_X12_readAlmanac {l : Launch} {T : Nat → Nat} {cn : Nat} {K N : Nat → Nat} {I0 : cz_I} {R0 : cz_R} {L0 : cz_L} (hW0 : Wf T cn K N I0 R0 0) (gB : cz_B) (gs : Int) (gQ : Nat → Int) {a0 : Nat} (ta0 : T a0 = 15) (hT : ∀ t, R0 a0 5 = some t → Tx I0 t gB) (hN : ∀ b, R0 a0 4 = some b → NmM I0 R0 L0 b gQ) (pre0 : (I0 a0 9).toInt = (tkM gB gs)) (pre1 : (I0 a0 9).toInt ≤ 4) (pre2 : (I0 a0 10).toInt = (tkS gB gs)) (pre3 : (I0 a0 11).toInt = (tkG gB gs)) (pre4 : (AtW ((tkK gB gs)) ((L0 a0 15).toInt) ((tkW gB gs)))) (pre5 : (AtV ((tkK gB gs)) ((I0 a0 12).toInt) ((tkV gB gs)))) (pre6 : (AtN ((tkK gB gs)) ((I0 a0 8).toInt) ((tkN gB gs)))) (pre7 : (I0 a0 7).toInt = (gB.2)) (pre8 : ∀ b1, R0 a0 4 = some b1 → (I0 b1 0).toInt = (gQ 0)) (pre9 : ∀ b1, R0 a0 4 = some b1 → (I0 b1 1).toInt = (gQ 1)) (pre10 : ∀ b1, R0 a0 4 = some b1 → (I0 b1 2).toInt = (gQ 2)) (pre11 : ∀ b1, R0 a0 4 = some b1 → (I0 b1 3).toInt = (gQ 3)) (pre12 : ∀ b1, R0 a0 4 = some b1 → (I0 b1 4).toInt = (gQ 4)) (pre13 : ∀ b1, R0 a0 4 = some b1 → (I0 b1 5).toInt = (gQ 5)) (pre14 : ∀ b1, R0 a0 4 = some b1 → (I0 b1 6).toInt = (gQ 6)) (pre15 : ∀ b1, R0 a0 4 = some b1 → (I0 b1 9).toInt = (gQ 8)) (pre16 : (Q7M ((gQ 0)) ((gQ 7)))) (pre17 : (tkK gB gs) = 1) (pre18 : (srt gB gs) = 6) (nn4 : ∃ b, R0 a0 4 = some b) : ConE l mX12_readAlmanac [.ref a0] cn K N I0 R0 L0 (ca_v (fun cn' K' N' I' R' L' => cn = cn' ∧ K = K' ∧ N = N' ∧ R0 = R' ∧ St T cn K N 0 wik_X12_readAlmanac wrk_X12_readAlmanac I0 R0 I' R0 ∧ (∀ dr, R0 a0 4 = some dr → FrO 14 dr T I0 I') ∧ ((((lnF gB gQ gs) = 0) ∧ (∀ b1, R0 a0 4 = some b1 → (I' b1 0).toInt = (lnQ gB gQ gs 0)) ∧ (∀ b1, R0 a0 4 = some b1 → (I' b1 1).toInt = (lnQ gB gQ gs 1)) ∧ (∀ b1, R0 a0 4 = some b1 → (I' b1 2).toInt = (lnQ gB gQ gs 2)) ∧ (∀ b1, R0 a0 4 = some b1 → (I' b1 3).toInt = (lnQ gB gQ gs 3)) ∧ (∀ b1, R0 a0 4 = some b1 → (I' b1 4).toInt = (lnQ gB gQ gs 4)) ∧ (∀ b1, R0 a0 4 = some b1 → (I' b1 5).toInt = (lnQ gB gQ gs 5)) ∧ (∀ b1, R0 a0 4 = some b1 → (I' b1 6).toInt = (lnQ gB gQ gs 6)) ∧ (∀ b1, R0 a0 4 = some b1 → (I' b1 9).toInt = (lnQ gB gQ gs 8)) ∧ ((I' a0 13).toInt = (I0 a0 13).toInt) ∧ ((I' a0 9).toInt = (tkM gB (lnS gB gQ gs))) ∧ ((I' a0 9).toInt ≤ 4) ∧ ((I' a0 10).toInt = (tkS gB (lnS gB gQ gs))) ∧ ((I' a0 11).toInt = (tkG gB (lnS gB gQ gs))) ∧ ((AtW ((tkK gB (lnS gB gQ gs))) ((L' a0 15).toInt) ((tkW gB (lnS gB gQ gs))))) ∧ ((AtV ((tkK gB (lnS gB gQ gs))) ((I' a0 12).toInt) ((tkV gB (lnS gB gQ gs))))) ∧ ((AtN ((tkK gB (lnS gB gQ gs))) ((I' a0 8).toInt) ((tkN gB (lnS gB gQ gs))))) ∧ LgS T wlk_X12_readAlmanac L0 L' ∧ (∀ b, R0 a0 4 = some b → NmM I' R0 L' b (lnQ gB gQ gs)) ∧ True) ∨ (((lnF gB gQ gs) ≠ 0) ∧ ((I' a0 9).toInt = 5) ∧ ((I' a0 13).toInt = (lnF gB gQ gs)) ∧ ((I' a0 14).toInt = (lnP gB gQ gs)) ∧ True)) ∧ True)) := by
  refine ConE.of (by decide +kernel) rfl (Nat.le_of_ble_eq_true rfl) rfl (fun X hX hZ hE => ?_)
  subst hX
  have hS0 : St T cn K N 0 wik_X12_readAlmanac wrk_X12_readAlmanac I0 R0 I0 R0 := St.rf0 hW0
  have hL0 : LgS T wlk_X12_readAlmanac L0 L0 := LgS.rf0
  obtain ⟨a1, d2⟩ := nn4
  have ta1 : T a1 = 14 := hW0.rsN ta0 rfl d2
  obtain ⟨v3, c4⟩ : ∃ v, I0 a0 9 = v := ⟨_, rfl⟩
  have b5 := iv15_9 hS0.1 ta0 c4
  have p6 := pre0
  rw [c4] at p6
  have p7 := pre1
  rw [c4] at p7
  obtain ⟨v8, c9⟩ : ∃ v, I0 a0 10 = v := ⟨_, rfl⟩
  have b10 := iv15_10 hS0.1 ta0 c9
  have p11 := pre2
  rw [c9] at p11
  obtain ⟨v12, c13⟩ : ∃ v, I0 a0 11 = v := ⟨_, rfl⟩
  have p14 := pre3
  rw [c13] at p14
  obtain ⟨y15, c16⟩ : ∃ v, L0 a0 15 = v := ⟨_, rfl⟩
  have p17 := pre4
  rw [c16] at p17
  obtain ⟨v18, c19⟩ : ∃ v, I0 a0 12 = v := ⟨_, rfl⟩
  have p20 := pre5
  rw [c19] at p20
  obtain ⟨v21, c22⟩ : ∃ v, I0 a0 8 = v := ⟨_, rfl⟩
  have b23 := iv15_8 hS0.1 ta0 c22
  have p24 := pre6
  rw [c22] at p24
  obtain ⟨v25, c26⟩ : ∃ v, I0 a0 7 = v := ⟨_, rfl⟩
  have b27 := iv15_7 hW0 ta0 c26
  have p28 := pre7
  rw [c26] at p28
  obtain ⟨v29, c30⟩ : ∃ v, I0 a1 0 = v := ⟨_, rfl⟩
  have b31 := iv14_0 hW0 ta1 c30
  have p32 := pre8 _ d2
  rw [c30] at p32
  obtain ⟨v33, c34⟩ : ∃ v, I0 a1 1 = v := ⟨_, rfl⟩
  have b35 := iv14_1 hW0 ta1 c34
  have p36 := pre9 _ d2
  rw [c34] at p36
  obtain ⟨v37, c38⟩ : ∃ v, I0 a1 2 = v := ⟨_, rfl⟩
  have b39 := iv14_2 hW0 ta1 c38
  have p40 := pre10 _ d2
  rw [c38] at p40
  obtain ⟨v41, c42⟩ : ∃ v, I0 a1 3 = v := ⟨_, rfl⟩
  have b43 := iv14_3 hW0 ta1 c42
  have p44 := pre11 _ d2
  rw [c42] at p44
  obtain ⟨v45, c46⟩ : ∃ v, I0 a1 4 = v := ⟨_, rfl⟩
  have b47 := iv14_4 hW0 ta1 c46
  have p48 := pre12 _ d2
  rw [c46] at p48
  obtain ⟨v49, c50⟩ : ∃ v, I0 a1 5 = v := ⟨_, rfl⟩
  have b51 := iv14_5 hW0 ta1 c50
  have p52 := pre13 _ d2
  rw [c50] at p52
  obtain ⟨v53, c54⟩ : ∃ v, I0 a1 6 = v := ⟨_, rfl⟩
  have b55 := iv14_6 hW0 ta1 c54
  have p56 := pre14 _ d2
  rw [c54] at p56
  obtain ⟨v57, c58⟩ : ∃ v, I0 a1 9 = v := ⟨_, rfl⟩
  have b59 := iv14_9 hS0.1 ta1 c58
  have p60 := pre15 _ d2
  rw [c58] at p60
  have p61 := pre16
  have p62 := pre17
  have p63 := pre18
  obtain ⟨v64, c65⟩ : ∃ v, I0 a0 13 = v := ⟨_, rfl⟩
  have hM0 := hN _ d2
  have hO0 : FrO 14 a1 T I0 I0 := FrO.rf
  have hF := lnF_ch gB gQ gs
  have hP := lnP_ch gB gQ gs
  replace hF := hF.neg (by omega)
  replace hP := hP.neg (by omega)
  refine tr_aload_n dX12_readAlmanac_0 rfl ?_
  refine tr_getR dX12_readAlmanac_1 fl12_188 (kR15 hS0.1 ta0) d2 ?_
  refine q_getZ dX12_readAlmanac_4 fl12_302 (kR14 hS0.1 ta1) c58 ?_
  refine q_if_eq 15 dX12_readAlmanac_7 (by decide) (fun h66 => ?_) (fun h66 => ?_)
  · skip
    replace hF := hF.neg (by omega)
    replace hP := hP.neg (by omega)
    refine tr_aload_n dX12_readAlmanac_15 rfl ?_
    refine q_iconst dX12_readAlmanac_16 (by decide) ?_
    intro v67 h68
    refine q_iconst dX12_readAlmanac_17 (by decide) ?_
    intro v69 h70
    refine q_callVv hE (M' := mX12_begins) (as := [_, _]) dX12_readAlmanac_18 lk12_268 inX12_begins seX12_begins myX12_begins (by decide) ⟨by decide, by decide⟩ rfl (kR15 hS0.1 ta0) (Nat.le_of_ble_eq_true rfl) rfl rfl (by decide) (by decide) (fk_X12_begins hS0.1 (gB) (gs) (gQ) ta0 (TxA.kp hT hS0 ta0 rfl rfl rfl (by decide +kernel) (by decide +kernel)) (by (try rw [c4]); first | done | with_reducible assumption | omega) (by (try rw [c4]); first | done | with_reducible assumption | omega) (by (try rw [c9]); first | done | with_reducible assumption | omega) (by (try rw [c13]); first | done | with_reducible assumption | omega) (by (try rw [c16]); first | done | assumption) (by (try rw [c19]); first | done | assumption) (by (try rw [c22]); first | done | assumption) (by (try rw [c26]); first | done | with_reducible assumption | omega) (fun q0 z0 => by obtain rfl := Option.some.inj ((d2).symm.trans z0); (try rw [c30]); first | done | with_reducible assumption | omega) (by first | done | with_reducible assumption | omega) ⟨_, d2⟩) ?_
    rintro cn' K' N' I71 R72 L73 ⟨rfl, rfl, rfl, rfl, g74, dj77, -⟩
    have hM78 : NmM I71 R0 L0 a1 gQ := NmM.kpS hM0 g74 hS0.1 ta1 (by decide +kernel) (by decide +kernel)
    have hS79 := hS0.tr g74 (by decide +kernel) (by decide +kernel)
    have c80 : I71 a1 9 = v57 := (g74.cell ta1 (by decide +kernel)).trans c58
    have hO81 : FrO 14 a1 T I0 I71 := hO0.st g74 (by decide +kernel)
    rcases dj77 with ⟨p82, p83, p84, p85, p86, p87, p88, p89, p90, p91, gl92, -⟩ | ⟨p93, p94, p95, p96, -⟩ | ⟨p97, p98, p99, p100, p101, -⟩
    · skip
      have hL102 := hL0.tr gl92 (by decide +kernel)
      have hM103 : NmM I71 R0 L73 a1 gQ := NmM.kpL hM78 gl92 hS79.1 ta1 (by decide +kernel)
      obtain ⟨v104, c105⟩ : ∃ v, I71 a0 13 = v := ⟨_, rfl⟩
      rw [c105] at p84
      rw [c65] at p84
      obtain ⟨v106, c107⟩ : ∃ v, I71 a0 9 = v := ⟨_, rfl⟩
      have b108 := iv15_9 hS79.1 ta0 c107
      rw [c107] at p85
      rw [c107] at p86
      obtain ⟨v109, c110⟩ : ∃ v, I71 a0 10 = v := ⟨_, rfl⟩
      have b111 := iv15_10 hS79.1 ta0 c110
      rw [c110] at p87
      obtain ⟨v112, c113⟩ : ∃ v, I71 a0 11 = v := ⟨_, rfl⟩
      rw [c113] at p88
      obtain ⟨y114, c115⟩ : ∃ v, L73 a0 15 = v := ⟨_, rfl⟩
      rw [c115] at p89
      obtain ⟨v116, c117⟩ : ∃ v, I71 a0 12 = v := ⟨_, rfl⟩
      rw [c117] at p90
      obtain ⟨v118, c119⟩ : ∃ v, I71 a0 8 = v := ⟨_, rfl⟩
      have b120 := iv15_8 hS79.1 ta0 c119
      rw [c119] at p91
      have p121 := p61
      unfold Q7M at p121
      replace hF := hF.neg (by omega)
      replace hP := hP.neg (by omega)
      replace hF := hF.neg (by omega)
      replace hP := hP.neg (by omega)
      clear p121
      obtain ⟨w122, w123, w124, w125, w126, w127, w128, w129, w130, w131, w132, w133⟩ := lnl_6 (B := gB) (Q := gQ) (s := gs) (by omega)
      replace hF := hF.to w122 (show ChE (riF gB gQ 8 0 (tkN gB gs)) (riF gB gQ 8 0 (tkN gB gs)) from rfl)
      replace hP := hP.to w123 (show ChE (riP gB gQ 8 0 (tkN gB gs)) (riP gB gQ 8 0 (tkN gB gs)) from rfl)
      refine tr_aload_n dX12_readAlmanac_21 rfl ?_
      refine tr_aload_n dX12_readAlmanac_22 rfl ?_
      refine tr_getR dX12_readAlmanac_23 fl12_188 (kR15 hS79.1 ta0) d2 ?_
      obtain ⟨a134, d135, ta134⟩ := rf14_16 hW0 ta1
      refine tr_getR dX12_readAlmanac_26 fl12_306 (kR14 hS79.1 ta1) d135 ?_
      refine q_iconst dX12_readAlmanac_29 (by decide) ?_
      intro v136 h137
      refine q_bipush dX12_readAlmanac_30 (by decide +kernel) ?_
      intro v138 h139
      refine q_callVi hE (M' := mX12_readRising) (as := [_, _, _]) dX12_readAlmanac_32 lk12_308 inX12_readRising seX12_readRising myX12_readRising (by decide) ⟨by decide, by decide⟩ rfl (kR15 hS79.1 ta0) (Nat.le_of_ble_eq_true rfl) rfl rfl (by decide) (by decide) (fk_X12_readRising hS79.1 (gB) ((tkN gB gs)) (gQ) ta0 ta134 (by omega) (by omega) (TxA.kp hT hS79 ta0 rfl rfl rfl (by decide +kernel) (by decide +kernel)) (by (try rw [c107]); first | done | with_reducible assumption | omega) (by (try rw [c107]); first | done | with_reducible assumption | omega) (by (try rw [c110]); first | done | with_reducible assumption | omega) (by (try rw [c113]); first | done | with_reducible assumption | omega) (by (try rw [c115]); first | done | assumption) (by (try rw [c117]); first | done | assumption) (by (try rw [c119]); first | done | assumption) (by (try rw [((hS79.cell ta0 (by decide +kernel)).trans c26)]); first | done | with_reducible assumption | omega) (fun q0 z0 => by obtain rfl := Option.some.inj ((d2).symm.trans z0); (try rw [((hS79.cell ta1 (by decide +kernel)).trans c30)]); first | done | with_reducible assumption | omega) (by first | done | with_reducible assumption | omega) ⟨_, d2⟩) ?_
      rintro v145 cn' K' N' I140 R141 L142 ⟨rfl, rfl, rfl, rfl, g143, h146, dj147, -⟩
      have hM148 : NmM I140 R0 L73 a1 gQ := NmM.kpS hM103 g143 hS79.1 ta1 (by decide +kernel) (by decide +kernel)
      have hS149 := hS79.tr g143 (by decide +kernel) (by decide +kernel)
      have c150 : I140 a1 9 = v57 := (g143.cell ta1 (by decide +kernel)).trans c80
      have hO151 : FrO 14 a1 T I0 I140 := hO81.st g143 (by decide +kernel)
      rcases dj147 with ⟨p152, p153, p154, p155, p156, p157, p158, p159, p160, gl161, -⟩ | ⟨p162, p163, p164, p165, -⟩
      · skip
        have hL166 := hL102.tr gl161 (by decide +kernel)
        have hM167 : NmM I140 R0 L142 a1 gQ := NmM.kpL hM148 gl161 hS149.1 ta1 (by decide +kernel)
        obtain ⟨v168, c169⟩ : ∃ v, I140 a0 13 = v := ⟨_, rfl⟩
        rw [c169] at p153
        rw [c105] at p153
        obtain ⟨v170, c171⟩ : ∃ v, I140 a0 9 = v := ⟨_, rfl⟩
        have b172 := iv15_9 hS149.1 ta0 c171
        rw [c171] at p154
        rw [c171] at p155
        obtain ⟨v173, c174⟩ : ∃ v, I140 a0 10 = v := ⟨_, rfl⟩
        have b175 := iv15_10 hS149.1 ta0 c174
        rw [c174] at p156
        obtain ⟨v176, c177⟩ : ∃ v, I140 a0 11 = v := ⟨_, rfl⟩
        rw [c177] at p157
        obtain ⟨y178, c179⟩ : ∃ v, L142 a0 15 = v := ⟨_, rfl⟩
        rw [c179] at p158
        obtain ⟨v180, c181⟩ : ∃ v, I140 a0 12 = v := ⟨_, rfl⟩
        rw [c181] at p159
        obtain ⟨v182, c183⟩ : ∃ v, I140 a0 8 = v := ⟨_, rfl⟩
        have b184 := iv15_8 hS149.1 ta0 c183
        rw [c183] at p160
        refine tr_istore_n dX12_readAlmanac_35 (by decide) (by decide) ?_
        refine tr_aload_n dX12_readAlmanac_36 rfl ?_
        refine q_getI dX12_readAlmanac_37 fl12_99 (kR15 hS149.1 ta0) c171 ?_
        refine q_iconst dX12_readAlmanac_40 (by decide) ?_
        intro v185 h186
        refine q_icmp_ne 45 dX12_readAlmanac_41 (by decide) (fun h187 => ?_) (fun h187 => ?_)
        · skip
          refine tr_aload_n dX12_readAlmanac_45 rfl ?_
          refine tr_getR dX12_readAlmanac_46 fl12_188 (kR15 hS149.1 ta0) d2 ?_
          refine tr_iload_n dX12_readAlmanac_49 rfl ?_
          refine q_putI dX12_readAlmanac_50 fl12_312 (kR14 hS149.1 ta1) (Or.inl rfl) hS149 ta1 (by show (0 : Int) ≤ v145.toInt ∧ v145.toInt ≤ (8 : Int); omega) rfl (by decide +kernel) ?_
          intro I188 hS189 e190 f191
          have c192 : I188 a1 9 = v57 := (f191 _ _ (fun q => absurd q.2 (by decide))).trans c150
          have c193 : I188 a0 13 = v168 := (f191 _ _ (fun q => absurd q.2 (by decide))).trans c169
          have c194 : I188 a0 9 = v170 := (f191 _ _ (fun q => absurd q.2 (by decide))).trans c171
          have c195 : I188 a0 10 = v173 := (f191 _ _ (fun q => absurd q.2 (by decide))).trans c174
          have c196 : I188 a0 11 = v176 := (f191 _ _ (fun q => absurd q.2 (by decide))).trans c177
          have c197 : I188 a0 12 = v180 := (f191 _ _ (fun q => absurd q.2 (by decide))).trans c181
          have c198 : I188 a0 8 = v182 := (f191 _ _ (fun q => by have z := ta0; rw [q.1, ta1] at z; exact absurd z (by decide))).trans c183
          have hO199 : FrO 14 a1 T I0 I188 := hO151.put f191 ta1 (Or.inr rfl)
          have hM200 : NmM I188 R0 L142 a1 gQ := NmM.kp1 hM167 f191 ta1 rfl rfl hS149.1 ta1
          refine tr_aload_n dX12_readAlmanac_53 rfl ?_
          refine tr_getR dX12_readAlmanac_54 fl12_188 (kR15 hS189.1 ta0) d2 ?_
          refine q_iconst dX12_readAlmanac_57 (by decide) ?_
          intro v201 h202
          refine q_putZ dX12_readAlmanac_58 fl12_302 (kR14 hS189.1 ta1) (Or.inl rfl) hS189 ta1 (by omega) (by show (0 : Int) ≤ v201.toInt ∧ v201.toInt ≤ (1 : Int); omega) rfl (by decide +kernel) ?_
          intro I203 hS204 e205 f206
          have c207 : I203 a0 13 = v168 := (f206 _ _ (fun q => absurd q.2 (by decide))).trans c193
          have c208 : I203 a0 9 = v170 := (f206 _ _ (fun q => by have z := ta0; rw [q.1, ta1] at z; exact absurd z (by decide))).trans c194
          have c209 : I203 a0 10 = v173 := (f206 _ _ (fun q => absurd q.2 (by decide))).trans c195
          have c210 : I203 a0 11 = v176 := (f206 _ _ (fun q => absurd q.2 (by decide))).trans c196
          have c211 : I203 a0 12 = v180 := (f206 _ _ (fun q => absurd q.2 (by decide))).trans c197
          have c212 : I203 a0 8 = v182 := (f206 _ _ (fun q => absurd q.2 (by decide))).trans c198
          have c213 : I203 a1 8 = v145 := (f206 _ _ (fun q => absurd q.2 (by decide))).trans e190
          have hO214 : FrO 14 a1 T I0 I203 := hO199.put f206 ta1 (Or.inr rfl)
          have hM215 : NmM I203 R0 L142 a1 gQ := NmM.kp1 hM200 f206 ta1 rfl rfl hS189.1 ta1
          have eF := hF.eq
          have eP := hP.eq
          obtain ⟨v216, c217⟩ : ∃ v, I203 a0 14 = v := ⟨_, rfl⟩
          exact tr_vret hZ dX12_readAlmanac_61 rfl (by decide) (by decide) ⟨rfl, rfl, rfl, rfl, rfl, hS204, (fun dr hd => (Option.some.inj (d2.symm.trans hd)) ▸ hO214), (Or.inl ⟨(by (try rw [w124]); first | done | with_reducible assumption | omega), (fun q0 z0 => by obtain rfl := Option.some.inj ((d2).symm.trans z0); (try rw [w124]); (try rw [((hS204.cell ta1 (by decide +kernel)).trans c30)]); first | done | with_reducible assumption | omega), (fun q0 z0 => by obtain rfl := Option.some.inj ((d2).symm.trans z0); (try rw [w124]); (try rw [((hS204.cell ta1 (by decide +kernel)).trans c34)]); first | done | with_reducible assumption | omega), (fun q0 z0 => by obtain rfl := Option.some.inj ((d2).symm.trans z0); (try rw [w124]); (try rw [((hS204.cell ta1 (by decide +kernel)).trans c38)]); first | done | with_reducible assumption | omega), (fun q0 z0 => by obtain rfl := Option.some.inj ((d2).symm.trans z0); (try rw [w124]); (try rw [((hS204.cell ta1 (by decide +kernel)).trans c42)]); first | done | with_reducible assumption | omega), (fun q0 z0 => by obtain rfl := Option.some.inj ((d2).symm.trans z0); (try rw [w124]); (try rw [((hS204.cell ta1 (by decide +kernel)).trans c46)]); first | done | with_reducible assumption | omega), (fun q0 z0 => by obtain rfl := Option.some.inj ((d2).symm.trans z0); (try rw [w124]); (try rw [((hS204.cell ta1 (by decide +kernel)).trans c50)]); first | done | with_reducible assumption | omega), (fun q0 z0 => by obtain rfl := Option.some.inj ((d2).symm.trans z0); (try rw [w124]); (try rw [((hS204.cell ta1 (by decide +kernel)).trans c54)]); first | done | with_reducible assumption | omega), (fun q0 z0 => by obtain rfl := Option.some.inj ((d2).symm.trans z0); (try rw [w124]); (try rw [e205]); first | done | with_reducible assumption | omega), (by (try rw [w124]); (try rw [c207]); (try rw [c65]); first | done | with_reducible assumption | omega), (by (try rw [w124]); (try rw [c208]); first | done | with_reducible assumption | omega), (by (try rw [w124]); (try rw [c208]); first | done | with_reducible assumption | omega), (by (try rw [w124]); (try rw [c209]); first | done | with_reducible assumption | omega), (by (try rw [w124]); (try rw [c210]); first | done | with_reducible assumption | omega), (by (try rw [w124]); (try rw [c179]); first | done | assumption), (by (try rw [w124]); (try rw [c211]); first | done | assumption), (by (try rw [w124]); (try rw [c212]); first | done | assumption), hL166, (fun b hb => (Option.some.inj (d2.symm.trans hb)) ▸ NmM.ln (NmM.bd (k := srt gB gs) hM215 (by omega) (by omega)) rfl), trivial⟩), trivial⟩
        · skip
          exfalso; omega
      · skip
        obtain ⟨v218, c219⟩ : ∃ v, I140 a0 9 = v := ⟨_, rfl⟩
        have b220 := iv15_9 hS149.1 ta0 c219
        rw [c219] at p163
        obtain ⟨v221, c222⟩ : ∃ v, I140 a0 13 = v := ⟨_, rfl⟩
        rw [c222] at p164
        obtain ⟨v223, c224⟩ : ∃ v, I140 a0 14 = v := ⟨_, rfl⟩
        rw [c224] at p165
        refine tr_istore_n dX12_readAlmanac_35 (by decide) (by decide) ?_
        refine tr_aload_n dX12_readAlmanac_36 rfl ?_
        refine q_getI dX12_readAlmanac_37 fl12_99 (kR15 hS149.1 ta0) c219 ?_
        refine q_iconst dX12_readAlmanac_40 (by decide) ?_
        intro v225 h226
        refine q_icmp_ne 45 dX12_readAlmanac_41 (by decide) (fun h227 => ?_) (fun h227 => ?_)
        · skip
          exfalso; omega
        · skip
          have eF := hF.eq
          have eP := hP.eq
          obtain ⟨v228, c229⟩ : ∃ v, I140 a0 10 = v := ⟨_, rfl⟩
          have b230 := iv15_10 hS149.1 ta0 c229
          obtain ⟨v231, c232⟩ : ∃ v, I140 a0 11 = v := ⟨_, rfl⟩
          obtain ⟨y233, c234⟩ : ∃ v, L142 a0 15 = v := ⟨_, rfl⟩
          obtain ⟨v235, c236⟩ : ∃ v, I140 a0 12 = v := ⟨_, rfl⟩
          obtain ⟨v237, c238⟩ : ∃ v, I140 a0 8 = v := ⟨_, rfl⟩
          have b239 := iv15_8 hS149.1 ta0 c238
          exact tr_vret hZ dX12_readAlmanac_44 rfl (by decide) (by decide) ⟨rfl, rfl, rfl, rfl, rfl, hS149, (fun dr hd => (Option.some.inj (d2.symm.trans hd)) ▸ hO151), (Or.inr (⟨(by (try rw [w124]); first | done | with_reducible assumption | omega), (by (try rw [w124]); (try rw [c219]); first | done | with_reducible assumption | omega), (by (try rw [w124]); (try rw [c222]); first | done | with_reducible assumption | omega), (by (try rw [w124]); (try rw [c224]); first | done | with_reducible assumption | omega), trivial⟩)), trivial⟩
    · skip
      obtain ⟨v240, c241⟩ : ∃ v, I71 a0 9 = v := ⟨_, rfl⟩
      have b242 := iv15_9 hS79.1 ta0 c241
      rw [c241] at p94
      obtain ⟨v243, c244⟩ : ∃ v, I71 a0 13 = v := ⟨_, rfl⟩
      rw [c244] at p95
      obtain ⟨v245, c246⟩ : ∃ v, I71 a0 14 = v := ⟨_, rfl⟩
      rw [c246] at p96
      exfalso; omega
    · skip
      obtain ⟨v247, c248⟩ : ∃ v, I71 a0 9 = v := ⟨_, rfl⟩
      have b249 := iv15_9 hS79.1 ta0 c248
      rw [c248] at p99
      obtain ⟨v250, c251⟩ : ∃ v, I71 a0 13 = v := ⟨_, rfl⟩
      rw [c251] at p100
      obtain ⟨v252, c253⟩ : ∃ v, I71 a0 14 = v := ⟨_, rfl⟩
      rw [c253] at p101
      have p254 := p61
      unfold Q7M at p254
      replace hF := hF.neg (by omega)
      replace hP := hP.neg (by omega)
      replace hF := hF.pos (by omega)
      replace hP := hP.pos (by omega)
      clear p254
      refine tr_aload_n dX12_readAlmanac_21 rfl ?_
      refine tr_aload_n dX12_readAlmanac_22 rfl ?_
      refine tr_getR dX12_readAlmanac_23 fl12_188 (kR15 hS79.1 ta0) d2 ?_
      obtain ⟨a255, d256, ta255⟩ := rf14_16 hW0 ta1
      refine tr_getR dX12_readAlmanac_26 fl12_306 (kR14 hS79.1 ta1) d256 ?_
      refine q_iconst dX12_readAlmanac_29 (by decide) ?_
      intro v257 h258
      refine q_bipush dX12_readAlmanac_30 (by decide +kernel) ?_
      intro v259 h260
      refine q_callVi hE (M' := mX12_readRising) (as := [_, _, _]) dX12_readAlmanac_32 lk12_308 inX12_readRising seX12_readRising myX12_readRising (by decide) ⟨by decide, by decide⟩ rfl (kR15 hS79.1 ta0) (Nat.le_of_ble_eq_true rfl) rfl rfl (by decide) (by decide) (k_X12_readRising_1 hS79.1 ta0 ta255 (by omega) (by omega) ⟨_, d2⟩) ?_
      rintro v265 cn' K' N' I261 R262 L263 ⟨rfl, rfl, rfl, rfl, g264, h266, w267, -⟩
      have hS268 := hS79.tr g264 (by decide +kernel) (by decide +kernel)
      have c269 : I261 a1 9 = v57 := (g264.cell ta1 (by decide +kernel)).trans c80
      have hO270 : FrO 14 a1 T I0 I261 := hO81.st g264 (by decide +kernel)
      have ov271 := w267.over (by rw [c248]; omega)
      obtain ⟨v272, c273⟩ : ∃ v, I261 a0 9 = v := ⟨_, rfl⟩
      have b274 := iv15_9 hS268.1 ta0 c273
      obtain ⟨v275, c276⟩ : ∃ v, I261 a0 13 = v := ⟨_, rfl⟩
      obtain ⟨v277, c278⟩ : ∃ v, I261 a0 14 = v := ⟨_, rfl⟩
      (try rw [c273] at ov271)
      (try rw [c276] at ov271)
      (try rw [c278] at ov271)
      (try rw [c248] at ov271)
      (try rw [c251] at ov271)
      (try rw [c253] at ov271)
      refine tr_istore_n dX12_readAlmanac_35 (by decide) (by decide) ?_
      refine tr_aload_n dX12_readAlmanac_36 rfl ?_
      refine q_getI dX12_readAlmanac_37 fl12_99 (kR15 hS268.1 ta0) c273 ?_
      refine q_iconst dX12_readAlmanac_40 (by decide) ?_
      intro v279 h280
      refine q_icmp_ne 45 dX12_readAlmanac_41 (by decide) (fun h281 => ?_) (fun h281 => ?_)
      · skip
        exfalso; omega
      · skip
        have eF := hF.eq
        have eP := hP.eq
        obtain ⟨v282, c283⟩ : ∃ v, I261 a0 10 = v := ⟨_, rfl⟩
        have b284 := iv15_10 hS268.1 ta0 c283
        obtain ⟨v285, c286⟩ : ∃ v, I261 a0 11 = v := ⟨_, rfl⟩
        obtain ⟨y287, c288⟩ : ∃ v, L263 a0 15 = v := ⟨_, rfl⟩
        obtain ⟨v289, c290⟩ : ∃ v, I261 a0 12 = v := ⟨_, rfl⟩
        obtain ⟨v291, c292⟩ : ∃ v, I261 a0 8 = v := ⟨_, rfl⟩
        have b293 := iv15_8 hS268.1 ta0 c292
        exact tr_vret hZ dX12_readAlmanac_44 rfl (by decide) (by decide) ⟨rfl, rfl, rfl, rfl, rfl, hS268, (fun dr hd => (Option.some.inj (d2.symm.trans hd)) ▸ hO270), (Or.inr (⟨(by first | done | with_reducible assumption | omega), (by (try rw [c273]); first | done | with_reducible assumption | omega), (by (try rw [c276]); first | done | with_reducible assumption | omega), (by (try rw [c278]); first | done | with_reducible assumption | omega), trivial⟩)), trivial⟩
  · skip
    replace hF := hF.pos (by omega)
    replace hP := hP.pos (by omega)
    refine tr_aload_n dX12_readAlmanac_10 rfl ?_
    refine q_iconst dX12_readAlmanac_11 (by decide) ?_
    intro v294 h295
    refine q_callVv hE (M' := mX12_flaw) (as := [_]) dX12_readAlmanac_12 lk12_145 inX12_flaw seX12_flaw myX12_flaw (by decide) ⟨by decide, by decide⟩ rfl (kR15 hS0.1 ta0) (Nat.le_of_ble_eq_true rfl) rfl rfl (by decide) (by decide) (fk_X12_flaw hS0.1  ta0 (by omega) (by (try rw [c4]); first | done | with_reducible assumption | omega)) ?_
    rintro cn' K' N' I296 R297 L298 ⟨rfl, rfl, rfl, rfl, rfl, g299, p302, p303, p304, -⟩
    have hM305 : NmM I296 R0 L0 a1 gQ := NmM.kpS hM0 g299 hS0.1 ta1 (by decide +kernel) (by decide +kernel)
    have hS306 := hS0.tr g299 (by decide +kernel) (by decide +kernel)
    have c307 : I296 a0 10 = v8 := (g299.cell ta0 (by decide +kernel)).trans c9
    have c308 : I296 a0 11 = v12 := (g299.cell ta0 (by decide +kernel)).trans c13
    have c309 : I296 a0 12 = v18 := (g299.cell ta0 (by decide +kernel)).trans c19
    have c310 : I296 a0 8 = v21 := (g299.cell ta0 (by decide +kernel)).trans c22
    have c311 : I296 a1 9 = v57 := (g299.cell ta1 (by decide +kernel)).trans c58
    have hO312 : FrO 14 a1 T I0 I296 := hO0.st g299 (by decide +kernel)
    obtain ⟨v313, c314⟩ : ∃ v, I296 a0 9 = v := ⟨_, rfl⟩
    have b315 := iv15_9 hS306.1 ta0 c314
    rw [c314] at p302
    obtain ⟨v316, c317⟩ : ∃ v, I296 a0 13 = v := ⟨_, rfl⟩
    rw [c317] at p303
    obtain ⟨v318, c319⟩ : ∃ v, I296 a0 14 = v := ⟨_, rfl⟩
    rw [c319] at p304
    rw [c9] at p304
    refine tr_aload_n dX12_readAlmanac_15 rfl ?_
    refine q_iconst dX12_readAlmanac_16 (by decide) ?_
    intro v320 h321
    refine q_iconst dX12_readAlmanac_17 (by decide) ?_
    intro v322 h323
    refine q_callVv hE (M' := mX12_begins) (as := [_, _]) dX12_readAlmanac_18 lk12_268 inX12_begins seX12_begins myX12_begins (by decide) ⟨by decide, by decide⟩ rfl (kR15 hS306.1 ta0) (Nat.le_of_ble_eq_true rfl) rfl rfl (by decide) (by decide) (k_X12_begins hS306.1 ta0 ⟨_, d2⟩) ?_
    rintro cn' K' N' I324 R325 L326 ⟨rfl, rfl, rfl, rfl, g327, p329, w330, -⟩
    have hS331 := hS306.tr g327 (by decide +kernel) (by decide +kernel)
    have c332 : I324 a1 9 = v57 := (g327.cell ta1 (by decide +kernel)).trans c311
    obtain ⟨v333, c334⟩ : ∃ v, I324 a0 9 = v := ⟨_, rfl⟩
    have b335 := iv15_9 hS331.1 ta0 c334
    have gd336 : Gd (I324 a0 9) (v320.toInt ≠ v322.toInt) := p329
    clear p329
    have hO337 : FrO 14 a1 T I0 I324 := hO312.st g327 (by decide +kernel)
    have ov338 := w330.over (by rw [c314]; omega)
    obtain ⟨v339, c340⟩ : ∃ v, I324 a0 9 = v := ⟨_, rfl⟩
    have b341 := iv15_9 hS331.1 ta0 c340
    obtain ⟨v342, c343⟩ : ∃ v, I324 a0 13 = v := ⟨_, rfl⟩
    obtain ⟨v344, c345⟩ : ∃ v, I324 a0 14 = v := ⟨_, rfl⟩
    (try rw [c340] at ov338)
    (try rw [c343] at ov338)
    (try rw [c345] at ov338)
    (try rw [c314] at ov338)
    (try rw [c317] at ov338)
    (try rw [c319] at ov338)
    refine tr_aload_n dX12_readAlmanac_21 rfl ?_
    refine tr_aload_n dX12_readAlmanac_22 rfl ?_
    refine tr_getR dX12_readAlmanac_23 fl12_188 (kR15 hS331.1 ta0) d2 ?_
    obtain ⟨a346, d347, ta346⟩ := rf14_16 hW0 ta1
    refine tr_getR dX12_readAlmanac_26 fl12_306 (kR14 hS331.1 ta1) d347 ?_
    refine q_iconst dX12_readAlmanac_29 (by decide) ?_
    intro v348 h349
    refine q_bipush dX12_readAlmanac_30 (by decide +kernel) ?_
    intro v350 h351
    refine q_callVi hE (M' := mX12_readRising) (as := [_, _, _]) dX12_readAlmanac_32 lk12_308 inX12_readRising seX12_readRising myX12_readRising (by decide) ⟨by decide, by decide⟩ rfl (kR15 hS331.1 ta0) (Nat.le_of_ble_eq_true rfl) rfl rfl (by decide) (by decide) (k_X12_readRising_1 hS331.1 ta0 ta346 (by omega) (by omega) ⟨_, d2⟩) ?_
    rintro v356 cn' K' N' I352 R353 L354 ⟨rfl, rfl, rfl, rfl, g355, h357, w358, -⟩
    have hS359 := hS331.tr g355 (by decide +kernel) (by decide +kernel)
    have c360 : I352 a1 9 = v57 := (g355.cell ta1 (by decide +kernel)).trans c332
    have hO361 : FrO 14 a1 T I0 I352 := hO337.st g355 (by decide +kernel)
    have ov362 := w358.over (by rw [c340]; omega)
    obtain ⟨v363, c364⟩ : ∃ v, I352 a0 9 = v := ⟨_, rfl⟩
    have b365 := iv15_9 hS359.1 ta0 c364
    obtain ⟨v366, c367⟩ : ∃ v, I352 a0 13 = v := ⟨_, rfl⟩
    obtain ⟨v368, c369⟩ : ∃ v, I352 a0 14 = v := ⟨_, rfl⟩
    (try rw [c364] at ov362)
    (try rw [c367] at ov362)
    (try rw [c369] at ov362)
    (try rw [c340] at ov362)
    (try rw [c343] at ov362)
    (try rw [c345] at ov362)
    refine tr_istore_n dX12_readAlmanac_35 (by decide) (by decide) ?_
    refine tr_aload_n dX12_readAlmanac_36 rfl ?_
    refine q_getI dX12_readAlmanac_37 fl12_99 (kR15 hS359.1 ta0) c364 ?_
    refine q_iconst dX12_readAlmanac_40 (by decide) ?_
    intro v370 h371
    refine q_icmp_ne 45 dX12_readAlmanac_41 (by decide) (fun h372 => ?_) (fun h372 => ?_)
    · skip
      exfalso; omega
    · skip
      have eF := hF.eq
      have eP := hP.eq
      obtain ⟨v373, c374⟩ : ∃ v, I352 a0 10 = v := ⟨_, rfl⟩
      have b375 := iv15_10 hS359.1 ta0 c374
      obtain ⟨v376, c377⟩ : ∃ v, I352 a0 11 = v := ⟨_, rfl⟩
      obtain ⟨y378, c379⟩ : ∃ v, L354 a0 15 = v := ⟨_, rfl⟩
      obtain ⟨v380, c381⟩ : ∃ v, I352 a0 12 = v := ⟨_, rfl⟩
      obtain ⟨v382, c383⟩ : ∃ v, I352 a0 8 = v := ⟨_, rfl⟩
      have b384 := iv15_8 hS359.1 ta0 c383
      exact tr_vret hZ dX12_readAlmanac_44 rfl (by decide) (by decide) ⟨rfl, rfl, rfl, rfl, rfl, hS359, (fun dr hd => (Option.some.inj (d2.symm.trans hd)) ▸ hO361), (Or.inr (⟨(by first | done | with_reducible assumption | omega), (by (try rw [c364]); first | done | with_reducible assumption | omega), (by (try rw [c367]); first | done | with_reducible assumption | omega), (by (try rw [c369]); first | done | with_reducible assumption | omega), trivial⟩)), trivial⟩
def wik_X12_readRising_1 : List Nat := [968, 969, 970, 971, 972, 973, 974, 3967]
def wrk_X12_readRising_1 : List Nat := []
def wlk_X12_readRising_1 : List Nat := [975]
set_option maxHeartbeats 4000000 in
theorem fk_X12_readRising_1 {l : Launch} {T : Nat → Nat} {cn : Nat} {K N : Nat → Nat} {I0 : cz_I} {R0 : cz_R} {L0 : cz_L} (hW0 : Wf T cn K N I0 R0 0) (gB : cz_B) (gs : Int) (gQ : Nat → Int) {a0 : Nat} (ta0 : T a0 = 15) {a1 : Nat} (ta1 : T a1 = 61) {x2 : Int32} (hx2 : 0 ≤ x2.toInt ∧ x2.toInt ≤ 32) {x3 : Int32} (hx3 : 8 ≤ x3.toInt ∧ x3.toInt ≤ 8) (hT : ∀ t, R0 a0 5 = some t → Tx I0 t gB) (pre0 : (I0 a0 9).toInt = (tkM gB gs)) (pre1 : (I0 a0 9).toInt ≤ 4) (pre2 : (I0 a0 10).toInt = (tkS gB gs)) (pre3 : (I0 a0 11).toInt = (tkG gB gs)) (pre4 : (AtW ((tkK gB gs)) ((L0 a0 15).toInt) ((tkW gB gs)))) (pre5 : (AtV ((tkK gB gs)) ((I0 a0 12).toInt) ((tkV gB gs)))) (pre6 : (AtN ((tkK gB gs)) ((I0 a0 8).toInt) ((tkN gB gs)))) (pre7 : (I0 a0 7).toInt = (gB.2)) (pre8 : ∀ b1, R0 a0 4 = some b1 → (I0 b1 0).toInt = (gQ 0)) (pre9 : (gQ 0) ≥ 1) (pre10 : x2.toInt ≤ 24) (nn4 : ∃ b, R0 a0 4 = some b) : ConE l mX12_readRising [.ref a0, .ref a1, .int x2, .int x3] cn K N I0 R0 L0 (ca_i (fun v cn' K' N' I' R' L' => cn = cn' ∧ K = K' ∧ N = N' ∧ R0 = R' ∧ St T cn K N 0 wik_X12_readRising_1 wrk_X12_readRising_1 I0 R0 I' R0 ∧ (0 ≤ v.toInt ∧ v.toInt ≤ 8) ∧ ((((riF gB gQ 8 0 gs) = 0) ∧ ((I' a0 13).toInt = (I0 a0 13).toInt) ∧ ((I' a0 9).toInt = (tkM gB (riS gB gQ 8 0 gs))) ∧ ((I' a0 9).toInt ≤ 4) ∧ ((I' a0 10).toInt = (tkS gB (riS gB gQ 8 0 gs))) ∧ ((I' a0 11).toInt = (tkG gB (riS gB gQ 8 0 gs))) ∧ ((AtW ((tkK gB (riS gB gQ 8 0 gs))) ((L' a0 15).toInt) ((tkW gB (riS gB gQ 8 0 gs))))) ∧ ((AtV ((tkK gB (riS gB gQ 8 0 gs))) ((I' a0 12).toInt) ((tkV gB (riS gB gQ 8 0 gs))))) ∧ ((AtN ((tkK gB (riS gB gQ 8 0 gs))) ((I' a0 8).toInt) ((tkN gB (riS gB gQ 8 0 gs))))) ∧ LgS T wlk_X12_readRising_1 L0 L' ∧ True) ∨ (((riF gB gQ 8 0 gs) ≠ 0) ∧ ((I' a0 9).toInt = 5) ∧ ((I' a0 13).toInt = (riF gB gQ 8 0 gs)) ∧ ((I' a0 14).toInt = (riP gB gQ 8 0 gs)) ∧ True)) ∧ True)) := by
  refine ConE.of (by decide +kernel) rfl (Nat.le_of_ble_eq_true rfl) rfl (fun X hX hZ hE => ?_)
  subst hX
  have hS0 : St T cn K N 0 wik_X12_readRising_1 wrk_X12_readRising_1 I0 R0 I0 R0 := St.rf0 hW0
  have hL0 : LgS T wlk_X12_readRising_1 L0 L0 := LgS.rf0
  obtain ⟨a11, d12⟩ := nn4
  have ta11 : T a11 = 14 := hW0.rsN ta0 rfl d12
  obtain ⟨v13, c14⟩ : ∃ v, I0 a0 9 = v := ⟨_, rfl⟩
  have b15 := iv15_9 hS0.1 ta0 c14
  have p16 := pre0
  rw [c14] at p16
  have p17 := pre1
  rw [c14] at p17
  obtain ⟨v18, c19⟩ : ∃ v, I0 a0 10 = v := ⟨_, rfl⟩
  have b20 := iv15_10 hS0.1 ta0 c19
  have p21 := pre2
  rw [c19] at p21
  obtain ⟨v22, c23⟩ : ∃ v, I0 a0 11 = v := ⟨_, rfl⟩
  have p24 := pre3
  rw [c23] at p24
  obtain ⟨y25, c26⟩ : ∃ v, L0 a0 15 = v := ⟨_, rfl⟩
  have p27 := pre4
  rw [c26] at p27
  obtain ⟨v28, c29⟩ : ∃ v, I0 a0 12 = v := ⟨_, rfl⟩
  have p30 := pre5
  rw [c29] at p30
  obtain ⟨v31, c32⟩ : ∃ v, I0 a0 8 = v := ⟨_, rfl⟩
  have b33 := iv15_8 hS0.1 ta0 c32
  have p34 := pre6
  rw [c32] at p34
  obtain ⟨v35, c36⟩ : ∃ v, I0 a0 7 = v := ⟨_, rfl⟩
  have b37 := iv15_7 hW0 ta0 c36
  have p38 := pre7
  rw [c36] at p38
  obtain ⟨v39, c40⟩ : ∃ v, I0 a11 0 = v := ⟨_, rfl⟩
  have b41 := iv14_0 hW0 ta11 c40
  have p42 := pre8 _ d12
  rw [c40] at p42
  have p43 := pre9
  have p44 := pre10
  obtain ⟨v45, c46⟩ : ∃ v, I0 a0 13 = v := ⟨_, rfl⟩
  refine q_iconst dX12_readRising_0 (by decide) ?_
  intro v47 h48
  refine tr_istore dX12_readRising_1 (by decide) (by decide) ?_
  refine q_iconst dX12_readRising_3 (by decide) ?_
  intro v49 h50
  refine tr_istore dX12_readRising_4 (by decide) (by decide) ?_
  refine q_iconst dX12_readRising_6 (by decide) ?_
  intro v51 h52
  refine tr_istore dX12_readRising_7 (by decide) (by decide) ?_
  have lp100 : ∀ (fu : Nat) (ls : Nat → Option Value) (v53 : Int32) (v54 : Int32) (v55 : Int32) (I63 : cz_I) (L64 : cz_L) (gs65 : Int) (gr66 : Nat) (v69 : Int32) (v71 : Int32) (v73 : Int32) (v75 : Int32) (y77 : Int64) (v79 : Int32) (v81 : Int32), ls 0 = some (.ref a0) → ls 1 = some (.ref a1) → ls 2 = some (.int x2) → ls 3 = some (.int x3) → ls 4 = some (.int v53) → ls 5 = some (.int v54) → ls 6 = some (.int v55) → St T cn K N 0 wik_X12_readRising_1 wrk_X12_readRising_1 I0 R0 I63 R0 → LgS T wlk_X12_readRising_1 L0 L64 → I63 a0 13 = v69 → I63 a0 9 = v71 → I63 a0 10 = v73 → I63 a0 11 = v75 → L64 a0 15 = y77 → I63 a0 12 = v79 → I63 a0 8 = v81 → (riF gB gQ gr66 v54.toInt gs65) = (riF gB gQ 8 0 gs) → (riP gB gQ gr66 v54.toInt gs65) = (riP gB gQ 8 0 gs) → (riS gB gQ gr66 v54.toInt gs65) = (riS gB gQ 8 0 gs) → v55.toInt = 1 → 0 ≤ v54.toInt → v54.toInt ≤ 240 → 0 ≤ v53.toInt → v53.toInt ≤ 8 → ((gr66 : Int)) = -v53.toInt + 8 → v69.toInt = v45.toInt → v71.toInt = (tkM gB gs65) → v71.toInt ≤ 4 → v73.toInt = (tkS gB gs65) → v75.toInt = (tkG gB gs65) → (AtW ((tkK gB gs65)) (y77.toInt) ((tkW gB gs65))) → (AtV ((tkK gB gs65)) (v79.toInt) ((tkV gB gs65))) → (AtN ((tkK gB gs65)) (v81.toInt) ((tkN gB gs65))) → (-v53.toInt + 9).toNat < fu → Tr X mX12_readRising 9 ls [] cn K N I63 R0 L64 0 0 := by
    intro fu
    induction fu with
    | zero => intros; rename_i hz; exact absurd hz (Nat.not_lt_zero _)
    | succ fu ih100 =>
      intro ls v53 v54 v55 I63 L64 gs65 gr66 v69 v71 v73 v75 y77 v79 v81 hl56 hl57 hl58 hl59 hl60 hl61 hl62 hS67 hL68 c70 c72 c74 c76 c78 c80 c82 g83 g84 g85 g86 g87 g88 g89 g90 g91 g92 g93 g94 g95 g96 g97 g98 g99 hm100
      have b102 := iv15_9 hS67.1 ta0 c72
      have b103 := iv15_10 hS67.1 ta0 c74
      have b104 := iv15_8 hS67.1 ta0 c82
      rcases Nat.eq_zero_or_pos gr66 with hz105 | hz105
      · skip
        subst hz105
        refine tr_iload dX12_readRising_9 hl62 ?_
        refine q_if_eq 92 dX12_readRising_11 (by decide) (fun h107 => ?_) (fun h107 => ?_)
        · skip
          exfalso; omega
        · skip
          refine tr_aload_n dX12_readRising_14 hl56 ?_
          refine q_getI dX12_readRising_15 fl12_99 (kR15 hS67.1 ta0) c72 ?_
          refine q_iconst dX12_readRising_18 (by decide) ?_
          intro v108 h109
          refine q_icmp_eq 92 dX12_readRising_19 (by decide) (fun h110 => ?_) (fun h110 => ?_)
          · skip
            exfalso; omega
          · skip
            refine tr_aload_n dX12_readRising_22 hl56 ?_
            refine tr_iload dX12_readRising_23 hl61 ?_
            refine tr_aload_n dX12_readRising_25 hl56 ?_
            refine tr_getR dX12_readRising_26 fl12_188 (kR15 hS67.1 ta0) d12 ?_
            refine q_getI dX12_readRising_29 fl12_192 (kR14 hS67.1 ta11) ((hS67.cell ta11 (by decide +kernel)).trans c40) ?_
            refine q_iconst dX12_readRising_32 (by decide) ?_
            intro v111 h112
            refine q_isubE dX12_readRising_33 (by intros; omega) ?_
            intro v113 h114
            refine q_callVi hE (M' := mX12_bounded) (as := [_, _]) dX12_readRising_34 lk12_153 inX12_bounded seX12_bounded myX12_bounded (by decide) ⟨by decide, by decide⟩ rfl (kR15 hS67.1 ta0) (Nat.le_of_ble_eq_true rfl) rfl rfl (by decide) (by decide) (fk_X12_bounded hS67.1 (gB) (gs65) ta0 (by (try rw [c72]); first | done | with_reducible assumption | omega) (by (try rw [c72]); first | done | with_reducible assumption | omega) (by (try rw [c74]); first | done | with_reducible assumption | omega) (by (try rw [c76]); first | done | with_reducible assumption | omega) (by (try rw [c78]); first | done | assumption) (by (try rw [c80]); first | done | assumption) (by (try rw [c82]); first | done | assumption)) ?_
            rintro v120 cn' K' N' I115 R116 L117 ⟨rfl, rfl, rfl, rfl, rfl, g118, dj121, -⟩
            have hS122 := hS67.tr g118 (by decide +kernel) (by decide +kernel)
            have c123 : I115 a0 10 = v73 := (g118.cell ta0 (by decide +kernel)).trans c74
            have c124 : I115 a0 11 = v75 := (g118.cell ta0 (by decide +kernel)).trans c76
            have c125 : I115 a0 12 = v79 := (g118.cell ta0 (by decide +kernel)).trans c80
            have c126 : I115 a0 8 = v81 := (g118.cell ta0 (by decide +kernel)).trans c82
            rcases dj121 with ⟨p127, p128, p129, p130, p131, p132, p133, p134, p135, p136, p137, p138, -⟩ | ⟨p139, p140, p141, p142, p143, -⟩ | ⟨p144, p145, p146, p147, p148, p149, -⟩
            · skip
              obtain ⟨v150, c151⟩ : ∃ v, I115 a0 13 = v := ⟨_, rfl⟩
              rw [c151] at p131
              rw [c70] at p131
              obtain ⟨v152, c153⟩ : ∃ v, I115 a0 9 = v := ⟨_, rfl⟩
              have b154 := iv15_9 hS122.1 ta0 c153
              rw [c153] at p132
              rw [c153] at p133
              rw [c123] at p134
              rw [c124] at p135
              rw [c78] at p136
              rw [c125] at p137
              rw [c126] at p138
              refine tr_istore dX12_readRising_37 (by decide) (by decide) ?_
              refine tr_iload dX12_readRising_39 hl60 ?_
              refine tr_iload_n dX12_readRising_41 hl59 ?_
              refine q_icmp_ne 50 dX12_readRising_42 (by decide) (fun h155 => ?_) (fun h155 => ?_)
              · skip
                exfalso; omega
              · skip
                refine tr_aload_n dX12_readRising_45 hl56 ?_
                refine q_iconst dX12_readRising_46 (by decide) ?_
                intro v156 h157
                refine q_callVv hE (M' := mX12_flaw) (as := [_]) dX12_readRising_47 lk12_145 inX12_flaw seX12_flaw myX12_flaw (by decide) ⟨by decide, by decide⟩ rfl (kR15 hS122.1 ta0) (Nat.le_of_ble_eq_true rfl) rfl rfl (by decide) (by decide) (fk_X12_flaw hS122.1  ta0 (by omega) (by (try rw [c153]); first | done | with_reducible assumption | omega)) ?_
                rintro cn' K' N' I158 R159 L160 ⟨rfl, rfl, rfl, rfl, rfl, g161, p164, p165, p166, -⟩
                have hS167 := hS122.tr g161 (by decide +kernel) (by decide +kernel)
                have c168 : I158 a0 10 = v73 := (g161.cell ta0 (by decide +kernel)).trans c123
                have c169 : I158 a0 11 = v75 := (g161.cell ta0 (by decide +kernel)).trans c124
                have c170 : I158 a0 12 = v79 := (g161.cell ta0 (by decide +kernel)).trans c125
                have c171 : I158 a0 8 = v81 := (g161.cell ta0 (by decide +kernel)).trans c126
                obtain ⟨v172, c173⟩ : ∃ v, I158 a0 9 = v := ⟨_, rfl⟩
                have b174 := iv15_9 hS167.1 ta0 c173
                rw [c173] at p164
                obtain ⟨v175, c176⟩ : ∃ v, I158 a0 13 = v := ⟨_, rfl⟩
                rw [c176] at p165
                obtain ⟨v177, c178⟩ : ∃ v, I158 a0 14 = v := ⟨_, rfl⟩
                rw [c178] at p166
                rw [c123] at p166
                refine tr_aload_n dX12_readRising_50 hl56 ?_
                refine q_callVv hE (M' := mX12_goesOn) (as := []) dX12_readRising_51 lk12_142 inX12_goesOn seX12_goesOn myX12_goesOn (by decide) ⟨by decide, by decide⟩ rfl (kR15 hS167.1 ta0) (Nat.le_of_ble_eq_true rfl) rfl rfl (by decide) (by decide) (k_X12_goesOn hS167.1 ta0) ?_
                rintro cn' K' N' I179 R180 L181 ⟨rfl, rfl, rfl, rfl, g182, p184, p185, p186, w187, -⟩
                have hS188 := hS167.tr g182 (by decide +kernel) (by decide +kernel)
                have c189 : I179 a0 13 = v175 := (g182.cell ta0 (by decide +kernel)).trans c176
                have c190 : I179 a0 14 = v177 := (g182.cell ta0 (by decide +kernel)).trans c178
                obtain ⟨v191, c192⟩ : ∃ v, I179 a0 9 = v := ⟨_, rfl⟩
                have b193 := iv15_9 hS188.1 ta0 c192
                rw [c173] at p184
                rw [c192] at p184
                rw [c173] at p185
                rw [c192] at p185
                obtain ⟨v194, c195⟩ : ∃ v, I179 a0 8 = v := ⟨_, rfl⟩
                have b196 := iv15_8 hS188.1 ta0 c195
                rw [c195] at p186
                rw [c171] at p186
                rw [c189] at p186
                rw [c176] at p186
                have ov197 := w187.over (by rw [c173]; omega)
                obtain ⟨v198, c199⟩ : ∃ v, I179 a0 9 = v := ⟨_, rfl⟩
                have b200 := iv15_9 hS188.1 ta0 c199
                obtain ⟨v201, c202⟩ : ∃ v, I179 a0 13 = v := ⟨_, rfl⟩
                obtain ⟨v203, c204⟩ : ∃ v, I179 a0 14 = v := ⟨_, rfl⟩
                (try rw [c199] at ov197)
                (try rw [c202] at ov197)
                (try rw [c204] at ov197)
                (try rw [c173] at ov197)
                (try rw [c176] at ov197)
                (try rw [c178] at ov197)
                refine tr_aload_n dX12_readRising_54 hl56 ?_
                refine q_getI dX12_readRising_55 fl12_99 (kR15 hS188.1 ta0) c199 ?_
                refine q_iconst dX12_readRising_58 (by decide) ?_
                intro v205 h206
                refine q_icmp_ne 64 dX12_readRising_59 (by decide) (fun h207 => ?_) (fun h207 => ?_)
                · skip
                  exfalso; omega
                · skip
                  refine q_iconst dX12_readRising_62 (by decide) ?_
                  intro v208 h209
                  obtain ⟨v210, c211⟩ : ∃ v, I179 a0 10 = v := ⟨_, rfl⟩
                  have b212 := iv15_10 hS188.1 ta0 c211
                  obtain ⟨v213, c214⟩ : ∃ v, I179 a0 11 = v := ⟨_, rfl⟩
                  obtain ⟨y215, c216⟩ : ∃ v, L181 a0 15 = v := ⟨_, rfl⟩
                  obtain ⟨v217, c218⟩ : ∃ v, I179 a0 12 = v := ⟨_, rfl⟩
                  exact tr_iret hZ dX12_readRising_63 rfl (by decide) (by decide) ⟨v208, rfl, rfl, rfl, rfl, rfl, hS188, (by omega), (Or.inr (⟨(by rw [← g83]; simp only [riF, ↓reduceIte]; repeat' (first | split | omega)), (by (try rw [c199]); first | done | with_reducible assumption | omega), (by (try rw [c202]); rw [← g83]; simp only [riF, ↓reduceIte]; repeat' (first | split | omega)), (by (try rw [c204]); rw [← g84]; simp only [riP, ↓reduceIte]; repeat' (first | split | omega)), trivial⟩)), trivial⟩
            · skip
              obtain ⟨v219, c220⟩ : ∃ v, I115 a0 9 = v := ⟨_, rfl⟩
              have b221 := iv15_9 hS122.1 ta0 c220
              rw [c220] at p141
              obtain ⟨v222, c223⟩ : ∃ v, I115 a0 13 = v := ⟨_, rfl⟩
              rw [c223] at p142
              obtain ⟨v224, c225⟩ : ∃ v, I115 a0 14 = v := ⟨_, rfl⟩
              rw [c225] at p143
              refine tr_istore dX12_readRising_37 (by decide) (by decide) ?_
              refine tr_iload dX12_readRising_39 hl60 ?_
              refine tr_iload_n dX12_readRising_41 hl59 ?_
              refine q_icmp_ne 50 dX12_readRising_42 (by decide) (fun h226 => ?_) (fun h226 => ?_)
              · skip
                exfalso; omega
              · skip
                refine tr_aload_n dX12_readRising_45 hl56 ?_
                refine q_iconst dX12_readRising_46 (by decide) ?_
                intro v227 h228
                refine q_callVv hE (M' := mX12_flaw) (as := [_]) dX12_readRising_47 lk12_145 inX12_flaw seX12_flaw myX12_flaw (by decide) ⟨by decide, by decide⟩ rfl (kR15 hS122.1 ta0) (Nat.le_of_ble_eq_true rfl) rfl rfl (by decide) (by decide) (k_X12_flaw hS122.1 ta0 (by omega)) ?_
                rintro cn' K' N' I229 R230 L231 ⟨rfl, rfl, rfl, rfl, rfl, g232, p234, p235, w236, -⟩
                have hS237 := hS122.tr g232 (by decide +kernel) (by decide +kernel)
                have c238 : I229 a0 10 = v73 := (g232.cell ta0 (by decide +kernel)).trans c123
                have c239 : I229 a0 11 = v75 := (g232.cell ta0 (by decide +kernel)).trans c124
                have c240 : I229 a0 12 = v79 := (g232.cell ta0 (by decide +kernel)).trans c125
                have c241 : I229 a0 8 = v81 := (g232.cell ta0 (by decide +kernel)).trans c126
                obtain ⟨v242, c243⟩ : ∃ v, I229 a0 9 = v := ⟨_, rfl⟩
                have b244 := iv15_9 hS237.1 ta0 c243
                rw [c243] at p234
                rw [c241] at p235
                rw [c126] at p235
                have ov245 := w236.over (by rw [c220]; omega)
                obtain ⟨v246, c247⟩ : ∃ v, I229 a0 9 = v := ⟨_, rfl⟩
                have b248 := iv15_9 hS237.1 ta0 c247
                obtain ⟨v249, c250⟩ : ∃ v, I229 a0 13 = v := ⟨_, rfl⟩
                obtain ⟨v251, c252⟩ : ∃ v, I229 a0 14 = v := ⟨_, rfl⟩
                (try rw [c247] at ov245)
                (try rw [c250] at ov245)
                (try rw [c252] at ov245)
                (try rw [c220] at ov245)
                (try rw [c223] at ov245)
                (try rw [c225] at ov245)
                refine tr_aload_n dX12_readRising_50 hl56 ?_
                refine q_callVv hE (M' := mX12_goesOn) (as := []) dX12_readRising_51 lk12_142 inX12_goesOn seX12_goesOn myX12_goesOn (by decide) ⟨by decide, by decide⟩ rfl (kR15 hS237.1 ta0) (Nat.le_of_ble_eq_true rfl) rfl rfl (by decide) (by decide) (k_X12_goesOn hS237.1 ta0) ?_
                rintro cn' K' N' I253 R254 L255 ⟨rfl, rfl, rfl, rfl, g256, p258, p259, p260, w261, -⟩
                have hS262 := hS237.tr g256 (by decide +kernel) (by decide +kernel)
                have c263 : I253 a0 13 = v249 := (g256.cell ta0 (by decide +kernel)).trans c250
                have c264 : I253 a0 14 = v251 := (g256.cell ta0 (by decide +kernel)).trans c252
                obtain ⟨v265, c266⟩ : ∃ v, I253 a0 9 = v := ⟨_, rfl⟩
                have b267 := iv15_9 hS262.1 ta0 c266
                rw [c247] at p258
                rw [c266] at p258
                rw [c247] at p259
                rw [c266] at p259
                obtain ⟨v268, c269⟩ : ∃ v, I253 a0 8 = v := ⟨_, rfl⟩
                have b270 := iv15_8 hS262.1 ta0 c269
                rw [c269] at p260
                rw [c241] at p260
                rw [c263] at p260
                rw [c250] at p260
                have ov271 := w261.over (by rw [c247]; omega)
                obtain ⟨v272, c273⟩ : ∃ v, I253 a0 9 = v := ⟨_, rfl⟩
                have b274 := iv15_9 hS262.1 ta0 c273
                obtain ⟨v275, c276⟩ : ∃ v, I253 a0 13 = v := ⟨_, rfl⟩
                obtain ⟨v277, c278⟩ : ∃ v, I253 a0 14 = v := ⟨_, rfl⟩
                (try rw [c273] at ov271)
                (try rw [c276] at ov271)
                (try rw [c278] at ov271)
                (try rw [c247] at ov271)
                (try rw [c250] at ov271)
                (try rw [c252] at ov271)
                refine tr_aload_n dX12_readRising_54 hl56 ?_
                refine q_getI dX12_readRising_55 fl12_99 (kR15 hS262.1 ta0) c273 ?_
                refine q_iconst dX12_readRising_58 (by decide) ?_
                intro v279 h280
                refine q_icmp_ne 64 dX12_readRising_59 (by decide) (fun h281 => ?_) (fun h281 => ?_)
                · skip
                  exfalso; omega
                · skip
                  refine q_iconst dX12_readRising_62 (by decide) ?_
                  intro v282 h283
                  obtain ⟨v284, c285⟩ : ∃ v, I253 a0 10 = v := ⟨_, rfl⟩
                  have b286 := iv15_10 hS262.1 ta0 c285
                  obtain ⟨v287, c288⟩ : ∃ v, I253 a0 11 = v := ⟨_, rfl⟩
                  obtain ⟨y289, c290⟩ : ∃ v, L255 a0 15 = v := ⟨_, rfl⟩
                  obtain ⟨v291, c292⟩ : ∃ v, I253 a0 12 = v := ⟨_, rfl⟩
                  exact tr_iret hZ dX12_readRising_63 rfl (by decide) (by decide) ⟨v282, rfl, rfl, rfl, rfl, rfl, hS262, (by omega), (Or.inr (⟨(by rw [← g83]; simp only [riF, ↓reduceIte]; repeat' (first | split | omega)), (by (try rw [c273]); first | done | with_reducible assumption | omega), (by (try rw [c276]); rw [← g83]; simp only [riF, ↓reduceIte]; repeat' (first | split | omega)), (by (try rw [c278]); rw [← g84]; simp only [riP, ↓reduceIte]; repeat' (first | split | omega)), trivial⟩)), trivial⟩
            · skip
              obtain ⟨v293, c294⟩ : ∃ v, I115 a0 9 = v := ⟨_, rfl⟩
              have b295 := iv15_9 hS122.1 ta0 c294
              rw [c294] at p147
              obtain ⟨v296, c297⟩ : ∃ v, I115 a0 13 = v := ⟨_, rfl⟩
              rw [c297] at p148
              obtain ⟨v298, c299⟩ : ∃ v, I115 a0 14 = v := ⟨_, rfl⟩
              rw [c299] at p149
              refine tr_istore dX12_readRising_37 (by decide) (by decide) ?_
              refine tr_iload dX12_readRising_39 hl60 ?_
              refine tr_iload_n dX12_readRising_41 hl59 ?_
              refine q_icmp_ne 50 dX12_readRising_42 (by decide) (fun h300 => ?_) (fun h300 => ?_)
              · skip
                exfalso; omega
              · skip
                refine tr_aload_n dX12_readRising_45 hl56 ?_
                refine q_iconst dX12_readRising_46 (by decide) ?_
                intro v301 h302
                refine q_callVv hE (M' := mX12_flaw) (as := [_]) dX12_readRising_47 lk12_145 inX12_flaw seX12_flaw myX12_flaw (by decide) ⟨by decide, by decide⟩ rfl (kR15 hS122.1 ta0) (Nat.le_of_ble_eq_true rfl) rfl rfl (by decide) (by decide) (k_X12_flaw hS122.1 ta0 (by omega)) ?_
                rintro cn' K' N' I303 R304 L305 ⟨rfl, rfl, rfl, rfl, rfl, g306, p308, p309, w310, -⟩
                have hS311 := hS122.tr g306 (by decide +kernel) (by decide +kernel)
                have c312 : I303 a0 10 = v73 := (g306.cell ta0 (by decide +kernel)).trans c123
                have c313 : I303 a0 11 = v75 := (g306.cell ta0 (by decide +kernel)).trans c124
                have c314 : I303 a0 12 = v79 := (g306.cell ta0 (by decide +kernel)).trans c125
                have c315 : I303 a0 8 = v81 := (g306.cell ta0 (by decide +kernel)).trans c126
                obtain ⟨v316, c317⟩ : ∃ v, I303 a0 9 = v := ⟨_, rfl⟩
                have b318 := iv15_9 hS311.1 ta0 c317
                rw [c317] at p308
                rw [c315] at p309
                rw [c126] at p309
                have ov319 := w310.over (by rw [c294]; omega)
                obtain ⟨v320, c321⟩ : ∃ v, I303 a0 9 = v := ⟨_, rfl⟩
                have b322 := iv15_9 hS311.1 ta0 c321
                obtain ⟨v323, c324⟩ : ∃ v, I303 a0 13 = v := ⟨_, rfl⟩
                obtain ⟨v325, c326⟩ : ∃ v, I303 a0 14 = v := ⟨_, rfl⟩
                (try rw [c321] at ov319)
                (try rw [c324] at ov319)
                (try rw [c326] at ov319)
                (try rw [c294] at ov319)
                (try rw [c297] at ov319)
                (try rw [c299] at ov319)
                refine tr_aload_n dX12_readRising_50 hl56 ?_
                refine q_callVv hE (M' := mX12_goesOn) (as := []) dX12_readRising_51 lk12_142 inX12_goesOn seX12_goesOn myX12_goesOn (by decide) ⟨by decide, by decide⟩ rfl (kR15 hS311.1 ta0) (Nat.le_of_ble_eq_true rfl) rfl rfl (by decide) (by decide) (k_X12_goesOn hS311.1 ta0) ?_
                rintro cn' K' N' I327 R328 L329 ⟨rfl, rfl, rfl, rfl, g330, p332, p333, p334, w335, -⟩
                have hS336 := hS311.tr g330 (by decide +kernel) (by decide +kernel)
                have c337 : I327 a0 13 = v323 := (g330.cell ta0 (by decide +kernel)).trans c324
                have c338 : I327 a0 14 = v325 := (g330.cell ta0 (by decide +kernel)).trans c326
                obtain ⟨v339, c340⟩ : ∃ v, I327 a0 9 = v := ⟨_, rfl⟩
                have b341 := iv15_9 hS336.1 ta0 c340
                rw [c321] at p332
                rw [c340] at p332
                rw [c321] at p333
                rw [c340] at p333
                obtain ⟨v342, c343⟩ : ∃ v, I327 a0 8 = v := ⟨_, rfl⟩
                have b344 := iv15_8 hS336.1 ta0 c343
                rw [c343] at p334
                rw [c315] at p334
                rw [c337] at p334
                rw [c324] at p334
                have ov345 := w335.over (by rw [c321]; omega)
                obtain ⟨v346, c347⟩ : ∃ v, I327 a0 9 = v := ⟨_, rfl⟩
                have b348 := iv15_9 hS336.1 ta0 c347
                obtain ⟨v349, c350⟩ : ∃ v, I327 a0 13 = v := ⟨_, rfl⟩
                obtain ⟨v351, c352⟩ : ∃ v, I327 a0 14 = v := ⟨_, rfl⟩
                (try rw [c347] at ov345)
                (try rw [c350] at ov345)
                (try rw [c352] at ov345)
                (try rw [c321] at ov345)
                (try rw [c324] at ov345)
                (try rw [c326] at ov345)
                refine tr_aload_n dX12_readRising_54 hl56 ?_
                refine q_getI dX12_readRising_55 fl12_99 (kR15 hS336.1 ta0) c347 ?_
                refine q_iconst dX12_readRising_58 (by decide) ?_
                intro v353 h354
                refine q_icmp_ne 64 dX12_readRising_59 (by decide) (fun h355 => ?_) (fun h355 => ?_)
                · skip
                  exfalso; omega
                · skip
                  refine q_iconst dX12_readRising_62 (by decide) ?_
                  intro v356 h357
                  obtain ⟨v358, c359⟩ : ∃ v, I327 a0 10 = v := ⟨_, rfl⟩
                  have b360 := iv15_10 hS336.1 ta0 c359
                  obtain ⟨v361, c362⟩ : ∃ v, I327 a0 11 = v := ⟨_, rfl⟩
                  obtain ⟨y363, c364⟩ : ∃ v, L329 a0 15 = v := ⟨_, rfl⟩
                  obtain ⟨v365, c366⟩ : ∃ v, I327 a0 12 = v := ⟨_, rfl⟩
                  exact tr_iret hZ dX12_readRising_63 rfl (by decide) (by decide) ⟨v356, rfl, rfl, rfl, rfl, rfl, hS336, (by omega), (Or.inr (⟨(by rw [← g83]; simp only [riF, ↓reduceIte]; repeat' (first | split | omega)), (by (try rw [c347]); first | done | with_reducible assumption | omega), (by (try rw [c350]); rw [← g83]; simp only [riF, ↓reduceIte]; repeat' (first | split | omega)), (by (try rw [c352]); rw [← g84]; simp only [riP, ↓reduceIte]; repeat' (first | split | omega)), trivial⟩)), trivial⟩
      · skip
        obtain ⟨gk106, rfl⟩ : ∃ k, gr66 = k + 1 := ⟨gr66 - 1, by omega⟩
        refine tr_iload dX12_readRising_9 hl62 ?_
        refine q_if_eq 92 dX12_readRising_11 (by decide) (fun h367 => ?_) (fun h367 => ?_)
        · skip
          exfalso; omega
        · skip
          refine tr_aload_n dX12_readRising_14 hl56 ?_
          refine q_getI dX12_readRising_15 fl12_99 (kR15 hS67.1 ta0) c72 ?_
          refine q_iconst dX12_readRising_18 (by decide) ?_
          intro v368 h369
          refine q_icmp_eq 92 dX12_readRising_19 (by decide) (fun h370 => ?_) (fun h370 => ?_)
          · skip
            exfalso; omega
          · skip
            refine tr_aload_n dX12_readRising_22 hl56 ?_
            refine tr_iload dX12_readRising_23 hl61 ?_
            refine tr_aload_n dX12_readRising_25 hl56 ?_
            refine tr_getR dX12_readRising_26 fl12_188 (kR15 hS67.1 ta0) d12 ?_
            refine q_getI dX12_readRising_29 fl12_192 (kR14 hS67.1 ta11) ((hS67.cell ta11 (by decide +kernel)).trans c40) ?_
            refine q_iconst dX12_readRising_32 (by decide) ?_
            intro v371 h372
            refine q_isubE dX12_readRising_33 (by intros; omega) ?_
            intro v373 h374
            refine q_callVi hE (M' := mX12_bounded) (as := [_, _]) dX12_readRising_34 lk12_153 inX12_bounded seX12_bounded myX12_bounded (by decide) ⟨by decide, by decide⟩ rfl (kR15 hS67.1 ta0) (Nat.le_of_ble_eq_true rfl) rfl rfl (by decide) (by decide) (fk_X12_bounded hS67.1 (gB) (gs65) ta0 (by (try rw [c72]); first | done | with_reducible assumption | omega) (by (try rw [c72]); first | done | with_reducible assumption | omega) (by (try rw [c74]); first | done | with_reducible assumption | omega) (by (try rw [c76]); first | done | with_reducible assumption | omega) (by (try rw [c78]); first | done | assumption) (by (try rw [c80]); first | done | assumption) (by (try rw [c82]); first | done | assumption)) ?_
            rintro v380 cn' K' N' I375 R376 L377 ⟨rfl, rfl, rfl, rfl, rfl, g378, dj381, -⟩
            have hS382 := hS67.tr g378 (by decide +kernel) (by decide +kernel)
            have c383 : I375 a0 10 = v73 := (g378.cell ta0 (by decide +kernel)).trans c74
            have c384 : I375 a0 11 = v75 := (g378.cell ta0 (by decide +kernel)).trans c76
            have c385 : I375 a0 12 = v79 := (g378.cell ta0 (by decide +kernel)).trans c80
            have c386 : I375 a0 8 = v81 := (g378.cell ta0 (by decide +kernel)).trans c82
            rcases dj381 with ⟨p387, p388, p389, p390, p391, p392, p393, p394, p395, p396, p397, p398, -⟩ | ⟨p399, p400, p401, p402, p403, -⟩ | ⟨p404, p405, p406, p407, p408, p409, -⟩
            · skip
              obtain ⟨v410, c411⟩ : ∃ v, I375 a0 13 = v := ⟨_, rfl⟩
              rw [c411] at p391
              rw [c70] at p391
              obtain ⟨v412, c413⟩ : ∃ v, I375 a0 9 = v := ⟨_, rfl⟩
              have b414 := iv15_9 hS382.1 ta0 c413
              rw [c413] at p392
              rw [c413] at p393
              rw [c383] at p394
              rw [c384] at p395
              rw [c78] at p396
              rw [c385] at p397
              rw [c386] at p398
              refine tr_istore dX12_readRising_37 (by decide) (by decide) ?_
              refine tr_iload dX12_readRising_39 hl60 ?_
              refine tr_iload_n dX12_readRising_41 hl59 ?_
              refine q_icmp_ne 50 dX12_readRising_42 (by decide) (fun h415 => ?_) (fun h415 => ?_)
              · skip
                refine tr_aload_n dX12_readRising_50 hl56 ?_
                have p416 := p398 (by omega)
                refine q_callVv hE (M' := mX12_goesOn) (as := []) dX12_readRising_51 lk12_142 inX12_goesOn seX12_goesOn myX12_goesOn (by decide) ⟨by decide, by decide⟩ rfl (kR15 hS382.1 ta0) (Nat.le_of_ble_eq_true rfl) rfl rfl (by decide) (by decide) (fk_X12_goesOn hS382.1 (gB) ((tkN gB gs65)) ta0 (TxA.kp hT hS382 ta0 rfl rfl rfl (by decide +kernel) (by decide +kernel)) (by (try rw [c386]); first | done | with_reducible assumption | omega) (by (try rw [((hS382.cell ta0 (by decide +kernel)).trans c36)]); first | done | with_reducible assumption | omega) (by (try rw [c413]); first | done | with_reducible assumption | omega)) ?_
                rintro cn' K' N' I417 R418 L419 ⟨rfl, rfl, rfl, rfl, g420, gl421, p423, p424, p425, p426, p427, p428, p429, -⟩
                have hS430 := hS382.tr g420 (by decide +kernel) (by decide +kernel)
                have c431 : I417 a0 13 = v410 := (g420.cell ta0 (by decide +kernel)).trans c411
                have hL432 := hL68.tr gl421 (by decide +kernel)
                obtain ⟨v433, c434⟩ : ∃ v, I417 a0 9 = v := ⟨_, rfl⟩
                have b435 := iv15_9 hS430.1 ta0 c434
                rw [c434] at p423
                rw [c434] at p424
                obtain ⟨v436, c437⟩ : ∃ v, I417 a0 10 = v := ⟨_, rfl⟩
                have b438 := iv15_10 hS430.1 ta0 c437
                rw [c437] at p425
                obtain ⟨v439, c440⟩ : ∃ v, I417 a0 11 = v := ⟨_, rfl⟩
                rw [c440] at p426
                obtain ⟨y441, c442⟩ : ∃ v, L419 a0 15 = v := ⟨_, rfl⟩
                rw [c442] at p427
                obtain ⟨v443, c444⟩ : ∃ v, I417 a0 12 = v := ⟨_, rfl⟩
                rw [c444] at p428
                obtain ⟨v445, c446⟩ : ∃ v, I417 a0 8 = v := ⟨_, rfl⟩
                have b447 := iv15_8 hS430.1 ta0 c446
                rw [c446] at p429
                refine tr_aload_n dX12_readRising_54 hl56 ?_
                refine q_getI dX12_readRising_55 fl12_99 (kR15 hS430.1 ta0) c434 ?_
                refine q_iconst dX12_readRising_58 (by decide) ?_
                intro v448 h449
                refine q_icmp_ne 64 dX12_readRising_59 (by decide) (fun h450 => ?_) (fun h450 => ?_)
                · skip
                  refine tr_aload_n dX12_readRising_64 hl57 ?_
                  refine tr_iload_n dX12_readRising_65 hl58 ?_
                  refine tr_iload dX12_readRising_66 hl60 ?_
                  refine q_iaddE dX12_readRising_68 (by intros; omega) ?_
                  intro v451 h452
                  refine tr_iload dX12_readRising_69 rfl ?_
                  refine q_iast dX12_readRising_71 (kR61 hS430.1 ta1) (ti_in (nR61 hS430.1 ta1) (by omega) (by omega)) hS430 ta1 (by show (0 : Int) ≤ v380.toInt ∧ v380.toInt ≤ (239 : Int); omega) rfl (by rfl) ?_
                  intro I453 hS454 e456 f455
                  have c457 : I453 a0 13 = v410 := (f455 _ _ (fun q => by have z := ta0; rw [q.1, ta1] at z; exact absurd z (by decide))).trans c431
                  have c458 : I453 a0 9 = v433 := (f455 _ _ (fun q => by have z := ta0; rw [q.1, ta1] at z; exact absurd z (by decide))).trans c434
                  have c459 : I453 a0 10 = v436 := (f455 _ _ (fun q => by have z := ta0; rw [q.1, ta1] at z; exact absurd z (by decide))).trans c437
                  have c460 : I453 a0 11 = v439 := (f455 _ _ (fun q => by have z := ta0; rw [q.1, ta1] at z; exact absurd z (by decide))).trans c440
                  have c461 : I453 a0 12 = v443 := (f455 _ _ (fun q => by have z := ta0; rw [q.1, ta1] at z; exact absurd z (by decide))).trans c444
                  have c462 : I453 a0 8 = v445 := (f455 _ _ (fun q => by have z := ta0; rw [q.1, ta1] at z; exact absurd z (by decide))).trans c446
                  refine q_iincE dX12_readRising_72 hl60 (by decide) (by decide) (by intros; omega) ?_
                  intro v463 h464
                  refine tr_iload dX12_readRising_75 rfl ?_
                  refine q_iconst dX12_readRising_77 (by decide) ?_
                  intro v465 h466
                  refine q_iaddE dX12_readRising_78 (by intros; omega) ?_
                  intro v467 h468
                  refine tr_istore dX12_readRising_79 (by decide) (by decide) ?_
                  refine tr_aload_n dX12_readRising_81 hl56 ?_
                  refine q_bipush dX12_readRising_82 (by decide +kernel) ?_
                  intro v469 h470
                  refine q_callVi hE (M' := mX12_eatsSign) (as := [_]) dX12_readRising_84 lk12_221 inX12_eatsSign seX12_eatsSign myX12_eatsSign (by decide) ⟨by decide, by decide⟩ rfl (kR15 hS454.1 ta0) (Nat.le_of_ble_eq_true rfl) rfl rfl (by decide) (by decide) (fk_X12_eatsSign hS454.1 (gB) ((tkN gB gs65)) ta0 (TxA.kp hT hS454 ta0 rfl rfl rfl (by decide +kernel) (by decide +kernel)) (by (try rw [c458]); first | done | with_reducible assumption | omega) (by (try rw [c458]); first | done | with_reducible assumption | omega) (by (try rw [c459]); first | done | with_reducible assumption | omega) (by (try rw [c460]); first | done | with_reducible assumption | omega) (by (try rw [c442]); first | done | assumption) (by (try rw [c461]); first | done | assumption) (by (try rw [c462]); first | done | assumption) (by (try rw [((hS454.cell ta0 (by decide +kernel)).trans c36)]); first | done | with_reducible assumption | omega) (by first | done | with_reducible assumption | omega)) ?_
                  rintro v476 cn' K' N' I471 R472 L473 ⟨rfl, rfl, rfl, rfl, g474, gl475, h477, dj478, -⟩
                  have hS479 := hS454.tr g474 (by decide +kernel) (by decide +kernel)
                  have c480 : I471 a0 13 = v410 := (g474.cell ta0 (by decide +kernel)).trans c457
                  have hL481 := hL432.tr gl475 (by decide +kernel)
                  rcases dj478 with ⟨p482, p483, p484, p485, p486, p487, p488, p489, p490, p491, -⟩ | ⟨p492, p493, p494, p495, p496, p497, p498, p499, p500, p501, -⟩
                  · skip
                    rw [c480] at p484
                    rw [c457] at p484
                    obtain ⟨v502, c503⟩ : ∃ v, I471 a0 9 = v := ⟨_, rfl⟩
                    have b504 := iv15_9 hS479.1 ta0 c503
                    rw [c503] at p485
                    rw [c503] at p486
                    obtain ⟨v505, c506⟩ : ∃ v, I471 a0 10 = v := ⟨_, rfl⟩
                    have b507 := iv15_10 hS479.1 ta0 c506
                    rw [c506] at p487
                    obtain ⟨v508, c509⟩ : ∃ v, I471 a0 11 = v := ⟨_, rfl⟩
                    rw [c509] at p488
                    obtain ⟨y510, c511⟩ : ∃ v, L473 a0 15 = v := ⟨_, rfl⟩
                    rw [c511] at p489
                    obtain ⟨v512, c513⟩ : ∃ v, I471 a0 12 = v := ⟨_, rfl⟩
                    rw [c513] at p490
                    obtain ⟨v514, c515⟩ : ∃ v, I471 a0 8 = v := ⟨_, rfl⟩
                    have b516 := iv15_8 hS479.1 ta0 c515
                    rw [c515] at p491
                    refine tr_istore dX12_readRising_87 (by decide) (by decide) ?_
                    refine tr_goto 9 dX12_readRising_89 (by decide) ?_
                    exact ih100 _ v463 v467 v476 I471 L473 ((tkN gB (tkN gB gs65))) (gk106) v410 v502 v505 v508 y510 v512 v514 hl56 hl57 hl58 hl59 rfl rfl rfl hS479 hL481 c480 c503 c506 c509 c511 c513 c515 (by rw [← g83]; simp only [riF, ↓reduceIte]; rw [show v467.toInt = tkV gB gs65 + 1 by omega]; repeat' (first | split | omega)) (by rw [← g84]; simp only [riP, ↓reduceIte]; rw [show v467.toInt = tkV gB gs65 + 1 by omega]; repeat' (first | split | omega)) (by rw [← g85]; simp only [riS, ↓reduceIte]; rw [show v467.toInt = tkV gB gs65 + 1 by omega]; repeat' (first | split | omega)) (by omega) (by omega) (by omega) (by omega) (by omega) (by omega) (by omega) (by omega) (by omega) (by omega) (by omega) (by assumption) (by assumption) (by assumption) (by omega)
                  · skip
                    rw [c480] at p494
                    rw [c457] at p494
                    obtain ⟨v517, c518⟩ : ∃ v, I471 a0 9 = v := ⟨_, rfl⟩
                    have b519 := iv15_9 hS479.1 ta0 c518
                    rw [c518] at p495
                    rw [c518] at p496
                    obtain ⟨v520, c521⟩ : ∃ v, I471 a0 10 = v := ⟨_, rfl⟩
                    have b522 := iv15_10 hS479.1 ta0 c521
                    rw [c521] at p497
                    obtain ⟨v523, c524⟩ : ∃ v, I471 a0 11 = v := ⟨_, rfl⟩
                    rw [c524] at p498
                    obtain ⟨y525, c526⟩ : ∃ v, L473 a0 15 = v := ⟨_, rfl⟩
                    rw [c526] at p499
                    obtain ⟨v527, c528⟩ : ∃ v, I471 a0 12 = v := ⟨_, rfl⟩
                    rw [c528] at p500
                    obtain ⟨v529, c530⟩ : ∃ v, I471 a0 8 = v := ⟨_, rfl⟩
                    have b531 := iv15_8 hS479.1 ta0 c530
                    rw [c530] at p501
                    refine tr_istore dX12_readRising_87 (by decide) (by decide) ?_
                    refine tr_goto 9 dX12_readRising_89 (by decide) ?_
                    refine tr_iload dX12_readRising_9 rfl ?_
                    refine q_if_eq 92 dX12_readRising_11 (by decide) (fun h532 => ?_) (fun h532 => ?_)
                    · skip
                      refine tr_iload dX12_readRising_92 rfl ?_
                      have es533 : riS gB gQ 8 0 gs = (tkN gB gs65) := by rw [← g85]; simp only [riS, ↓reduceIte]; repeat' (first | split | omega)
                      obtain ⟨v534, c535⟩ : ∃ v, I471 a0 14 = v := ⟨_, rfl⟩
                      exact tr_iret hZ dX12_readRising_94 rfl (by decide) (by decide) ⟨v463, rfl, rfl, rfl, rfl, rfl, hS479, (by omega), (Or.inl ⟨(by rw [← g83]; simp only [riF, ↓reduceIte]; repeat' (first | split | omega)), (by (try rw [es533]); (try rw [c480]); (try rw [c46]); first | done | with_reducible assumption | omega), (by (try rw [es533]); (try rw [c518]); first | done | with_reducible assumption | omega), (by (try rw [es533]); (try rw [c518]); first | done | with_reducible assumption | omega), (by (try rw [es533]); (try rw [c521]); first | done | with_reducible assumption | omega), (by (try rw [es533]); (try rw [c524]); first | done | with_reducible assumption | omega), (by (try rw [es533]); (try rw [c526]); first | done | assumption), (by (try rw [es533]); (try rw [c528]); first | done | assumption), (by (try rw [es533]); (try rw [c530]); first | done | assumption), hL481, trivial⟩), trivial⟩
                    · skip
                      exfalso; omega
                · skip
                  exfalso; omega
              · skip
                exfalso; omega
            · skip
              obtain ⟨v536, c537⟩ : ∃ v, I375 a0 9 = v := ⟨_, rfl⟩
              have b538 := iv15_9 hS382.1 ta0 c537
              rw [c537] at p401
              obtain ⟨v539, c540⟩ : ∃ v, I375 a0 13 = v := ⟨_, rfl⟩
              rw [c540] at p402
              obtain ⟨v541, c542⟩ : ∃ v, I375 a0 14 = v := ⟨_, rfl⟩
              rw [c542] at p403
              refine tr_istore dX12_readRising_37 (by decide) (by decide) ?_
              refine tr_iload dX12_readRising_39 hl60 ?_
              refine tr_iload_n dX12_readRising_41 hl59 ?_
              refine q_icmp_ne 50 dX12_readRising_42 (by decide) (fun h543 => ?_) (fun h543 => ?_)
              · skip
                refine tr_aload_n dX12_readRising_50 hl56 ?_
                refine q_callVv hE (M' := mX12_goesOn) (as := []) dX12_readRising_51 lk12_142 inX12_goesOn seX12_goesOn myX12_goesOn (by decide) ⟨by decide, by decide⟩ rfl (kR15 hS382.1 ta0) (Nat.le_of_ble_eq_true rfl) rfl rfl (by decide) (by decide) (k_X12_goesOn hS382.1 ta0) ?_
                rintro cn' K' N' I544 R545 L546 ⟨rfl, rfl, rfl, rfl, g547, p549, p550, p551, w552, -⟩
                have hS553 := hS382.tr g547 (by decide +kernel) (by decide +kernel)
                have c554 : I544 a0 13 = v539 := (g547.cell ta0 (by decide +kernel)).trans c540
                have c555 : I544 a0 14 = v541 := (g547.cell ta0 (by decide +kernel)).trans c542
                obtain ⟨v556, c557⟩ : ∃ v, I544 a0 9 = v := ⟨_, rfl⟩
                have b558 := iv15_9 hS553.1 ta0 c557
                rw [c537] at p549
                rw [c557] at p549
                rw [c537] at p550
                rw [c557] at p550
                obtain ⟨v559, c560⟩ : ∃ v, I544 a0 8 = v := ⟨_, rfl⟩
                have b561 := iv15_8 hS553.1 ta0 c560
                rw [c560] at p551
                rw [c386] at p551
                rw [c554] at p551
                rw [c540] at p551
                have ov562 := w552.over (by rw [c537]; omega)
                obtain ⟨v563, c564⟩ : ∃ v, I544 a0 9 = v := ⟨_, rfl⟩
                have b565 := iv15_9 hS553.1 ta0 c564
                obtain ⟨v566, c567⟩ : ∃ v, I544 a0 13 = v := ⟨_, rfl⟩
                obtain ⟨v568, c569⟩ : ∃ v, I544 a0 14 = v := ⟨_, rfl⟩
                (try rw [c564] at ov562)
                (try rw [c567] at ov562)
                (try rw [c569] at ov562)
                (try rw [c537] at ov562)
                (try rw [c540] at ov562)
                (try rw [c542] at ov562)
                refine tr_aload_n dX12_readRising_54 hl56 ?_
                refine q_getI dX12_readRising_55 fl12_99 (kR15 hS553.1 ta0) c564 ?_
                refine q_iconst dX12_readRising_58 (by decide) ?_
                intro v570 h571
                refine q_icmp_ne 64 dX12_readRising_59 (by decide) (fun h572 => ?_) (fun h572 => ?_)
                · skip
                  exfalso; omega
                · skip
                  refine q_iconst dX12_readRising_62 (by decide) ?_
                  intro v573 h574
                  obtain ⟨v575, c576⟩ : ∃ v, I544 a0 10 = v := ⟨_, rfl⟩
                  have b577 := iv15_10 hS553.1 ta0 c576
                  obtain ⟨v578, c579⟩ : ∃ v, I544 a0 11 = v := ⟨_, rfl⟩
                  obtain ⟨y580, c581⟩ : ∃ v, L546 a0 15 = v := ⟨_, rfl⟩
                  obtain ⟨v582, c583⟩ : ∃ v, I544 a0 12 = v := ⟨_, rfl⟩
                  exact tr_iret hZ dX12_readRising_63 rfl (by decide) (by decide) ⟨v573, rfl, rfl, rfl, rfl, rfl, hS553, (by omega), (Or.inr (⟨(by rw [← g83]; simp only [riF, ↓reduceIte]; repeat' (first | split | omega)), (by (try rw [c564]); first | done | with_reducible assumption | omega), (by (try rw [c567]); rw [← g83]; simp only [riF, ↓reduceIte]; repeat' (first | split | omega)), (by (try rw [c569]); rw [← g84]; simp only [riP, ↓reduceIte]; repeat' (first | split | omega)), trivial⟩)), trivial⟩
              · skip
                exfalso; omega
            · skip
              obtain ⟨v584, c585⟩ : ∃ v, I375 a0 9 = v := ⟨_, rfl⟩
              have b586 := iv15_9 hS382.1 ta0 c585
              rw [c585] at p407
              obtain ⟨v587, c588⟩ : ∃ v, I375 a0 13 = v := ⟨_, rfl⟩
              rw [c588] at p408
              obtain ⟨v589, c590⟩ : ∃ v, I375 a0 14 = v := ⟨_, rfl⟩
              rw [c590] at p409
              refine tr_istore dX12_readRising_37 (by decide) (by decide) ?_
              refine tr_iload dX12_readRising_39 hl60 ?_
              refine tr_iload_n dX12_readRising_41 hl59 ?_
              refine q_icmp_ne 50 dX12_readRising_42 (by decide) (fun h591 => ?_) (fun h591 => ?_)
              · skip
                refine tr_aload_n dX12_readRising_50 hl56 ?_
                refine q_callVv hE (M' := mX12_goesOn) (as := []) dX12_readRising_51 lk12_142 inX12_goesOn seX12_goesOn myX12_goesOn (by decide) ⟨by decide, by decide⟩ rfl (kR15 hS382.1 ta0) (Nat.le_of_ble_eq_true rfl) rfl rfl (by decide) (by decide) (k_X12_goesOn hS382.1 ta0) ?_
                rintro cn' K' N' I592 R593 L594 ⟨rfl, rfl, rfl, rfl, g595, p597, p598, p599, w600, -⟩
                have hS601 := hS382.tr g595 (by decide +kernel) (by decide +kernel)
                have c602 : I592 a0 13 = v587 := (g595.cell ta0 (by decide +kernel)).trans c588
                have c603 : I592 a0 14 = v589 := (g595.cell ta0 (by decide +kernel)).trans c590
                obtain ⟨v604, c605⟩ : ∃ v, I592 a0 9 = v := ⟨_, rfl⟩
                have b606 := iv15_9 hS601.1 ta0 c605
                rw [c585] at p597
                rw [c605] at p597
                rw [c585] at p598
                rw [c605] at p598
                obtain ⟨v607, c608⟩ : ∃ v, I592 a0 8 = v := ⟨_, rfl⟩
                have b609 := iv15_8 hS601.1 ta0 c608
                rw [c608] at p599
                rw [c386] at p599
                rw [c602] at p599
                rw [c588] at p599
                have ov610 := w600.over (by rw [c585]; omega)
                obtain ⟨v611, c612⟩ : ∃ v, I592 a0 9 = v := ⟨_, rfl⟩
                have b613 := iv15_9 hS601.1 ta0 c612
                obtain ⟨v614, c615⟩ : ∃ v, I592 a0 13 = v := ⟨_, rfl⟩
                obtain ⟨v616, c617⟩ : ∃ v, I592 a0 14 = v := ⟨_, rfl⟩
                (try rw [c612] at ov610)
                (try rw [c615] at ov610)
                (try rw [c617] at ov610)
                (try rw [c585] at ov610)
                (try rw [c588] at ov610)
                (try rw [c590] at ov610)
                refine tr_aload_n dX12_readRising_54 hl56 ?_
                refine q_getI dX12_readRising_55 fl12_99 (kR15 hS601.1 ta0) c612 ?_
                refine q_iconst dX12_readRising_58 (by decide) ?_
                intro v618 h619
                refine q_icmp_ne 64 dX12_readRising_59 (by decide) (fun h620 => ?_) (fun h620 => ?_)
                · skip
                  exfalso; omega
                · skip
                  refine q_iconst dX12_readRising_62 (by decide) ?_
                  intro v621 h622
                  obtain ⟨v623, c624⟩ : ∃ v, I592 a0 10 = v := ⟨_, rfl⟩
                  have b625 := iv15_10 hS601.1 ta0 c624
                  obtain ⟨v626, c627⟩ : ∃ v, I592 a0 11 = v := ⟨_, rfl⟩
                  obtain ⟨y628, c629⟩ : ∃ v, L594 a0 15 = v := ⟨_, rfl⟩
                  obtain ⟨v630, c631⟩ : ∃ v, I592 a0 12 = v := ⟨_, rfl⟩
                  exact tr_iret hZ dX12_readRising_63 rfl (by decide) (by decide) ⟨v621, rfl, rfl, rfl, rfl, rfl, hS601, (by omega), (Or.inr (⟨(by rw [← g83]; simp only [riF, ↓reduceIte]; repeat' (first | split | omega)), (by (try rw [c612]); first | done | with_reducible assumption | omega), (by (try rw [c615]); rw [← g83]; simp only [riF, ↓reduceIte]; repeat' (first | split | omega)), (by (try rw [c617]); rw [← g84]; simp only [riP, ↓reduceIte]; repeat' (first | split | omega)), trivial⟩)), trivial⟩
              · skip
                exfalso; omega
  exact lp100 _ _ v47 v49 v51 I0 L0 (gs) (8) v45 v13 v18 v22 y25 v28 v31 rfl rfl rfl rfl rfl rfl rfl hS0 hL0 c46 c14 c19 c23 c26 c29 c32 (by first | rfl | (congr 1; omega) | (congr 2 <;> omega)) (by first | rfl | (congr 1; omega) | (congr 2 <;> omega)) (by first | rfl | (congr 1; omega) | (congr 2 <;> omega)) (by omega) (by omega) (by omega) (by omega) (by omega) (by omega) (by omega) (by omega) (by omega) (by omega) (by omega) (by assumption) (by assumption) (by assumption) (Nat.lt_succ_self _)
def wik_X12_readSlice : List Nat := [902, 968, 969, 970, 971, 972, 973, 974, 3903, 3967]
def wrk_X12_readSlice : List Nat := []
def wlk_X12_readSlice : List Nat := [975]
set_option maxHeartbeats 4000000 in
theorem fk_X12_readSlice {l : Launch} {T : Nat → Nat} {cn : Nat} {K N : Nat → Nat} {I0 : cz_I} {R0 : cz_R} {L0 : cz_L} (hW0 : Wf T cn K N I0 R0 0) (gB : cz_B) (gs : Int) (gQ : Nat → Int) {a0 : Nat} (ta0 : T a0 = 15) (hT : ∀ t, R0 a0 5 = some t → Tx I0 t gB) (hN : ∀ b, R0 a0 4 = some b → NmM I0 R0 L0 b gQ) (pre0 : (I0 a0 9).toInt = (tkM gB gs)) (pre1 : (I0 a0 9).toInt ≤ 4) (pre2 : (I0 a0 10).toInt = (tkS gB gs)) (pre3 : (I0 a0 11).toInt = (tkG gB gs)) (pre4 : (AtW ((tkK gB gs)) ((L0 a0 15).toInt) ((tkW gB gs)))) (pre5 : (AtV ((tkK gB gs)) ((I0 a0 12).toInt) ((tkV gB gs)))) (pre6 : (AtN ((tkK gB gs)) ((I0 a0 8).toInt) ((tkN gB gs)))) (pre7 : (I0 a0 7).toInt = (gB.2)) (pre8 : ∀ b1, R0 a0 4 = some b1 → (I0 b1 0).toInt = (gQ 0)) (pre9 : ∀ b1, R0 a0 4 = some b1 → (I0 b1 1).toInt = (gQ 1)) (pre10 : ∀ b1, R0 a0 4 = some b1 → (I0 b1 2).toInt = (gQ 2)) (pre11 : ∀ b1, R0 a0 4 = some b1 → (I0 b1 3).toInt = (gQ 3)) (pre12 : ∀ b1, R0 a0 4 = some b1 → (I0 b1 4).toInt = (gQ 4)) (pre13 : ∀ b1, R0 a0 4 = some b1 → (I0 b1 5).toInt = (gQ 5)) (pre14 : ∀ b1, R0 a0 4 = some b1 → (I0 b1 6).toInt = (gQ 6)) (pre15 : ∀ b1, R0 a0 4 = some b1 → (I0 b1 9).toInt = (gQ 8)) (pre16 : (Q7M ((gQ 0)) ((gQ 7)))) (pre17 : (tkK gB gs) = 1) (pre18 : (srt gB gs) = 9) (nn4 : ∃ b, R0 a0 4 = some b) : ConE l mX12_readSlice [.ref a0] cn K N I0 R0 L0 (ca_v (fun cn' K' N' I' R' L' => cn = cn' ∧ K = K' ∧ N = N' ∧ R0 = R' ∧ St T cn K N 0 wik_X12_readSlice wrk_X12_readSlice I0 R0 I' R0 ∧ (∀ dr, R0 a0 4 = some dr → FrO 14 dr T I0 I') ∧ ((((lnF gB gQ gs) = 0) ∧ (∀ b1, R0 a0 4 = some b1 → (I' b1 0).toInt = (lnQ gB gQ gs 0)) ∧ (∀ b1, R0 a0 4 = some b1 → (I' b1 1).toInt = (lnQ gB gQ gs 1)) ∧ (∀ b1, R0 a0 4 = some b1 → (I' b1 2).toInt = (lnQ gB gQ gs 2)) ∧ (∀ b1, R0 a0 4 = some b1 → (I' b1 3).toInt = (lnQ gB gQ gs 3)) ∧ (∀ b1, R0 a0 4 = some b1 → (I' b1 4).toInt = (lnQ gB gQ gs 4)) ∧ (∀ b1, R0 a0 4 = some b1 → (I' b1 5).toInt = (lnQ gB gQ gs 5)) ∧ (∀ b1, R0 a0 4 = some b1 → (I' b1 6).toInt = (lnQ gB gQ gs 6)) ∧ (∀ b1, R0 a0 4 = some b1 → (I' b1 9).toInt = (lnQ gB gQ gs 8)) ∧ ((I' a0 13).toInt = (I0 a0 13).toInt) ∧ ((I' a0 9).toInt = (tkM gB (lnS gB gQ gs))) ∧ ((I' a0 9).toInt ≤ 4) ∧ ((I' a0 10).toInt = (tkS gB (lnS gB gQ gs))) ∧ ((I' a0 11).toInt = (tkG gB (lnS gB gQ gs))) ∧ ((AtW ((tkK gB (lnS gB gQ gs))) ((L' a0 15).toInt) ((tkW gB (lnS gB gQ gs))))) ∧ ((AtV ((tkK gB (lnS gB gQ gs))) ((I' a0 12).toInt) ((tkV gB (lnS gB gQ gs))))) ∧ ((AtN ((tkK gB (lnS gB gQ gs))) ((I' a0 8).toInt) ((tkN gB (lnS gB gQ gs))))) ∧ LgS T wlk_X12_readSlice L0 L' ∧ (∀ b, R0 a0 4 = some b → NmM I' R0 L' b (lnQ gB gQ gs)) ∧ True) ∨ (((lnF gB gQ gs) ≠ 0) ∧ ((I' a0 9).toInt = 5) ∧ ((I' a0 13).toInt = (lnF gB gQ gs)) ∧ ((I' a0 14).toInt = (lnP gB gQ gs)) ∧ True)) ∧ True)) := by
  refine ConE.of (by decide +kernel) rfl (Nat.le_of_ble_eq_true rfl) rfl (fun X hX hZ hE => ?_)
  subst hX
  have hS0 : St T cn K N 0 wik_X12_readSlice wrk_X12_readSlice I0 R0 I0 R0 := St.rf0 hW0
  have hL0 : LgS T wlk_X12_readSlice L0 L0 := LgS.rf0
  obtain ⟨a1, d2⟩ := nn4
  have ta1 : T a1 = 14 := hW0.rsN ta0 rfl d2
  obtain ⟨v3, c4⟩ : ∃ v, I0 a0 9 = v := ⟨_, rfl⟩
  have b5 := iv15_9 hS0.1 ta0 c4
  have p6 := pre0
  rw [c4] at p6
  have p7 := pre1
  rw [c4] at p7
  obtain ⟨v8, c9⟩ : ∃ v, I0 a0 10 = v := ⟨_, rfl⟩
  have b10 := iv15_10 hS0.1 ta0 c9
  have p11 := pre2
  rw [c9] at p11
  obtain ⟨v12, c13⟩ : ∃ v, I0 a0 11 = v := ⟨_, rfl⟩
  have p14 := pre3
  rw [c13] at p14
  obtain ⟨y15, c16⟩ : ∃ v, L0 a0 15 = v := ⟨_, rfl⟩
  have p17 := pre4
  rw [c16] at p17
  obtain ⟨v18, c19⟩ : ∃ v, I0 a0 12 = v := ⟨_, rfl⟩
  have p20 := pre5
  rw [c19] at p20
  obtain ⟨v21, c22⟩ : ∃ v, I0 a0 8 = v := ⟨_, rfl⟩
  have b23 := iv15_8 hS0.1 ta0 c22
  have p24 := pre6
  rw [c22] at p24
  obtain ⟨v25, c26⟩ : ∃ v, I0 a0 7 = v := ⟨_, rfl⟩
  have b27 := iv15_7 hW0 ta0 c26
  have p28 := pre7
  rw [c26] at p28
  obtain ⟨v29, c30⟩ : ∃ v, I0 a1 0 = v := ⟨_, rfl⟩
  have b31 := iv14_0 hW0 ta1 c30
  have p32 := pre8 _ d2
  rw [c30] at p32
  obtain ⟨v33, c34⟩ : ∃ v, I0 a1 1 = v := ⟨_, rfl⟩
  have b35 := iv14_1 hW0 ta1 c34
  have p36 := pre9 _ d2
  rw [c34] at p36
  obtain ⟨v37, c38⟩ : ∃ v, I0 a1 2 = v := ⟨_, rfl⟩
  have b39 := iv14_2 hW0 ta1 c38
  have p40 := pre10 _ d2
  rw [c38] at p40
  obtain ⟨v41, c42⟩ : ∃ v, I0 a1 3 = v := ⟨_, rfl⟩
  have b43 := iv14_3 hW0 ta1 c42
  have p44 := pre11 _ d2
  rw [c42] at p44
  obtain ⟨v45, c46⟩ : ∃ v, I0 a1 4 = v := ⟨_, rfl⟩
  have b47 := iv14_4 hW0 ta1 c46
  have p48 := pre12 _ d2
  rw [c46] at p48
  obtain ⟨v49, c50⟩ : ∃ v, I0 a1 5 = v := ⟨_, rfl⟩
  have b51 := iv14_5 hW0 ta1 c50
  have p52 := pre13 _ d2
  rw [c50] at p52
  obtain ⟨v53, c54⟩ : ∃ v, I0 a1 6 = v := ⟨_, rfl⟩
  have b55 := iv14_6 hS0.1 ta1 c54
  have p56 := pre14 _ d2
  rw [c54] at p56
  obtain ⟨v57, c58⟩ : ∃ v, I0 a1 9 = v := ⟨_, rfl⟩
  have b59 := iv14_9 hW0 ta1 c58
  have p60 := pre15 _ d2
  rw [c58] at p60
  have p61 := pre16
  have p62 := pre17
  have p63 := pre18
  obtain ⟨v64, c65⟩ : ∃ v, I0 a0 13 = v := ⟨_, rfl⟩
  have hM0 := hN _ d2
  have hO0 : FrO 14 a1 T I0 I0 := FrO.rf
  have hF := lnF_ch gB gQ gs
  have hP := lnP_ch gB gQ gs
  replace hF := hF.neg (by omega)
  replace hP := hP.neg (by omega)
  replace hF := hF.neg (by omega)
  replace hP := hP.neg (by omega)
  refine tr_aload_n dX12_readSlice_0 rfl ?_
  refine tr_aload_n dX12_readSlice_1 rfl ?_
  refine tr_getR dX12_readSlice_2 fl12_188 (kR15 hS0.1 ta0) d2 ?_
  refine q_getI dX12_readSlice_5 fl12_370 (kR14 hS0.1 ta1) c54 ?_
  refine q_iconst dX12_readSlice_8 (by decide) ?_
  intro v66 h67
  refine q_callVv hE (M' := mX12_begins) (as := [_, _]) dX12_readSlice_9 lk12_268 inX12_begins seX12_begins myX12_begins (by decide) ⟨by decide, by decide⟩ rfl (kR15 hS0.1 ta0) (Nat.le_of_ble_eq_true rfl) rfl rfl (by decide) (by decide) (fk_X12_begins hS0.1 (gB) (gs) (gQ) ta0 (TxA.kp hT hS0 ta0 rfl rfl rfl (by decide +kernel) (by decide +kernel)) (by (try rw [c4]); first | done | with_reducible assumption | omega) (by (try rw [c4]); first | done | with_reducible assumption | omega) (by (try rw [c9]); first | done | with_reducible assumption | omega) (by (try rw [c13]); first | done | with_reducible assumption | omega) (by (try rw [c16]); first | done | assumption) (by (try rw [c19]); first | done | assumption) (by (try rw [c22]); first | done | assumption) (by (try rw [c26]); first | done | with_reducible assumption | omega) (fun q0 z0 => by obtain rfl := Option.some.inj ((d2).symm.trans z0); (try rw [c30]); first | done | with_reducible assumption | omega) (by first | done | with_reducible assumption | omega) ⟨_, d2⟩) ?_
  rintro cn' K' N' I68 R69 L70 ⟨rfl, rfl, rfl, rfl, g71, dj74, -⟩
  have hM75 : NmM I68 R0 L0 a1 gQ := NmM.kpS hM0 g71 hS0.1 ta1 (by decide +kernel) (by decide +kernel)
  have hS76 := hS0.tr g71 (by decide +kernel) (by decide +kernel)
  have c77 : I68 a1 6 = v53 := (g71.cell ta1 (by decide +kernel)).trans c54
  have hO78 : FrO 14 a1 T I0 I68 := hO0.st g71 (by decide +kernel)
  rcases dj74 with ⟨p79, p80, p81, p82, p83, p84, p85, p86, p87, p88, gl89, -⟩ | ⟨p90, p91, p92, p93, -⟩ | ⟨p94, p95, p96, p97, p98, -⟩
  · skip
    have hL99 := hL0.tr gl89 (by decide +kernel)
    have hM100 : NmM I68 R0 L70 a1 gQ := NmM.kpL hM75 gl89 hS76.1 ta1 (by decide +kernel)
    obtain ⟨v101, c102⟩ : ∃ v, I68 a0 13 = v := ⟨_, rfl⟩
    rw [c102] at p81
    rw [c65] at p81
    obtain ⟨v103, c104⟩ : ∃ v, I68 a0 9 = v := ⟨_, rfl⟩
    have b105 := iv15_9 hS76.1 ta0 c104
    rw [c104] at p82
    rw [c104] at p83
    obtain ⟨v106, c107⟩ : ∃ v, I68 a0 10 = v := ⟨_, rfl⟩
    have b108 := iv15_10 hS76.1 ta0 c107
    rw [c107] at p84
    obtain ⟨v109, c110⟩ : ∃ v, I68 a0 11 = v := ⟨_, rfl⟩
    rw [c110] at p85
    obtain ⟨y111, c112⟩ : ∃ v, L70 a0 15 = v := ⟨_, rfl⟩
    rw [c112] at p86
    obtain ⟨v113, c114⟩ : ∃ v, I68 a0 12 = v := ⟨_, rfl⟩
    rw [c114] at p87
    obtain ⟨v115, c116⟩ : ∃ v, I68 a0 8 = v := ⟨_, rfl⟩
    have b117 := iv15_8 hS76.1 ta0 c116
    rw [c116] at p88
    have p118 := p61
    unfold Q7M at p118
    replace hF := hF.neg (by omega)
    replace hP := hP.neg (by omega)
    replace hF := hF.neg (by omega)
    replace hP := hP.neg (by omega)
    clear p118
    obtain ⟨w119, w120, w121, w122, w123, w124, w125, w126, w127, w128, w129, w130⟩ := lnl_9 (B := gB) (Q := gQ) (s := gs) (by omega)
    replace hF := hF.to w119 (show ChE (riF gB gQ 8 0 (tkN gB gs)) (riF gB gQ 8 0 (tkN gB gs)) from rfl)
    replace hP := hP.to w120 (show ChE (riP gB gQ 8 0 (tkN gB gs)) (riP gB gQ 8 0 (tkN gB gs)) from rfl)
    refine tr_aload_n dX12_readSlice_12 rfl ?_
    refine tr_aload_n dX12_readSlice_13 rfl ?_
    refine tr_getR dX12_readSlice_14 fl12_188 (kR15 hS76.1 ta0) d2 ?_
    obtain ⟨a131, d132, ta131⟩ := rf14_18 hW0 ta1
    refine tr_getR dX12_readSlice_17 fl12_373 (kR14 hS76.1 ta1) d132 ?_
    refine q_bipush dX12_readSlice_20 (by decide +kernel) ?_
    intro v133 h134
    refine tr_aload_n dX12_readSlice_22 rfl ?_
    refine tr_getR dX12_readSlice_23 fl12_188 (kR15 hS76.1 ta0) d2 ?_
    refine q_getI dX12_readSlice_26 fl12_370 (kR14 hS76.1 ta1) c77 ?_
    refine q_imulE (c := 8) dX12_readSlice_29 (by omega) (by omega) ?_
    intro v135 h136
    refine q_bipush dX12_readSlice_30 (by decide +kernel) ?_
    intro v137 h138
    refine q_callVi hE (M' := mX12_readRising) (as := [_, _, _]) dX12_readSlice_32 lk12_308 inX12_readRising seX12_readRising myX12_readRising (by decide) ⟨by decide, by decide⟩ rfl (kR15 hS76.1 ta0) (Nat.le_of_ble_eq_true rfl) rfl rfl (by decide) (by decide) (fk_X12_readRising_1 hS76.1 (gB) ((tkN gB gs)) (gQ) ta0 ta131 (by omega) (by omega) (TxA.kp hT hS76 ta0 rfl rfl rfl (by decide +kernel) (by decide +kernel)) (by (try rw [c104]); first | done | with_reducible assumption | omega) (by (try rw [c104]); first | done | with_reducible assumption | omega) (by (try rw [c107]); first | done | with_reducible assumption | omega) (by (try rw [c110]); first | done | with_reducible assumption | omega) (by (try rw [c112]); first | done | assumption) (by (try rw [c114]); first | done | assumption) (by (try rw [c116]); first | done | assumption) (by (try rw [((hS76.cell ta0 (by decide +kernel)).trans c26)]); first | done | with_reducible assumption | omega) (fun q0 z0 => by obtain rfl := Option.some.inj ((d2).symm.trans z0); (try rw [((hS76.cell ta1 (by decide +kernel)).trans c30)]); first | done | with_reducible assumption | omega) (by first | done | with_reducible assumption | omega) (by first | done | with_reducible assumption | omega) ⟨_, d2⟩) ?_
    rintro v144 cn' K' N' I139 R140 L141 ⟨rfl, rfl, rfl, rfl, g142, h145, dj146, -⟩
    have hM147 : NmM I139 R0 L70 a1 gQ := NmM.kpS hM100 g142 hS76.1 ta1 (by decide +kernel) (by decide +kernel)
    have hS148 := hS76.tr g142 (by decide +kernel) (by decide +kernel)
    have c149 : I139 a1 6 = v53 := (g142.cell ta1 (by decide +kernel)).trans c77
    have hO150 : FrO 14 a1 T I0 I139 := hO78.st g142 (by decide +kernel)
    rcases dj146 with ⟨p151, p152, p153, p154, p155, p156, p157, p158, p159, gl160, -⟩ | ⟨p161, p162, p163, p164, -⟩
    · skip
      have hL165 := hL99.tr gl160 (by decide +kernel)
      have hM166 : NmM I139 R0 L141 a1 gQ := NmM.kpL hM147 gl160 hS148.1 ta1 (by decide +kernel)
      obtain ⟨v167, c168⟩ : ∃ v, I139 a0 13 = v := ⟨_, rfl⟩
      rw [c168] at p152
      rw [c102] at p152
      obtain ⟨v169, c170⟩ : ∃ v, I139 a0 9 = v := ⟨_, rfl⟩
      have b171 := iv15_9 hS148.1 ta0 c170
      rw [c170] at p153
      rw [c170] at p154
      obtain ⟨v172, c173⟩ : ∃ v, I139 a0 10 = v := ⟨_, rfl⟩
      have b174 := iv15_10 hS148.1 ta0 c173
      rw [c173] at p155
      obtain ⟨v175, c176⟩ : ∃ v, I139 a0 11 = v := ⟨_, rfl⟩
      rw [c176] at p156
      obtain ⟨y177, c178⟩ : ∃ v, L141 a0 15 = v := ⟨_, rfl⟩
      rw [c178] at p157
      obtain ⟨v179, c180⟩ : ∃ v, I139 a0 12 = v := ⟨_, rfl⟩
      rw [c180] at p158
      obtain ⟨v181, c182⟩ : ∃ v, I139 a0 8 = v := ⟨_, rfl⟩
      have b183 := iv15_8 hS148.1 ta0 c182
      rw [c182] at p159
      refine tr_istore_n dX12_readSlice_35 (by decide) (by decide) ?_
      refine tr_aload_n dX12_readSlice_36 rfl ?_
      refine q_getI dX12_readSlice_37 fl12_99 (kR15 hS148.1 ta0) c170 ?_
      refine q_iconst dX12_readSlice_40 (by decide) ?_
      intro v184 h185
      refine q_icmp_ne 45 dX12_readSlice_41 (by decide) (fun h186 => ?_) (fun h186 => ?_)
      · skip
        refine tr_aload_n dX12_readSlice_45 rfl ?_
        refine tr_getR dX12_readSlice_46 fl12_188 (kR15 hS148.1 ta0) d2 ?_
        obtain ⟨a187, d188, ta187⟩ := rf14_17 hW0 ta1
        refine tr_getR dX12_readSlice_49 fl12_375 (kR14 hS148.1 ta1) d188 ?_
        refine tr_aload_n dX12_readSlice_52 rfl ?_
        refine tr_getR dX12_readSlice_53 fl12_188 (kR15 hS148.1 ta0) d2 ?_
        refine q_getI dX12_readSlice_56 fl12_370 (kR14 hS148.1 ta1) c149 ?_
        refine tr_iload_n dX12_readSlice_59 rfl ?_
        refine q_iast dX12_readSlice_60 (kR60 hS148.1 ta187) (ti_in (nR60 hS148.1 ta187) (by omega) (by omega)) hS148 ta187 (by show (0 : Int) ≤ v144.toInt ∧ v144.toInt ≤ (8 : Int); omega) rfl (by rfl) ?_
        intro I189 hS190 e192 f191
        have c193 : I189 a1 6 = v53 := (f191 _ _ (fun q => by have z := ta1; rw [q.1, ta187] at z; exact absurd z (by decide))).trans c149
        have c194 : I189 a0 13 = v167 := (f191 _ _ (fun q => by have z := ta0; rw [q.1, ta187] at z; exact absurd z (by decide))).trans c168
        have c195 : I189 a0 9 = v169 := (f191 _ _ (fun q => by have z := ta0; rw [q.1, ta187] at z; exact absurd z (by decide))).trans c170
        have c196 : I189 a0 10 = v172 := (f191 _ _ (fun q => by have z := ta0; rw [q.1, ta187] at z; exact absurd z (by decide))).trans c173
        have c197 : I189 a0 11 = v175 := (f191 _ _ (fun q => by have z := ta0; rw [q.1, ta187] at z; exact absurd z (by decide))).trans c176
        have c198 : I189 a0 12 = v179 := (f191 _ _ (fun q => by have z := ta0; rw [q.1, ta187] at z; exact absurd z (by decide))).trans c180
        have c199 : I189 a0 8 = v181 := (f191 _ _ (fun q => by have z := ta0; rw [q.1, ta187] at z; exact absurd z (by decide))).trans c182
        have hO200 : FrO 14 a1 T I0 I189 := hO150.put f191 ta187 (Or.inl (by decide))
        have hM201 : NmM I189 R0 L141 a1 gQ := NmM.kp1 hM166 f191 ta187 rfl rfl hS148.1 ta1
        refine tr_aload_n dX12_readSlice_61 rfl ?_
        refine tr_getR dX12_readSlice_62 fl12_188 (kR15 hS190.1 ta0) d2 ?_
        refine tr_dup dX12_readSlice_65 rfl ?_
        refine q_getI dX12_readSlice_66 fl12_370 (kR14 hS190.1 ta1) c193 ?_
        refine q_iconst dX12_readSlice_69 (by decide) ?_
        intro v202 h203
        refine q_iaddE dX12_readSlice_70 (by intros; omega) ?_
        intro v204 h205
        refine q_putI dX12_readSlice_71 fl12_370 (kR14 hS190.1 ta1) (Or.inl rfl) hS190 ta1 (by show (0 : Int) ≤ v204.toInt ∧ v204.toInt ≤ (4 : Int); omega) rfl (by decide +kernel) ?_
        intro I206 hS207 e208 f209
        have c210 : I206 a0 13 = v167 := (f209 _ _ (fun q => absurd q.2 (by decide))).trans c194
        have c211 : I206 a0 9 = v169 := (f209 _ _ (fun q => absurd q.2 (by decide))).trans c195
        have c212 : I206 a0 10 = v172 := (f209 _ _ (fun q => absurd q.2 (by decide))).trans c196
        have c213 : I206 a0 11 = v175 := (f209 _ _ (fun q => absurd q.2 (by decide))).trans c197
        have c214 : I206 a0 12 = v179 := (f209 _ _ (fun q => absurd q.2 (by decide))).trans c198
        have c215 : I206 a0 8 = v181 := (f209 _ _ (fun q => absurd q.2 (by decide))).trans c199
        have hO216 : FrO 14 a1 T I0 I206 := hO200.put f209 ta1 (Or.inr rfl)
        have hM217 : NmM I206 R0 L141 a1 gQ := NmM.kp1 hM201 f209 ta1 rfl rfl hS190.1 ta1
        have eF := hF.eq
        have eP := hP.eq
        obtain ⟨v218, c219⟩ : ∃ v, I206 a0 14 = v := ⟨_, rfl⟩
        exact tr_vret hZ dX12_readSlice_74 rfl (by decide) (by decide) ⟨rfl, rfl, rfl, rfl, rfl, hS207, (fun dr hd => (Option.some.inj (d2.symm.trans hd)) ▸ hO216), (Or.inl ⟨(by (try rw [w121]); first | done | with_reducible assumption | omega), (fun q0 z0 => by obtain rfl := Option.some.inj ((d2).symm.trans z0); (try rw [w121]); (try rw [((hS207.cell ta1 (by decide +kernel)).trans c30)]); first | done | with_reducible assumption | omega), (fun q0 z0 => by obtain rfl := Option.some.inj ((d2).symm.trans z0); (try rw [w121]); (try rw [((hS207.cell ta1 (by decide +kernel)).trans c34)]); first | done | with_reducible assumption | omega), (fun q0 z0 => by obtain rfl := Option.some.inj ((d2).symm.trans z0); (try rw [w121]); (try rw [((hS207.cell ta1 (by decide +kernel)).trans c38)]); first | done | with_reducible assumption | omega), (fun q0 z0 => by obtain rfl := Option.some.inj ((d2).symm.trans z0); (try rw [w121]); (try rw [((hS207.cell ta1 (by decide +kernel)).trans c42)]); first | done | with_reducible assumption | omega), (fun q0 z0 => by obtain rfl := Option.some.inj ((d2).symm.trans z0); (try rw [w121]); (try rw [((hS207.cell ta1 (by decide +kernel)).trans c46)]); first | done | with_reducible assumption | omega), (fun q0 z0 => by obtain rfl := Option.some.inj ((d2).symm.trans z0); (try rw [w121]); (try rw [((hS207.cell ta1 (by decide +kernel)).trans c50)]); first | done | with_reducible assumption | omega), (fun q0 z0 => by obtain rfl := Option.some.inj ((d2).symm.trans z0); (try rw [w121]); (try rw [e208]); first | done | with_reducible assumption | omega), (fun q0 z0 => by obtain rfl := Option.some.inj ((d2).symm.trans z0); (try rw [w121]); (try rw [((hS207.cell ta1 (by decide +kernel)).trans c58)]); first | done | with_reducible assumption | omega), (by (try rw [w121]); (try rw [c210]); (try rw [c65]); first | done | with_reducible assumption | omega), (by (try rw [w121]); (try rw [c211]); first | done | with_reducible assumption | omega), (by (try rw [w121]); (try rw [c211]); first | done | with_reducible assumption | omega), (by (try rw [w121]); (try rw [c212]); first | done | with_reducible assumption | omega), (by (try rw [w121]); (try rw [c213]); first | done | with_reducible assumption | omega), (by (try rw [w121]); (try rw [c178]); first | done | assumption), (by (try rw [w121]); (try rw [c214]); first | done | assumption), (by (try rw [w121]); (try rw [c215]); first | done | assumption), hL165, (fun b hb => (Option.some.inj (d2.symm.trans hb)) ▸ NmM.ln (NmM.bd (k := srt gB gs) hM217 (by omega) (by omega)) rfl), trivial⟩), trivial⟩
      · skip
        exfalso; omega
    · skip
      obtain ⟨v220, c221⟩ : ∃ v, I139 a0 9 = v := ⟨_, rfl⟩
      have b222 := iv15_9 hS148.1 ta0 c221
      rw [c221] at p162
      obtain ⟨v223, c224⟩ : ∃ v, I139 a0 13 = v := ⟨_, rfl⟩
      rw [c224] at p163
      obtain ⟨v225, c226⟩ : ∃ v, I139 a0 14 = v := ⟨_, rfl⟩
      rw [c226] at p164
      refine tr_istore_n dX12_readSlice_35 (by decide) (by decide) ?_
      refine tr_aload_n dX12_readSlice_36 rfl ?_
      refine q_getI dX12_readSlice_37 fl12_99 (kR15 hS148.1 ta0) c221 ?_
      refine q_iconst dX12_readSlice_40 (by decide) ?_
      intro v227 h228
      refine q_icmp_ne 45 dX12_readSlice_41 (by decide) (fun h229 => ?_) (fun h229 => ?_)
      · skip
        exfalso; omega
      · skip
        have eF := hF.eq
        have eP := hP.eq
        obtain ⟨v230, c231⟩ : ∃ v, I139 a0 10 = v := ⟨_, rfl⟩
        have b232 := iv15_10 hS148.1 ta0 c231
        obtain ⟨v233, c234⟩ : ∃ v, I139 a0 11 = v := ⟨_, rfl⟩
        obtain ⟨y235, c236⟩ : ∃ v, L141 a0 15 = v := ⟨_, rfl⟩
        obtain ⟨v237, c238⟩ : ∃ v, I139 a0 12 = v := ⟨_, rfl⟩
        obtain ⟨v239, c240⟩ : ∃ v, I139 a0 8 = v := ⟨_, rfl⟩
        have b241 := iv15_8 hS148.1 ta0 c240
        exact tr_vret hZ dX12_readSlice_44 rfl (by decide) (by decide) ⟨rfl, rfl, rfl, rfl, rfl, hS148, (fun dr hd => (Option.some.inj (d2.symm.trans hd)) ▸ hO150), (Or.inr (⟨(by (try rw [w121]); first | done | with_reducible assumption | omega), (by (try rw [w121]); (try rw [c221]); first | done | with_reducible assumption | omega), (by (try rw [w121]); (try rw [c224]); first | done | with_reducible assumption | omega), (by (try rw [w121]); (try rw [c226]); first | done | with_reducible assumption | omega), trivial⟩)), trivial⟩
  · skip
    obtain ⟨v242, c243⟩ : ∃ v, I68 a0 9 = v := ⟨_, rfl⟩
    have b244 := iv15_9 hS76.1 ta0 c243
    rw [c243] at p91
    obtain ⟨v245, c246⟩ : ∃ v, I68 a0 13 = v := ⟨_, rfl⟩
    rw [c246] at p92
    obtain ⟨v247, c248⟩ : ∃ v, I68 a0 14 = v := ⟨_, rfl⟩
    rw [c248] at p93
    have p249 := p61
    unfold Q7M at p249
    replace hF := hF.pos (by omega)
    replace hP := hP.pos (by omega)
    clear p249
    refine tr_aload_n dX12_readSlice_12 rfl ?_
    refine tr_aload_n dX12_readSlice_13 rfl ?_
    refine tr_getR dX12_readSlice_14 fl12_188 (kR15 hS76.1 ta0) d2 ?_
    obtain ⟨a250, d251, ta250⟩ := rf14_18 hW0 ta1
    refine tr_getR dX12_readSlice_17 fl12_373 (kR14 hS76.1 ta1) d251 ?_
    refine q_bipush dX12_readSlice_20 (by decide +kernel) ?_
    intro v252 h253
    refine tr_aload_n dX12_readSlice_22 rfl ?_
    refine tr_getR dX12_readSlice_23 fl12_188 (kR15 hS76.1 ta0) d2 ?_
    refine q_getI dX12_readSlice_26 fl12_370 (kR14 hS76.1 ta1) c77 ?_
    refine q_imulE (c := 8) dX12_readSlice_29 (by omega) (by omega) ?_
    intro v254 h255
    refine q_bipush dX12_readSlice_30 (by decide +kernel) ?_
    intro v256 h257
    refine q_callVi hE (M' := mX12_readRising) (as := [_, _, _]) dX12_readSlice_32 lk12_308 inX12_readRising seX12_readRising myX12_readRising (by decide) ⟨by decide, by decide⟩ rfl (kR15 hS76.1 ta0) (Nat.le_of_ble_eq_true rfl) rfl rfl (by decide) (by decide) (k_X12_readRising hS76.1 ta0 ta250 (by omega) (by omega) (fun z => absurd (by rw [c243]; omega) z) ⟨_, d2⟩) ?_
    rintro v262 cn' K' N' I258 R259 L260 ⟨rfl, rfl, rfl, rfl, g261, h263, w264, -⟩
    have hS265 := hS76.tr g261 (by decide +kernel) (by decide +kernel)
    have c266 : I258 a1 6 = v53 := (g261.cell ta1 (by decide +kernel)).trans c77
    have hO267 : FrO 14 a1 T I0 I258 := hO78.st g261 (by decide +kernel)
    have ov268 := w264.over (by rw [c243]; omega)
    obtain ⟨v269, c270⟩ : ∃ v, I258 a0 9 = v := ⟨_, rfl⟩
    have b271 := iv15_9 hS265.1 ta0 c270
    obtain ⟨v272, c273⟩ : ∃ v, I258 a0 13 = v := ⟨_, rfl⟩
    obtain ⟨v274, c275⟩ : ∃ v, I258 a0 14 = v := ⟨_, rfl⟩
    (try rw [c270] at ov268)
    (try rw [c273] at ov268)
    (try rw [c275] at ov268)
    (try rw [c243] at ov268)
    (try rw [c246] at ov268)
    (try rw [c248] at ov268)
    refine tr_istore_n dX12_readSlice_35 (by decide) (by decide) ?_
    refine tr_aload_n dX12_readSlice_36 rfl ?_
    refine q_getI dX12_readSlice_37 fl12_99 (kR15 hS265.1 ta0) c270 ?_
    refine q_iconst dX12_readSlice_40 (by decide) ?_
    intro v276 h277
    refine q_icmp_ne 45 dX12_readSlice_41 (by decide) (fun h278 => ?_) (fun h278 => ?_)
    · skip
      exfalso; omega
    · skip
      have eF := hF.eq
      have eP := hP.eq
      obtain ⟨v279, c280⟩ : ∃ v, I258 a0 10 = v := ⟨_, rfl⟩
      have b281 := iv15_10 hS265.1 ta0 c280
      obtain ⟨v282, c283⟩ : ∃ v, I258 a0 11 = v := ⟨_, rfl⟩
      obtain ⟨y284, c285⟩ : ∃ v, L260 a0 15 = v := ⟨_, rfl⟩
      obtain ⟨v286, c287⟩ : ∃ v, I258 a0 12 = v := ⟨_, rfl⟩
      obtain ⟨v288, c289⟩ : ∃ v, I258 a0 8 = v := ⟨_, rfl⟩
      have b290 := iv15_8 hS265.1 ta0 c289
      exact tr_vret hZ dX12_readSlice_44 rfl (by decide) (by decide) ⟨rfl, rfl, rfl, rfl, rfl, hS265, (fun dr hd => (Option.some.inj (d2.symm.trans hd)) ▸ hO267), (Or.inr (⟨(by first | done | with_reducible assumption | omega), (by (try rw [c270]); first | done | with_reducible assumption | omega), (by (try rw [c273]); first | done | with_reducible assumption | omega), (by (try rw [c275]); first | done | with_reducible assumption | omega), trivial⟩)), trivial⟩
  · skip
    obtain ⟨v291, c292⟩ : ∃ v, I68 a0 9 = v := ⟨_, rfl⟩
    have b293 := iv15_9 hS76.1 ta0 c292
    rw [c292] at p96
    obtain ⟨v294, c295⟩ : ∃ v, I68 a0 13 = v := ⟨_, rfl⟩
    rw [c295] at p97
    obtain ⟨v296, c297⟩ : ∃ v, I68 a0 14 = v := ⟨_, rfl⟩
    rw [c297] at p98
    have p298 := p61
    unfold Q7M at p298
    replace hF := hF.neg (by omega)
    replace hP := hP.neg (by omega)
    replace hF := hF.pos (by omega)
    replace hP := hP.pos (by omega)
    clear p298
    refine tr_aload_n dX12_readSlice_12 rfl ?_
    refine tr_aload_n dX12_readSlice_13 rfl ?_
    refine tr_getR dX12_readSlice_14 fl12_188 (kR15 hS76.1 ta0) d2 ?_
    obtain ⟨a299, d300, ta299⟩ := rf14_18 hW0 ta1
    refine tr_getR dX12_readSlice_17 fl12_373 (kR14 hS76.1 ta1) d300 ?_
    refine q_bipush dX12_readSlice_20 (by decide +kernel) ?_
    intro v301 h302
    refine tr_aload_n dX12_readSlice_22 rfl ?_
    refine tr_getR dX12_readSlice_23 fl12_188 (kR15 hS76.1 ta0) d2 ?_
    refine q_getI dX12_readSlice_26 fl12_370 (kR14 hS76.1 ta1) c77 ?_
    refine q_imulE (c := 8) dX12_readSlice_29 (by omega) (by omega) ?_
    intro v303 h304
    refine q_bipush dX12_readSlice_30 (by decide +kernel) ?_
    intro v305 h306
    refine q_callVi hE (M' := mX12_readRising) (as := [_, _, _]) dX12_readSlice_32 lk12_308 inX12_readRising seX12_readRising myX12_readRising (by decide) ⟨by decide, by decide⟩ rfl (kR15 hS76.1 ta0) (Nat.le_of_ble_eq_true rfl) rfl rfl (by decide) (by decide) (k_X12_readRising hS76.1 ta0 ta299 (by omega) (by omega) (fun z => absurd (by rw [c292]; omega) z) ⟨_, d2⟩) ?_
    rintro v311 cn' K' N' I307 R308 L309 ⟨rfl, rfl, rfl, rfl, g310, h312, w313, -⟩
    have hS314 := hS76.tr g310 (by decide +kernel) (by decide +kernel)
    have c315 : I307 a1 6 = v53 := (g310.cell ta1 (by decide +kernel)).trans c77
    have hO316 : FrO 14 a1 T I0 I307 := hO78.st g310 (by decide +kernel)
    have ov317 := w313.over (by rw [c292]; omega)
    obtain ⟨v318, c319⟩ : ∃ v, I307 a0 9 = v := ⟨_, rfl⟩
    have b320 := iv15_9 hS314.1 ta0 c319
    obtain ⟨v321, c322⟩ : ∃ v, I307 a0 13 = v := ⟨_, rfl⟩
    obtain ⟨v323, c324⟩ : ∃ v, I307 a0 14 = v := ⟨_, rfl⟩
    (try rw [c319] at ov317)
    (try rw [c322] at ov317)
    (try rw [c324] at ov317)
    (try rw [c292] at ov317)
    (try rw [c295] at ov317)
    (try rw [c297] at ov317)
    refine tr_istore_n dX12_readSlice_35 (by decide) (by decide) ?_
    refine tr_aload_n dX12_readSlice_36 rfl ?_
    refine q_getI dX12_readSlice_37 fl12_99 (kR15 hS314.1 ta0) c319 ?_
    refine q_iconst dX12_readSlice_40 (by decide) ?_
    intro v325 h326
    refine q_icmp_ne 45 dX12_readSlice_41 (by decide) (fun h327 => ?_) (fun h327 => ?_)
    · skip
      exfalso; omega
    · skip
      have eF := hF.eq
      have eP := hP.eq
      obtain ⟨v328, c329⟩ : ∃ v, I307 a0 10 = v := ⟨_, rfl⟩
      have b330 := iv15_10 hS314.1 ta0 c329
      obtain ⟨v331, c332⟩ : ∃ v, I307 a0 11 = v := ⟨_, rfl⟩
      obtain ⟨y333, c334⟩ : ∃ v, L309 a0 15 = v := ⟨_, rfl⟩
      obtain ⟨v335, c336⟩ : ∃ v, I307 a0 12 = v := ⟨_, rfl⟩
      obtain ⟨v337, c338⟩ : ∃ v, I307 a0 8 = v := ⟨_, rfl⟩
      have b339 := iv15_8 hS314.1 ta0 c338
      exact tr_vret hZ dX12_readSlice_44 rfl (by decide) (by decide) ⟨rfl, rfl, rfl, rfl, rfl, hS314, (fun dr hd => (Option.some.inj (d2.symm.trans hd)) ▸ hO316), (Or.inr (⟨(by first | done | with_reducible assumption | omega), (by (try rw [c319]); first | done | with_reducible assumption | omega), (by (try rw [c322]); first | done | with_reducible assumption | omega), (by (try rw [c324]); first | done | with_reducible assumption | omega), trivial⟩)), trivial⟩
def wik_X12_readCall : List Nat := [901, 968, 969, 970, 971, 972, 973, 974, 4479, 4543, 4607, 4671]
def wrk_X12_readCall : List Nat := []
def wlk_X12_readCall : List Nat := [975]
set_option maxHeartbeats 4000000 in
theorem fk_X12_readCall {l : Launch} {T : Nat → Nat} {cn : Nat} {K N : Nat → Nat} {I0 : cz_I} {R0 : cz_R} {L0 : cz_L} (hW0 : Wf T cn K N I0 R0 0) (gB : cz_B) (gs : Int) (gQ : Nat → Int) {a0 : Nat} (ta0 : T a0 = 15) (hT : ∀ t, R0 a0 5 = some t → Tx I0 t gB) (hN : ∀ b, R0 a0 4 = some b → NmM I0 R0 L0 b gQ) (pre0 : (I0 a0 9).toInt = (tkM gB gs)) (pre1 : (I0 a0 9).toInt ≤ 4) (pre2 : (I0 a0 10).toInt = (tkS gB gs)) (pre3 : (I0 a0 11).toInt = (tkG gB gs)) (pre4 : (AtW ((tkK gB gs)) ((L0 a0 15).toInt) ((tkW gB gs)))) (pre5 : (AtV ((tkK gB gs)) ((I0 a0 12).toInt) ((tkV gB gs)))) (pre6 : (AtN ((tkK gB gs)) ((I0 a0 8).toInt) ((tkN gB gs)))) (pre7 : (I0 a0 7).toInt = (gB.2)) (pre8 : ∀ b1, R0 a0 4 = some b1 → (I0 b1 0).toInt = (gQ 0)) (pre9 : ∀ b1, R0 a0 4 = some b1 → (I0 b1 1).toInt = (gQ 1)) (pre10 : ∀ b1, R0 a0 4 = some b1 → (I0 b1 2).toInt = (gQ 2)) (pre11 : ∀ b1, R0 a0 4 = some b1 → (I0 b1 3).toInt = (gQ 3)) (pre12 : ∀ b1, R0 a0 4 = some b1 → (I0 b1 4).toInt = (gQ 4)) (pre13 : ∀ b1, R0 a0 4 = some b1 → (I0 b1 5).toInt = (gQ 5)) (pre14 : ∀ b1, R0 a0 4 = some b1 → (I0 b1 6).toInt = (gQ 6)) (pre15 : ∀ b1, R0 a0 4 = some b1 → (I0 b1 9).toInt = (gQ 8)) (pre16 : (Q7M ((gQ 0)) ((gQ 7)))) (pre17 : (tkK gB gs) = 1) (pre18 : (srt gB gs) = 8) (nn4 : ∃ b, R0 a0 4 = some b) : ConE l mX12_readCall [.ref a0] cn K N I0 R0 L0 (ca_v (fun cn' K' N' I' R' L' => cn = cn' ∧ K = K' ∧ N = N' ∧ R0 = R' ∧ St T cn K N 0 wik_X12_readCall wrk_X12_readCall I0 R0 I' R0 ∧ (∀ dr, R0 a0 4 = some dr → FrO 14 dr T I0 I') ∧ ((((lnF gB gQ gs) = 0) ∧ (∀ b1, R0 a0 4 = some b1 → (I' b1 0).toInt = (lnQ gB gQ gs 0)) ∧ (∀ b1, R0 a0 4 = some b1 → (I' b1 1).toInt = (lnQ gB gQ gs 1)) ∧ (∀ b1, R0 a0 4 = some b1 → (I' b1 2).toInt = (lnQ gB gQ gs 2)) ∧ (∀ b1, R0 a0 4 = some b1 → (I' b1 3).toInt = (lnQ gB gQ gs 3)) ∧ (∀ b1, R0 a0 4 = some b1 → (I' b1 4).toInt = (lnQ gB gQ gs 4)) ∧ (∀ b1, R0 a0 4 = some b1 → (I' b1 5).toInt = (lnQ gB gQ gs 5)) ∧ (∀ b1, R0 a0 4 = some b1 → (I' b1 6).toInt = (lnQ gB gQ gs 6)) ∧ (∀ b1, R0 a0 4 = some b1 → (I' b1 9).toInt = (lnQ gB gQ gs 8)) ∧ ((I' a0 13).toInt = (I0 a0 13).toInt) ∧ ((I' a0 9).toInt = (tkM gB (lnS gB gQ gs))) ∧ ((I' a0 9).toInt ≤ 4) ∧ ((I' a0 10).toInt = (tkS gB (lnS gB gQ gs))) ∧ ((I' a0 11).toInt = (tkG gB (lnS gB gQ gs))) ∧ ((AtW ((tkK gB (lnS gB gQ gs))) ((L' a0 15).toInt) ((tkW gB (lnS gB gQ gs))))) ∧ ((AtV ((tkK gB (lnS gB gQ gs))) ((I' a0 12).toInt) ((tkV gB (lnS gB gQ gs))))) ∧ ((AtN ((tkK gB (lnS gB gQ gs))) ((I' a0 8).toInt) ((tkN gB (lnS gB gQ gs))))) ∧ LgS T wlk_X12_readCall L0 L' ∧ (∀ b, R0 a0 4 = some b → NmM I' R0 L' b (lnQ gB gQ gs)) ∧ True) ∨ (((lnF gB gQ gs) ≠ 0) ∧ ((I' a0 9).toInt = 5) ∧ ((I' a0 13).toInt = (lnF gB gQ gs)) ∧ ((I' a0 14).toInt = (lnP gB gQ gs)) ∧ True)) ∧ True)) := by
  refine ConE.of (by decide +kernel) rfl (Nat.le_of_ble_eq_true rfl) rfl (fun X hX hZ hE => ?_)
  subst hX
  have hS0 : St T cn K N 0 wik_X12_readCall wrk_X12_readCall I0 R0 I0 R0 := St.rf0 hW0
  have hL0 : LgS T wlk_X12_readCall L0 L0 := LgS.rf0
  obtain ⟨a1, d2⟩ := nn4
  have ta1 : T a1 = 14 := hW0.rsN ta0 rfl d2
  obtain ⟨v3, c4⟩ : ∃ v, I0 a0 9 = v := ⟨_, rfl⟩
  have b5 := iv15_9 hS0.1 ta0 c4
  have p6 := pre0
  rw [c4] at p6
  have p7 := pre1
  rw [c4] at p7
  obtain ⟨v8, c9⟩ : ∃ v, I0 a0 10 = v := ⟨_, rfl⟩
  have b10 := iv15_10 hS0.1 ta0 c9
  have p11 := pre2
  rw [c9] at p11
  obtain ⟨v12, c13⟩ : ∃ v, I0 a0 11 = v := ⟨_, rfl⟩
  have p14 := pre3
  rw [c13] at p14
  obtain ⟨y15, c16⟩ : ∃ v, L0 a0 15 = v := ⟨_, rfl⟩
  have p17 := pre4
  rw [c16] at p17
  obtain ⟨v18, c19⟩ : ∃ v, I0 a0 12 = v := ⟨_, rfl⟩
  have p20 := pre5
  rw [c19] at p20
  obtain ⟨v21, c22⟩ : ∃ v, I0 a0 8 = v := ⟨_, rfl⟩
  have b23 := iv15_8 hS0.1 ta0 c22
  have p24 := pre6
  rw [c22] at p24
  obtain ⟨v25, c26⟩ : ∃ v, I0 a0 7 = v := ⟨_, rfl⟩
  have b27 := iv15_7 hW0 ta0 c26
  have p28 := pre7
  rw [c26] at p28
  obtain ⟨v29, c30⟩ : ∃ v, I0 a1 0 = v := ⟨_, rfl⟩
  have b31 := iv14_0 hW0 ta1 c30
  have p32 := pre8 _ d2
  rw [c30] at p32
  obtain ⟨v33, c34⟩ : ∃ v, I0 a1 1 = v := ⟨_, rfl⟩
  have b35 := iv14_1 hW0 ta1 c34
  have p36 := pre9 _ d2
  rw [c34] at p36
  obtain ⟨v37, c38⟩ : ∃ v, I0 a1 2 = v := ⟨_, rfl⟩
  have b39 := iv14_2 hW0 ta1 c38
  have p40 := pre10 _ d2
  rw [c38] at p40
  obtain ⟨v41, c42⟩ : ∃ v, I0 a1 3 = v := ⟨_, rfl⟩
  have b43 := iv14_3 hW0 ta1 c42
  have p44 := pre11 _ d2
  rw [c42] at p44
  obtain ⟨v45, c46⟩ : ∃ v, I0 a1 4 = v := ⟨_, rfl⟩
  have b47 := iv14_4 hW0 ta1 c46
  have p48 := pre12 _ d2
  rw [c46] at p48
  obtain ⟨v49, c50⟩ : ∃ v, I0 a1 5 = v := ⟨_, rfl⟩
  have b51 := iv14_5 hS0.1 ta1 c50
  have p52 := pre13 _ d2
  rw [c50] at p52
  obtain ⟨v53, c54⟩ : ∃ v, I0 a1 6 = v := ⟨_, rfl⟩
  have b55 := iv14_6 hW0 ta1 c54
  have p56 := pre14 _ d2
  rw [c54] at p56
  obtain ⟨v57, c58⟩ : ∃ v, I0 a1 9 = v := ⟨_, rfl⟩
  have b59 := iv14_9 hW0 ta1 c58
  have p60 := pre15 _ d2
  rw [c58] at p60
  have p61 := pre16
  have p62 := pre17
  have p63 := pre18
  obtain ⟨v64, c65⟩ : ∃ v, I0 a0 13 = v := ⟨_, rfl⟩
  have hM0 := hN _ d2
  have hO0 : FrO 14 a1 T I0 I0 := FrO.rf
  have hF := lnF_ch gB gQ gs
  have hP := lnP_ch gB gQ gs
  replace hF := hF.neg (by omega)
  replace hP := hP.neg (by omega)
  replace hF := hF.neg (by omega)
  replace hP := hP.neg (by omega)
  refine tr_aload_n dX12_readCall_0 rfl ?_
  refine tr_aload_n dX12_readCall_1 rfl ?_
  refine tr_getR dX12_readCall_2 fl12_188 (kR15 hS0.1 ta0) d2 ?_
  refine q_getI dX12_readCall_5 fl12_349 (kR14 hS0.1 ta1) c50 ?_
  refine q_bipush dX12_readCall_8 (by decide +kernel) ?_
  intro v66 h67
  refine q_callVv hE (M' := mX12_begins) (as := [_, _]) dX12_readCall_10 lk12_268 inX12_begins seX12_begins myX12_begins (by decide) ⟨by decide, by decide⟩ rfl (kR15 hS0.1 ta0) (Nat.le_of_ble_eq_true rfl) rfl rfl (by decide) (by decide) (fk_X12_begins hS0.1 (gB) (gs) (gQ) ta0 (TxA.kp hT hS0 ta0 rfl rfl rfl (by decide +kernel) (by decide +kernel)) (by (try rw [c4]); first | done | with_reducible assumption | omega) (by (try rw [c4]); first | done | with_reducible assumption | omega) (by (try rw [c9]); first | done | with_reducible assumption | omega) (by (try rw [c13]); first | done | with_reducible assumption | omega) (by (try rw [c16]); first | done | assumption) (by (try rw [c19]); first | done | assumption) (by (try rw [c22]); first | done | assumption) (by (try rw [c26]); first | done | with_reducible assumption | omega) (fun q0 z0 => by obtain rfl := Option.some.inj ((d2).symm.trans z0); (try rw [c30]); first | done | with_reducible assumption | omega) (by first | done | with_reducible assumption | omega) ⟨_, d2⟩) ?_
  rintro cn' K' N' I68 R69 L70 ⟨rfl, rfl, rfl, rfl, g71, dj74, -⟩
  have hM75 : NmM I68 R0 L0 a1 gQ := NmM.kpS hM0 g71 hS0.1 ta1 (by decide +kernel) (by decide +kernel)
  have hS76 := hS0.tr g71 (by decide +kernel) (by decide +kernel)
  have c77 : I68 a1 5 = v49 := (g71.cell ta1 (by decide +kernel)).trans c50
  have hO78 : FrO 14 a1 T I0 I68 := hO0.st g71 (by decide +kernel)
  rcases dj74 with ⟨p79, p80, p81, p82, p83, p84, p85, p86, p87, p88, gl89, -⟩ | ⟨p90, p91, p92, p93, -⟩ | ⟨p94, p95, p96, p97, p98, -⟩
  · skip
    have hL99 := hL0.tr gl89 (by decide +kernel)
    have hM100 : NmM I68 R0 L70 a1 gQ := NmM.kpL hM75 gl89 hS76.1 ta1 (by decide +kernel)
    obtain ⟨v101, c102⟩ : ∃ v, I68 a0 13 = v := ⟨_, rfl⟩
    rw [c102] at p81
    rw [c65] at p81
    obtain ⟨v103, c104⟩ : ∃ v, I68 a0 9 = v := ⟨_, rfl⟩
    have b105 := iv15_9 hS76.1 ta0 c104
    rw [c104] at p82
    rw [c104] at p83
    obtain ⟨v106, c107⟩ : ∃ v, I68 a0 10 = v := ⟨_, rfl⟩
    have b108 := iv15_10 hS76.1 ta0 c107
    rw [c107] at p84
    obtain ⟨v109, c110⟩ : ∃ v, I68 a0 11 = v := ⟨_, rfl⟩
    rw [c110] at p85
    obtain ⟨y111, c112⟩ : ∃ v, L70 a0 15 = v := ⟨_, rfl⟩
    rw [c112] at p86
    obtain ⟨v113, c114⟩ : ∃ v, I68 a0 12 = v := ⟨_, rfl⟩
    rw [c114] at p87
    obtain ⟨v115, c116⟩ : ∃ v, I68 a0 8 = v := ⟨_, rfl⟩
    have b117 := iv15_8 hS76.1 ta0 c116
    rw [c116] at p88
    have p118 := p61
    unfold Q7M at p118
    replace hF := hF.neg (by omega)
    replace hP := hP.neg (by omega)
    replace hF := hF.neg (by omega)
    replace hP := hP.neg (by omega)
    clear p118
    obtain ⟨w119, w120, w121, w122, w123, w124, w125, w126, w127, w128, w129, w130⟩ := lnl_8 (B := gB) (Q := gQ) (s := gs) (by omega)
    replace hF := hF.to w119 (caF_ch gB gQ (tkN gB gs))
    replace hP := hP.to w120 (caP_ch gB gQ (tkN gB gs))
    refine tr_aload_n dX12_readCall_13 rfl ?_
    refine q_callVi hE (M' := mX12_isName) (as := []) dX12_readCall_14 lk12_197 inX12_isName seX12_isName myX12_isName (by decide) ⟨by decide, by decide⟩ rfl (kR15 hS76.1 ta0) (Nat.le_of_ble_eq_true rfl) rfl rfl (by decide) (by decide) (fk_X12_isName hS76.1 (gB) ((tkN gB gs)) ta0 (by (try rw [c104]); first | done | with_reducible assumption | omega) (by (try rw [c112]); first | done | assumption)) ?_
    rintro v136 cn' K' N' I131 R132 L133 ⟨rfl, rfl, rfl, rfl, rfl, rfl, h137, dj138, -⟩
    rcases dj138 with ⟨p139, p140, p141, -⟩ | ⟨p142, p143, -⟩
    · skip
      replace hF := hF.neg (by omega)
      replace hP := hP.neg (by omega)
      refine q_if_ne 25 dX12_readCall_17 (by decide) (fun h144 => ?_) (fun h144 => ?_)
      · skip
        refine tr_aload_n dX12_readCall_25 rfl ?_
        refine tr_getR dX12_readCall_26 fl12_188 (kR15 hS76.1 ta0) d2 ?_
        refine tr_aload_n dX12_readCall_29 rfl ?_
        have p145 := p86 (by omega)
        refine q_getLE dX12_readCall_30 fl12_118 (kR15 hS76.1 ta0) c112 ?_
        refine q_callVi hE (M' := mX11_find) (as := [_]) dX12_readCall_33 lk12_201 inX11_find seX11_find myX11_find (by decide) ⟨by decide, by decide⟩ rfl (kR14 hS76.1 ta1) (Nat.le_of_ble_eq_true rfl) rfl rfl (by decide) (by decide) (fk_X11_find hS76.1 ((tkW gB (tkN gB gs))) ta1 (by first | done | with_reducible assumption | omega)) ?_
        rintro v151 cn' K' N' I146 R147 L148 ⟨rfl, rfl, rfl, rfl, rfl, rfl, h152, rp153, -⟩
        obtain ⟨v156, c157⟩ : ∃ v, I0 a1 7 = v := ⟨_, rfl⟩
        have b158 := iv14_7 hW0 ta1 c157
        have p155 := hS76.1.2.2.2.2.1 a0 ta0 _ d2
        rw [((hS76.cell ta1 (by decide +kernel)).trans c157), ((hS76.cell ta1 (by decide +kernel)).trans c42), ((hS76.cell ta1 (by decide +kernel)).trans c46)] at p155
        have fd154 := fd_told hM100 hS76.1 ta1 rp153 (by rw [((hS76.cell ta1 (by decide +kernel)).trans c157)]; omega)
        rw [((hS76.cell ta1 (by decide +kernel)).trans c157)] at fd154
        refine tr_istore_n dX12_readCall_36 (by decide) (by decide) ?_
        refine tr_iload_n dX12_readCall_37 rfl ?_
        refine q_iconst dX12_readCall_38 (by decide) ?_
        intro v159 h160
        refine q_icmp_eq 55 dX12_readCall_39 (by decide) (fun h161 => ?_) (fun h161 => ?_)
        · skip
          replace hF := hF.pos (by omega)
          replace hP := hP.pos (by omega)
          refine tr_aload_n dX12_readCall_55 rfl ?_
          refine q_iconst dX12_readCall_56 (by decide) ?_
          intro v162 h163
          refine q_callVv hE (M' := mX12_flaw) (as := [_]) dX12_readCall_57 lk12_145 inX12_flaw seX12_flaw myX12_flaw (by decide) ⟨by decide, by decide⟩ rfl (kR15 hS76.1 ta0) (Nat.le_of_ble_eq_true rfl) rfl rfl (by decide) (by decide) (fk_X12_flaw hS76.1  ta0 (by omega) (by (try rw [c104]); first | done | with_reducible assumption | omega)) ?_
          rintro cn' K' N' I164 R165 L166 ⟨rfl, rfl, rfl, rfl, rfl, g167, p170, p171, p172, -⟩
          have hM173 : NmM I164 R0 L70 a1 gQ := NmM.kpS hM100 g167 hS76.1 ta1 (by decide +kernel) (by decide +kernel)
          have hS174 := hS76.tr g167 (by decide +kernel) (by decide +kernel)
          have c175 : I164 a1 5 = v49 := (g167.cell ta1 (by decide +kernel)).trans c77
          have c176 : I164 a0 10 = v106 := (g167.cell ta0 (by decide +kernel)).trans c107
          have c177 : I164 a0 11 = v109 := (g167.cell ta0 (by decide +kernel)).trans c110
          have c178 : I164 a0 12 = v113 := (g167.cell ta0 (by decide +kernel)).trans c114
          have c179 : I164 a0 8 = v115 := (g167.cell ta0 (by decide +kernel)).trans c116
          have hO180 : FrO 14 a1 T I0 I164 := hO78.st g167 (by decide +kernel)
          obtain ⟨v181, c182⟩ : ∃ v, I164 a0 9 = v := ⟨_, rfl⟩
          have b183 := iv15_9 hS174.1 ta0 c182
          rw [c182] at p170
          obtain ⟨v184, c185⟩ : ∃ v, I164 a0 13 = v := ⟨_, rfl⟩
          rw [c185] at p171
          obtain ⟨v186, c187⟩ : ∃ v, I164 a0 14 = v := ⟨_, rfl⟩
          rw [c187] at p172
          rw [c107] at p172
          refine tr_aload_n dX12_readCall_60 rfl ?_
          refine q_getI dX12_readCall_61 fl12_99 (kR15 hS174.1 ta0) c182 ?_
          refine q_iconst dX12_readCall_64 (by decide) ?_
          intro v188 h189
          refine q_icmp_ne 72 dX12_readCall_65 (by decide) (fun h190 => ?_) (fun h190 => ?_)
          · skip
            exfalso; omega
          · skip
            refine q_iconst dX12_readCall_68 (by decide) ?_
            intro v191 h192
            refine tr_goto 81 dX12_readCall_69 (by decide) ?_
            refine tr_istore_n dX12_readCall_81 (by decide) (by decide) ?_
            refine tr_aload_n dX12_readCall_82 rfl ?_
            refine q_callVv hE (M' := mX12_goesOn) (as := []) dX12_readCall_83 lk12_142 inX12_goesOn seX12_goesOn myX12_goesOn (by decide) ⟨by decide, by decide⟩ rfl (kR15 hS174.1 ta0) (Nat.le_of_ble_eq_true rfl) rfl rfl (by decide) (by decide) (k_X12_goesOn hS174.1 ta0) ?_
            rintro cn' K' N' I193 R194 L195 ⟨rfl, rfl, rfl, rfl, g196, p198, p199, p200, w201, -⟩
            have hS202 := hS174.tr g196 (by decide +kernel) (by decide +kernel)
            have c203 : I193 a1 5 = v49 := (g196.cell ta1 (by decide +kernel)).trans c175
            have c204 : I193 a0 13 = v184 := (g196.cell ta0 (by decide +kernel)).trans c185
            have c205 : I193 a0 14 = v186 := (g196.cell ta0 (by decide +kernel)).trans c187
            obtain ⟨v206, c207⟩ : ∃ v, I193 a0 9 = v := ⟨_, rfl⟩
            have b208 := iv15_9 hS202.1 ta0 c207
            rw [c182] at p198
            rw [c207] at p198
            rw [c182] at p199
            rw [c207] at p199
            obtain ⟨v209, c210⟩ : ∃ v, I193 a0 8 = v := ⟨_, rfl⟩
            have b211 := iv15_8 hS202.1 ta0 c210
            rw [c210] at p200
            rw [c179] at p200
            rw [c204] at p200
            rw [c185] at p200
            have hO212 : FrO 14 a1 T I0 I193 := hO180.st g196 (by decide +kernel)
            have ov213 := w201.over (by rw [c182]; omega)
            obtain ⟨v214, c215⟩ : ∃ v, I193 a0 9 = v := ⟨_, rfl⟩
            have b216 := iv15_9 hS202.1 ta0 c215
            obtain ⟨v217, c218⟩ : ∃ v, I193 a0 13 = v := ⟨_, rfl⟩
            obtain ⟨v219, c220⟩ : ∃ v, I193 a0 14 = v := ⟨_, rfl⟩
            (try rw [c215] at ov213)
            (try rw [c218] at ov213)
            (try rw [c220] at ov213)
            (try rw [c182] at ov213)
            (try rw [c185] at ov213)
            (try rw [c187] at ov213)
            refine tr_aload_n dX12_readCall_86 rfl ?_
            refine tr_ldcwS dX12_readCall_87 ld12_352 ?_
            refine q_iconst dX12_readCall_90 (by decide) ?_
            intro v221 h222
            refine tr_aload_n dX12_readCall_91 rfl ?_
            refine tr_getR dX12_readCall_92 fl12_188 (kR15 hS202.1 ta0) d2 ?_
            refine q_getI dX12_readCall_95 fl12_192 (kR14 hS202.1 ta1) ((hS202.cell ta1 (by decide +kernel)).trans c30) ?_
            refine q_iconst dX12_readCall_98 (by decide) ?_
            intro v223 h224
            refine q_isubE dX12_readCall_99 (by intros; omega) ?_
            intro v225 h226
            refine q_callVi hE (M' := mX12_readPart) (as := [_, _, _]) dX12_readCall_100 lk12_249 inX12_readPart seX12_readPart myX12_readPart (by decide) ⟨by decide, by decide⟩ rfl (kR15 hS202.1 ta0) (Nat.le_of_ble_eq_true rfl) rfl rfl (by decide) (by decide) (k_X12_readPart hS202.1 ta0 (by decide)) ?_
            rintro v231 cn' K' N' I227 R228 L229 ⟨rfl, rfl, rfl, rfl, g230, p232, w233, -⟩
            have hS234 := hS202.tr g230 (by decide +kernel) (by decide +kernel)
            have c235 : I227 a1 5 = v49 := (g230.cell ta1 (by decide +kernel)).trans c203
            have b236 : 0 ≤ v231.toInt ∧ v231.toInt ≤ 239 := by omega
            clear p232
            have hO237 : FrO 14 a1 T I0 I227 := hO212.st g230 (by decide +kernel)
            have ov238 := w233.over (by rw [c215]; omega)
            obtain ⟨v239, c240⟩ : ∃ v, I227 a0 9 = v := ⟨_, rfl⟩
            have b241 := iv15_9 hS234.1 ta0 c240
            obtain ⟨v242, c243⟩ : ∃ v, I227 a0 13 = v := ⟨_, rfl⟩
            obtain ⟨v244, c245⟩ : ∃ v, I227 a0 14 = v := ⟨_, rfl⟩
            (try rw [c240] at ov238)
            (try rw [c243] at ov238)
            (try rw [c245] at ov238)
            (try rw [c215] at ov238)
            (try rw [c218] at ov238)
            (try rw [c220] at ov238)
            refine tr_istore_n dX12_readCall_103 (by decide) (by decide) ?_
            refine tr_aload_n dX12_readCall_104 rfl ?_
            refine tr_ldcwS dX12_readCall_105 ld12_354 ?_
            refine q_iconst dX12_readCall_108 (by decide) ?_
            intro v246 h247
            refine q_bipush dX12_readCall_109 (by decide +kernel) ?_
            intro v248 h249
            refine q_callVi hE (M' := mX12_readPart) (as := [_, _, _]) dX12_readCall_111 lk12_249 inX12_readPart seX12_readPart myX12_readPart (by decide) ⟨by decide, by decide⟩ rfl (kR15 hS234.1 ta0) (Nat.le_of_ble_eq_true rfl) rfl rfl (by decide) (by decide) (k_X12_readPart hS234.1 ta0 (by decide)) ?_
            rintro v254 cn' K' N' I250 R251 L252 ⟨rfl, rfl, rfl, rfl, g253, p255, w256, -⟩
            have hS257 := hS234.tr g253 (by decide +kernel) (by decide +kernel)
            have c258 : I250 a1 5 = v49 := (g253.cell ta1 (by decide +kernel)).trans c235
            have b259 : 1 ≤ v254.toInt ∧ v254.toInt ≤ 60 := by omega
            clear p255
            have hO260 : FrO 14 a1 T I0 I250 := hO237.st g253 (by decide +kernel)
            have ov261 := w256.over (by rw [c240]; omega)
            obtain ⟨v262, c263⟩ : ∃ v, I250 a0 9 = v := ⟨_, rfl⟩
            have b264 := iv15_9 hS257.1 ta0 c263
            obtain ⟨v265, c266⟩ : ∃ v, I250 a0 13 = v := ⟨_, rfl⟩
            obtain ⟨v267, c268⟩ : ∃ v, I250 a0 14 = v := ⟨_, rfl⟩
            (try rw [c263] at ov261)
            (try rw [c266] at ov261)
            (try rw [c268] at ov261)
            (try rw [c240] at ov261)
            (try rw [c243] at ov261)
            (try rw [c245] at ov261)
            refine tr_istore dX12_readCall_114 (by decide) (by decide) ?_
            refine tr_aload_n dX12_readCall_116 rfl ?_
            refine tr_ldcwS dX12_readCall_117 ld12_356 ?_
            refine q_iconst dX12_readCall_120 (by decide) ?_
            intro v269 h270
            refine q_bipush dX12_readCall_121 (by decide +kernel) ?_
            intro v271 h272
            refine q_callVi hE (M' := mX12_readPart) (as := [_, _, _]) dX12_readCall_123 lk12_249 inX12_readPart seX12_readPart myX12_readPart (by decide) ⟨by decide, by decide⟩ rfl (kR15 hS257.1 ta0) (Nat.le_of_ble_eq_true rfl) rfl rfl (by decide) (by decide) (k_X12_readPart hS257.1 ta0 (by decide)) ?_
            rintro v277 cn' K' N' I273 R274 L275 ⟨rfl, rfl, rfl, rfl, g276, p278, w279, -⟩
            have hS280 := hS257.tr g276 (by decide +kernel) (by decide +kernel)
            have c281 : I273 a1 5 = v49 := (g276.cell ta1 (by decide +kernel)).trans c258
            have b282 : 0 ≤ v277.toInt ∧ v277.toInt ≤ 99 := by omega
            clear p278
            have hO283 : FrO 14 a1 T I0 I273 := hO260.st g276 (by decide +kernel)
            have ov284 := w279.over (by rw [c263]; omega)
            obtain ⟨v285, c286⟩ : ∃ v, I273 a0 9 = v := ⟨_, rfl⟩
            have b287 := iv15_9 hS280.1 ta0 c286
            obtain ⟨v288, c289⟩ : ∃ v, I273 a0 13 = v := ⟨_, rfl⟩
            obtain ⟨v290, c291⟩ : ∃ v, I273 a0 14 = v := ⟨_, rfl⟩
            (try rw [c286] at ov284)
            (try rw [c289] at ov284)
            (try rw [c291] at ov284)
            (try rw [c263] at ov284)
            (try rw [c266] at ov284)
            (try rw [c268] at ov284)
            refine tr_istore dX12_readCall_126 (by decide) (by decide) ?_
            refine tr_aload_n dX12_readCall_128 rfl ?_
            refine q_getI dX12_readCall_129 fl12_99 (kR15 hS280.1 ta0) c286 ?_
            refine q_iconst dX12_readCall_132 (by decide) ?_
            intro v292 h293
            refine q_icmp_ne 137 dX12_readCall_133 (by decide) (fun h294 => ?_) (fun h294 => ?_)
            · skip
              exfalso; omega
            · skip
              have eF := hF.eq
              have eP := hP.eq
              obtain ⟨v295, c296⟩ : ∃ v, I273 a0 10 = v := ⟨_, rfl⟩
              have b297 := iv15_10 hS280.1 ta0 c296
              obtain ⟨v298, c299⟩ : ∃ v, I273 a0 11 = v := ⟨_, rfl⟩
              obtain ⟨y300, c301⟩ : ∃ v, L275 a0 15 = v := ⟨_, rfl⟩
              obtain ⟨v302, c303⟩ : ∃ v, I273 a0 12 = v := ⟨_, rfl⟩
              obtain ⟨v304, c305⟩ : ∃ v, I273 a0 8 = v := ⟨_, rfl⟩
              have b306 := iv15_8 hS280.1 ta0 c305
              exact tr_vret hZ dX12_readCall_136 rfl (by decide) (by decide) ⟨rfl, rfl, rfl, rfl, rfl, hS280, (fun dr hd => (Option.some.inj (d2.symm.trans hd)) ▸ hO283), (Or.inr (⟨(by (try rw [w121]); first | done | with_reducible assumption | omega), (by (try rw [w121]); (try rw [c286]); first | done | with_reducible assumption | omega), (by (try rw [w121]); (try rw [c289]); first | done | with_reducible assumption | omega), (by (try rw [w121]); (try rw [c291]); first | done | with_reducible assumption | omega), trivial⟩)), trivial⟩
        · skip
          refine tr_aload_n dX12_readCall_42 rfl ?_
          refine tr_getR dX12_readCall_43 fl12_188 (kR15 hS76.1 ta0) d2 ?_
          obtain ⟨a307, d308, ta307⟩ := rf14_31 hW0 ta1
          refine tr_getR dX12_readCall_46 fl12_212 (kR14 hS76.1 ta1) d308 ?_
          refine tr_iload_n dX12_readCall_49 rfl ?_
          refine q_iald dX12_readCall_50 (kR74 hS76.1 ta307) (ti_in (nR74 hS76.1 ta307) (by omega) (by omega)) ?_
          intro v309 c310
          have fs311 := fd_sort hM100 hS76.1 ta1 rp153 (by rw [((hS76.cell ta1 (by decide +kernel)).trans c157)]; omega) (by omega) d308 c310
          refine q_iconst dX12_readCall_51 (by decide) ?_
          intro v312 h313
          refine q_icmp_eq 60 dX12_readCall_52 (by decide) (fun h314 => ?_) (fun h314 => ?_)
          · skip
            replace hF := hF.neg (by omega)
            replace hP := hP.neg (by omega)
            refine tr_aload_n dX12_readCall_60 rfl ?_
            refine q_getI dX12_readCall_61 fl12_99 (kR15 hS76.1 ta0) c104 ?_
            refine q_iconst dX12_readCall_64 (by decide) ?_
            intro v315 h316
            refine q_icmp_ne 72 dX12_readCall_65 (by decide) (fun h317 => ?_) (fun h317 => ?_)
            · skip
              refine tr_aload_n dX12_readCall_72 rfl ?_
              refine tr_getR dX12_readCall_73 fl12_188 (kR15 hS76.1 ta0) d2 ?_
              obtain ⟨a318, d319, ta318⟩ := rf14_32 hW0 ta1
              refine tr_getR dX12_readCall_76 fl12_215 (kR14 hS76.1 ta1) d319 ?_
              refine tr_iload_n dX12_readCall_79 rfl ?_
              refine q_iald dX12_readCall_80 (kR75 hS76.1 ta318) (ti_in (nR75 hS76.1 ta318) (by omega) (by omega)) ?_
              intro v320 c321
              refine tr_istore_n dX12_readCall_81 (by decide) (by decide) ?_
              refine tr_aload_n dX12_readCall_82 rfl ?_
              have p322 := p88 (by omega)
              refine q_callVv hE (M' := mX12_goesOn) (as := []) dX12_readCall_83 lk12_142 inX12_goesOn seX12_goesOn myX12_goesOn (by decide) ⟨by decide, by decide⟩ rfl (kR15 hS76.1 ta0) (Nat.le_of_ble_eq_true rfl) rfl rfl (by decide) (by decide) (fk_X12_goesOn hS76.1 (gB) ((tkN gB (tkN gB gs))) ta0 (TxA.kp hT hS76 ta0 rfl rfl rfl (by decide +kernel) (by decide +kernel)) (by (try rw [c116]); first | done | with_reducible assumption | omega) (by (try rw [((hS76.cell ta0 (by decide +kernel)).trans c26)]); first | done | with_reducible assumption | omega) (by (try rw [c104]); first | done | with_reducible assumption | omega)) ?_
              rintro cn' K' N' I323 R324 L325 ⟨rfl, rfl, rfl, rfl, g326, gl327, p329, p330, p331, p332, p333, p334, p335, -⟩
              have hM336 : NmM I323 R0 L70 a1 gQ := NmM.kpS hM100 g326 hS76.1 ta1 (by decide +kernel) (by decide +kernel)
              have hS337 := hS76.tr g326 (by decide +kernel) (by decide +kernel)
              have c338 : I323 a1 5 = v49 := (g326.cell ta1 (by decide +kernel)).trans c77
              have c339 : I323 a0 13 = v101 := (g326.cell ta0 (by decide +kernel)).trans c102
              have hO340 : FrO 14 a1 T I0 I323 := hO78.st g326 (by decide +kernel)
              have hL341 := hL99.tr gl327 (by decide +kernel)
              have hM342 : NmM I323 R0 L325 a1 gQ := NmM.kpL hM336 gl327 hS337.1 ta1 (by decide +kernel)
              obtain ⟨v343, c344⟩ : ∃ v, I323 a0 9 = v := ⟨_, rfl⟩
              have b345 := iv15_9 hS337.1 ta0 c344
              rw [c344] at p329
              rw [c344] at p330
              obtain ⟨v346, c347⟩ : ∃ v, I323 a0 10 = v := ⟨_, rfl⟩
              have b348 := iv15_10 hS337.1 ta0 c347
              rw [c347] at p331
              obtain ⟨v349, c350⟩ : ∃ v, I323 a0 11 = v := ⟨_, rfl⟩
              rw [c350] at p332
              obtain ⟨y351, c352⟩ : ∃ v, L325 a0 15 = v := ⟨_, rfl⟩
              rw [c352] at p333
              obtain ⟨v353, c354⟩ : ∃ v, I323 a0 12 = v := ⟨_, rfl⟩
              rw [c354] at p334
              obtain ⟨v355, c356⟩ : ∃ v, I323 a0 8 = v := ⟨_, rfl⟩
              have b357 := iv15_8 hS337.1 ta0 c356
              rw [c356] at p335
              refine tr_aload_n dX12_readCall_86 rfl ?_
              refine tr_ldcwS dX12_readCall_87 ld12_352 ?_
              refine q_iconst dX12_readCall_90 (by decide) ?_
              intro v358 h359
              refine tr_aload_n dX12_readCall_91 rfl ?_
              refine tr_getR dX12_readCall_92 fl12_188 (kR15 hS337.1 ta0) d2 ?_
              refine q_getI dX12_readCall_95 fl12_192 (kR14 hS337.1 ta1) ((hS337.cell ta1 (by decide +kernel)).trans c30) ?_
              refine q_iconst dX12_readCall_98 (by decide) ?_
              intro v360 h361
              refine q_isubE dX12_readCall_99 (by intros; omega) ?_
              intro v362 h363
              refine q_callVi hE (M' := mX12_readPart) (as := [_, _, _]) dX12_readCall_100 lk12_249 inX12_readPart seX12_readPart myX12_readPart (by decide) ⟨by decide, by decide⟩ rfl (kR15 hS337.1 ta0) (Nat.le_of_ble_eq_true rfl) rfl rfl (by decide) (by decide) (fk_X12_readPart hS337.1 (gB) ((tkN gB (tkN gB gs))) ta0 (by decide) (TxA.kp hT hS337 ta0 rfl rfl rfl (by decide +kernel) (by decide +kernel)) (by (try rw [c344]); first | done | with_reducible assumption | omega) (by (try rw [c344]); first | done | with_reducible assumption | omega) (by (try rw [c347]); first | done | with_reducible assumption | omega) (by (try rw [c350]); first | done | with_reducible assumption | omega) (by (try rw [c352]); first | done | assumption) (by (try rw [c354]); first | done | assumption) (by (try rw [c356]); first | done | assumption) (by (try rw [((hS337.cell ta0 (by decide +kernel)).trans c26)]); first | done | with_reducible assumption | omega)) ?_
              rintro v369 cn' K' N' I364 R365 L366 ⟨rfl, rfl, rfl, rfl, g367, dj370, -⟩
              (try rw [pk_2] at dj370)
              have hM371 : NmM I364 R0 L325 a1 gQ := NmM.kpS hM342 g367 hS337.1 ta1 (by decide +kernel) (by decide +kernel)
              have hS372 := hS337.tr g367 (by decide +kernel) (by decide +kernel)
              have c373 : I364 a1 5 = v49 := (g367.cell ta1 (by decide +kernel)).trans c338
              have hO374 : FrO 14 a1 T I0 I364 := hO340.st g367 (by decide +kernel)
              rcases dj370 with ⟨p375, p376, p377, p378, p379, p380, p381, p382, p383, p384, p385, p386, p387, p388, gl389, -⟩ | ⟨p390, p391, p392, p393, p394, -⟩ | ⟨p395, p396, p397, p398, p399, p400, p401, -⟩ | ⟨p402, p403, p404, p405, p406, p407, p408, p409, -⟩
              · skip
                have hL410 := hL341.tr gl389 (by decide +kernel)
                have hM411 : NmM I364 R0 L366 a1 gQ := NmM.kpL hM371 gl389 hS372.1 ta1 (by decide +kernel)
                obtain ⟨v412, c413⟩ : ∃ v, I364 a0 13 = v := ⟨_, rfl⟩
                rw [c413] at p381
                rw [c339] at p381
                obtain ⟨v414, c415⟩ : ∃ v, I364 a0 9 = v := ⟨_, rfl⟩
                have b416 := iv15_9 hS372.1 ta0 c415
                rw [c415] at p382
                rw [c415] at p383
                obtain ⟨v417, c418⟩ : ∃ v, I364 a0 10 = v := ⟨_, rfl⟩
                have b419 := iv15_10 hS372.1 ta0 c418
                rw [c418] at p384
                obtain ⟨v420, c421⟩ : ∃ v, I364 a0 11 = v := ⟨_, rfl⟩
                rw [c421] at p385
                obtain ⟨y422, c423⟩ : ∃ v, L366 a0 15 = v := ⟨_, rfl⟩
                rw [c423] at p386
                obtain ⟨v424, c425⟩ : ∃ v, I364 a0 12 = v := ⟨_, rfl⟩
                rw [c425] at p387
                obtain ⟨v426, c427⟩ : ∃ v, I364 a0 8 = v := ⟨_, rfl⟩
                have b428 := iv15_8 hS372.1 ta0 c427
                rw [c427] at p388
                replace hF := hF.neg (by omega)
                replace hP := hP.neg (by omega)
                replace hF := hF.neg (by omega)
                replace hP := hP.neg (by omega)
                replace hF := hF.neg (by omega)
                replace hP := hP.neg (by omega)
                refine tr_istore_n dX12_readCall_103 (by decide) (by decide) ?_
                refine tr_aload_n dX12_readCall_104 rfl ?_
                refine tr_ldcwS dX12_readCall_105 ld12_354 ?_
                refine q_iconst dX12_readCall_108 (by decide) ?_
                intro v429 h430
                refine q_bipush dX12_readCall_109 (by decide +kernel) ?_
                intro v431 h432
                refine q_callVi hE (M' := mX12_readPart) (as := [_, _, _]) dX12_readCall_111 lk12_249 inX12_readPart seX12_readPart myX12_readPart (by decide) ⟨by decide, by decide⟩ rfl (kR15 hS372.1 ta0) (Nat.le_of_ble_eq_true rfl) rfl rfl (by decide) (by decide) (fk_X12_readPart hS372.1 (gB) ((tkN gB (tkN gB (tkN gB (tkN gB gs))))) ta0 (by decide) (TxA.kp hT hS372 ta0 rfl rfl rfl (by decide +kernel) (by decide +kernel)) (by (try rw [c415]); first | done | with_reducible assumption | omega) (by (try rw [c415]); first | done | with_reducible assumption | omega) (by (try rw [c418]); first | done | with_reducible assumption | omega) (by (try rw [c421]); first | done | with_reducible assumption | omega) (by (try rw [c423]); first | done | assumption) (by (try rw [c425]); first | done | assumption) (by (try rw [c427]); first | done | assumption) (by (try rw [((hS372.cell ta0 (by decide +kernel)).trans c26)]); first | done | with_reducible assumption | omega)) ?_
                rintro v438 cn' K' N' I433 R434 L435 ⟨rfl, rfl, rfl, rfl, g436, dj439, -⟩
                (try rw [pk_12] at dj439)
                have hM440 : NmM I433 R0 L366 a1 gQ := NmM.kpS hM411 g436 hS372.1 ta1 (by decide +kernel) (by decide +kernel)
                have hS441 := hS372.tr g436 (by decide +kernel) (by decide +kernel)
                have c442 : I433 a1 5 = v49 := (g436.cell ta1 (by decide +kernel)).trans c373
                have hO443 : FrO 14 a1 T I0 I433 := hO374.st g436 (by decide +kernel)
                rcases dj439 with ⟨p444, p445, p446, p447, p448, p449, p450, p451, p452, p453, p454, p455, p456, p457, gl458, -⟩ | ⟨p459, p460, p461, p462, p463, -⟩ | ⟨p464, p465, p466, p467, p468, p469, p470, -⟩ | ⟨p471, p472, p473, p474, p475, p476, p477, p478, -⟩
                · skip
                  have hL479 := hL410.tr gl458 (by decide +kernel)
                  have hM480 : NmM I433 R0 L435 a1 gQ := NmM.kpL hM440 gl458 hS441.1 ta1 (by decide +kernel)
                  obtain ⟨v481, c482⟩ : ∃ v, I433 a0 13 = v := ⟨_, rfl⟩
                  rw [c482] at p450
                  rw [c413] at p450
                  obtain ⟨v483, c484⟩ : ∃ v, I433 a0 9 = v := ⟨_, rfl⟩
                  have b485 := iv15_9 hS441.1 ta0 c484
                  rw [c484] at p451
                  rw [c484] at p452
                  obtain ⟨v486, c487⟩ : ∃ v, I433 a0 10 = v := ⟨_, rfl⟩
                  have b488 := iv15_10 hS441.1 ta0 c487
                  rw [c487] at p453
                  obtain ⟨v489, c490⟩ : ∃ v, I433 a0 11 = v := ⟨_, rfl⟩
                  rw [c490] at p454
                  obtain ⟨y491, c492⟩ : ∃ v, L435 a0 15 = v := ⟨_, rfl⟩
                  rw [c492] at p455
                  obtain ⟨v493, c494⟩ : ∃ v, I433 a0 12 = v := ⟨_, rfl⟩
                  rw [c494] at p456
                  obtain ⟨v495, c496⟩ : ∃ v, I433 a0 8 = v := ⟨_, rfl⟩
                  have b497 := iv15_8 hS441.1 ta0 c496
                  rw [c496] at p457
                  replace hF := hF.neg (by omega)
                  replace hP := hP.neg (by omega)
                  replace hF := hF.neg (by omega)
                  replace hP := hP.neg (by omega)
                  replace hF := hF.neg (by omega)
                  replace hP := hP.neg (by omega)
                  refine tr_istore dX12_readCall_114 (by decide) (by decide) ?_
                  refine tr_aload_n dX12_readCall_116 rfl ?_
                  refine tr_ldcwS dX12_readCall_117 ld12_356 ?_
                  refine q_iconst dX12_readCall_120 (by decide) ?_
                  intro v498 h499
                  refine q_bipush dX12_readCall_121 (by decide +kernel) ?_
                  intro v500 h501
                  refine q_callVi hE (M' := mX12_readPart) (as := [_, _, _]) dX12_readCall_123 lk12_249 inX12_readPart seX12_readPart myX12_readPart (by decide) ⟨by decide, by decide⟩ rfl (kR15 hS441.1 ta0) (Nat.le_of_ble_eq_true rfl) rfl rfl (by decide) (by decide) (fk_X12_readPart hS441.1 (gB) ((tkN gB (tkN gB (tkN gB (tkN gB (tkN gB (tkN gB gs))))))) ta0 (by decide) (TxA.kp hT hS441 ta0 rfl rfl rfl (by decide +kernel) (by decide +kernel)) (by (try rw [c484]); first | done | with_reducible assumption | omega) (by (try rw [c484]); first | done | with_reducible assumption | omega) (by (try rw [c487]); first | done | with_reducible assumption | omega) (by (try rw [c490]); first | done | with_reducible assumption | omega) (by (try rw [c492]); first | done | assumption) (by (try rw [c494]); first | done | assumption) (by (try rw [c496]); first | done | assumption) (by (try rw [((hS441.cell ta0 (by decide +kernel)).trans c26)]); first | done | with_reducible assumption | omega)) ?_
                  rintro v507 cn' K' N' I502 R503 L504 ⟨rfl, rfl, rfl, rfl, g505, dj508, -⟩
                  (try rw [pk_8] at dj508)
                  have hM509 : NmM I502 R0 L435 a1 gQ := NmM.kpS hM480 g505 hS441.1 ta1 (by decide +kernel) (by decide +kernel)
                  have hS510 := hS441.tr g505 (by decide +kernel) (by decide +kernel)
                  have c511 : I502 a1 5 = v49 := (g505.cell ta1 (by decide +kernel)).trans c442
                  have hO512 : FrO 14 a1 T I0 I502 := hO443.st g505 (by decide +kernel)
                  rcases dj508 with ⟨p513, p514, p515, p516, p517, p518, p519, p520, p521, p522, p523, p524, p525, p526, gl527, -⟩ | ⟨p528, p529, p530, p531, p532, -⟩ | ⟨p533, p534, p535, p536, p537, p538, p539, -⟩ | ⟨p540, p541, p542, p543, p544, p545, p546, p547, -⟩
                  · skip
                    have hL548 := hL479.tr gl527 (by decide +kernel)
                    have hM549 : NmM I502 R0 L504 a1 gQ := NmM.kpL hM509 gl527 hS510.1 ta1 (by decide +kernel)
                    obtain ⟨v550, c551⟩ : ∃ v, I502 a0 13 = v := ⟨_, rfl⟩
                    rw [c551] at p519
                    rw [c482] at p519
                    obtain ⟨v552, c553⟩ : ∃ v, I502 a0 9 = v := ⟨_, rfl⟩
                    have b554 := iv15_9 hS510.1 ta0 c553
                    rw [c553] at p520
                    rw [c553] at p521
                    obtain ⟨v555, c556⟩ : ∃ v, I502 a0 10 = v := ⟨_, rfl⟩
                    have b557 := iv15_10 hS510.1 ta0 c556
                    rw [c556] at p522
                    obtain ⟨v558, c559⟩ : ∃ v, I502 a0 11 = v := ⟨_, rfl⟩
                    rw [c559] at p523
                    obtain ⟨y560, c561⟩ : ∃ v, L504 a0 15 = v := ⟨_, rfl⟩
                    rw [c561] at p524
                    obtain ⟨v562, c563⟩ : ∃ v, I502 a0 12 = v := ⟨_, rfl⟩
                    rw [c563] at p525
                    obtain ⟨v564, c565⟩ : ∃ v, I502 a0 8 = v := ⟨_, rfl⟩
                    have b566 := iv15_8 hS510.1 ta0 c565
                    rw [c565] at p526
                    replace hF := hF.neg (by omega)
                    replace hP := hP.neg (by omega)
                    replace hF := hF.neg (by omega)
                    replace hP := hP.neg (by omega)
                    replace hF := hF.neg (by omega)
                    replace hP := hP.neg (by omega)
                    refine tr_istore dX12_readCall_126 (by decide) (by decide) ?_
                    refine tr_aload_n dX12_readCall_128 rfl ?_
                    refine q_getI dX12_readCall_129 fl12_99 (kR15 hS510.1 ta0) c553 ?_
                    refine q_iconst dX12_readCall_132 (by decide) ?_
                    intro v567 h568
                    refine q_icmp_ne 137 dX12_readCall_133 (by decide) (fun h569 => ?_) (fun h569 => ?_)
                    · skip
                      refine tr_aload_n dX12_readCall_137 rfl ?_
                      refine tr_getR dX12_readCall_138 fl12_188 (kR15 hS510.1 ta0) d2 ?_
                      obtain ⟨a570, d571, ta570⟩ := rf14_26 hW0 ta1
                      refine tr_getR dX12_readCall_141 fl12_358 (kR14 hS510.1 ta1) d571 ?_
                      refine tr_aload_n dX12_readCall_144 rfl ?_
                      refine tr_getR dX12_readCall_145 fl12_188 (kR15 hS510.1 ta0) d2 ?_
                      refine q_getI dX12_readCall_148 fl12_349 (kR14 hS510.1 ta1) c511 ?_
                      refine tr_iload_n dX12_readCall_151 rfl ?_
                      refine q_iast dX12_readCall_152 (kR69 hS510.1 ta570) (ti_in (nR69 hS510.1 ta570) (by omega) (by omega)) hS510 ta570 (iokF rfl) rfl (by rfl) ?_
                      intro I572 hS573 e575 f574
                      have c576 : I572 a1 5 = v49 := (f574 _ _ (fun q => by have z := ta1; rw [q.1, ta570] at z; exact absurd z (by decide))).trans c511
                      have c577 : I572 a0 13 = v550 := (f574 _ _ (fun q => by have z := ta0; rw [q.1, ta570] at z; exact absurd z (by decide))).trans c551
                      have c578 : I572 a0 9 = v552 := (f574 _ _ (fun q => by have z := ta0; rw [q.1, ta570] at z; exact absurd z (by decide))).trans c553
                      have c579 : I572 a0 10 = v555 := (f574 _ _ (fun q => by have z := ta0; rw [q.1, ta570] at z; exact absurd z (by decide))).trans c556
                      have c580 : I572 a0 11 = v558 := (f574 _ _ (fun q => by have z := ta0; rw [q.1, ta570] at z; exact absurd z (by decide))).trans c559
                      have c581 : I572 a0 12 = v562 := (f574 _ _ (fun q => by have z := ta0; rw [q.1, ta570] at z; exact absurd z (by decide))).trans c563
                      have c582 : I572 a0 8 = v564 := (f574 _ _ (fun q => by have z := ta0; rw [q.1, ta570] at z; exact absurd z (by decide))).trans c565
                      have hO583 : FrO 14 a1 T I0 I572 := hO512.put f574 ta570 (Or.inl (by decide))
                      have hM584 : NmM I572 R0 L504 a1 gQ := NmM.kp1 hM549 f574 ta570 rfl rfl hS510.1 ta1
                      refine tr_aload_n dX12_readCall_153 rfl ?_
                      refine tr_getR dX12_readCall_154 fl12_188 (kR15 hS573.1 ta0) d2 ?_
                      obtain ⟨a585, d586, ta585⟩ := rf14_27 hW0 ta1
                      refine tr_getR dX12_readCall_157 fl12_361 (kR14 hS573.1 ta1) d586 ?_
                      refine tr_aload_n dX12_readCall_160 rfl ?_
                      refine tr_getR dX12_readCall_161 fl12_188 (kR15 hS573.1 ta0) d2 ?_
                      refine q_getI dX12_readCall_164 fl12_349 (kR14 hS573.1 ta1) c576 ?_
                      refine tr_iload_n dX12_readCall_167 rfl ?_
                      refine q_iast dX12_readCall_168 (kR70 hS573.1 ta585) (ti_in (nR70 hS573.1 ta585) (by omega) (by omega)) hS573 ta585 (iokF rfl) rfl (by rfl) ?_
                      intro I587 hS588 e590 f589
                      have c591 : I587 a1 5 = v49 := (f589 _ _ (fun q => by have z := ta1; rw [q.1, ta585] at z; exact absurd z (by decide))).trans c576
                      have c592 : I587 a0 13 = v550 := (f589 _ _ (fun q => by have z := ta0; rw [q.1, ta585] at z; exact absurd z (by decide))).trans c577
                      have c593 : I587 a0 9 = v552 := (f589 _ _ (fun q => by have z := ta0; rw [q.1, ta585] at z; exact absurd z (by decide))).trans c578
                      have c594 : I587 a0 10 = v555 := (f589 _ _ (fun q => by have z := ta0; rw [q.1, ta585] at z; exact absurd z (by decide))).trans c579
                      have c595 : I587 a0 11 = v558 := (f589 _ _ (fun q => by have z := ta0; rw [q.1, ta585] at z; exact absurd z (by decide))).trans c580
                      have c596 : I587 a0 12 = v562 := (f589 _ _ (fun q => by have z := ta0; rw [q.1, ta585] at z; exact absurd z (by decide))).trans c581
                      have c597 : I587 a0 8 = v564 := (f589 _ _ (fun q => by have z := ta0; rw [q.1, ta585] at z; exact absurd z (by decide))).trans c582
                      have hO598 : FrO 14 a1 T I0 I587 := hO583.put f589 ta585 (Or.inl (by decide))
                      have hM599 : NmM I587 R0 L504 a1 gQ := NmM.kp1 hM584 f589 ta585 rfl rfl hS573.1 ta1
                      refine tr_aload_n dX12_readCall_169 rfl ?_
                      refine tr_getR dX12_readCall_170 fl12_188 (kR15 hS588.1 ta0) d2 ?_
                      obtain ⟨a600, d601, ta600⟩ := rf14_28 hW0 ta1
                      refine tr_getR dX12_readCall_173 fl12_364 (kR14 hS588.1 ta1) d601 ?_
                      refine tr_aload_n dX12_readCall_176 rfl ?_
                      refine tr_getR dX12_readCall_177 fl12_188 (kR15 hS588.1 ta0) d2 ?_
                      refine q_getI dX12_readCall_180 fl12_349 (kR14 hS588.1 ta1) c591 ?_
                      refine tr_iload dX12_readCall_183 rfl ?_
                      refine q_iast dX12_readCall_185 (kR71 hS588.1 ta600) (ti_in (nR71 hS588.1 ta600) (by omega) (by omega)) hS588 ta600 (iokF rfl) rfl (by rfl) ?_
                      intro I602 hS603 e605 f604
                      have c606 : I602 a1 5 = v49 := (f604 _ _ (fun q => by have z := ta1; rw [q.1, ta600] at z; exact absurd z (by decide))).trans c591
                      have c607 : I602 a0 13 = v550 := (f604 _ _ (fun q => by have z := ta0; rw [q.1, ta600] at z; exact absurd z (by decide))).trans c592
                      have c608 : I602 a0 9 = v552 := (f604 _ _ (fun q => by have z := ta0; rw [q.1, ta600] at z; exact absurd z (by decide))).trans c593
                      have c609 : I602 a0 10 = v555 := (f604 _ _ (fun q => by have z := ta0; rw [q.1, ta600] at z; exact absurd z (by decide))).trans c594
                      have c610 : I602 a0 11 = v558 := (f604 _ _ (fun q => by have z := ta0; rw [q.1, ta600] at z; exact absurd z (by decide))).trans c595
                      have c611 : I602 a0 12 = v562 := (f604 _ _ (fun q => by have z := ta0; rw [q.1, ta600] at z; exact absurd z (by decide))).trans c596
                      have c612 : I602 a0 8 = v564 := (f604 _ _ (fun q => by have z := ta0; rw [q.1, ta600] at z; exact absurd z (by decide))).trans c597
                      have hO613 : FrO 14 a1 T I0 I602 := hO598.put f604 ta600 (Or.inl (by decide))
                      have hM614 : NmM I602 R0 L504 a1 gQ := NmM.kp1 hM599 f604 ta600 rfl rfl hS588.1 ta1
                      refine tr_aload_n dX12_readCall_186 rfl ?_
                      refine tr_getR dX12_readCall_187 fl12_188 (kR15 hS603.1 ta0) d2 ?_
                      obtain ⟨a615, d616, ta615⟩ := rf14_29 hW0 ta1
                      refine tr_getR dX12_readCall_190 fl12_367 (kR14 hS603.1 ta1) d616 ?_
                      refine tr_aload_n dX12_readCall_193 rfl ?_
                      refine tr_getR dX12_readCall_194 fl12_188 (kR15 hS603.1 ta0) d2 ?_
                      refine q_getI dX12_readCall_197 fl12_349 (kR14 hS603.1 ta1) c606 ?_
                      refine tr_iload dX12_readCall_200 rfl ?_
                      refine q_iast dX12_readCall_202 (kR72 hS603.1 ta615) (ti_in (nR72 hS603.1 ta615) (by omega) (by omega)) hS603 ta615 (iokF rfl) rfl (by rfl) ?_
                      intro I617 hS618 e620 f619
                      have c621 : I617 a1 5 = v49 := (f619 _ _ (fun q => by have z := ta1; rw [q.1, ta615] at z; exact absurd z (by decide))).trans c606
                      have c622 : I617 a0 13 = v550 := (f619 _ _ (fun q => by have z := ta0; rw [q.1, ta615] at z; exact absurd z (by decide))).trans c607
                      have c623 : I617 a0 9 = v552 := (f619 _ _ (fun q => by have z := ta0; rw [q.1, ta615] at z; exact absurd z (by decide))).trans c608
                      have c624 : I617 a0 10 = v555 := (f619 _ _ (fun q => by have z := ta0; rw [q.1, ta615] at z; exact absurd z (by decide))).trans c609
                      have c625 : I617 a0 11 = v558 := (f619 _ _ (fun q => by have z := ta0; rw [q.1, ta615] at z; exact absurd z (by decide))).trans c610
                      have c626 : I617 a0 12 = v562 := (f619 _ _ (fun q => by have z := ta0; rw [q.1, ta615] at z; exact absurd z (by decide))).trans c611
                      have c627 : I617 a0 8 = v564 := (f619 _ _ (fun q => by have z := ta0; rw [q.1, ta615] at z; exact absurd z (by decide))).trans c612
                      have hO628 : FrO 14 a1 T I0 I617 := hO613.put f619 ta615 (Or.inl (by decide))
                      have hM629 : NmM I617 R0 L504 a1 gQ := NmM.kp1 hM614 f619 ta615 rfl rfl hS603.1 ta1
                      refine tr_aload_n dX12_readCall_203 rfl ?_
                      refine tr_getR dX12_readCall_204 fl12_188 (kR15 hS618.1 ta0) d2 ?_
                      refine tr_dup dX12_readCall_207 rfl ?_
                      refine q_getI dX12_readCall_208 fl12_349 (kR14 hS618.1 ta1) c621 ?_
                      refine q_iconst dX12_readCall_211 (by decide) ?_
                      intro v630 h631
                      refine q_iaddE dX12_readCall_212 (by intros; omega) ?_
                      intro v632 h633
                      refine q_putI dX12_readCall_213 fl12_349 (kR14 hS618.1 ta1) (Or.inl rfl) hS618 ta1 (by show (0 : Int) ≤ v632.toInt ∧ v632.toInt ≤ (6 : Int); omega) rfl (by decide +kernel) ?_
                      intro I634 hS635 e636 f637
                      have c638 : I634 a0 13 = v550 := (f637 _ _ (fun q => absurd q.2 (by decide))).trans c622
                      have c639 : I634 a0 9 = v552 := (f637 _ _ (fun q => absurd q.2 (by decide))).trans c623
                      have c640 : I634 a0 10 = v555 := (f637 _ _ (fun q => absurd q.2 (by decide))).trans c624
                      have c641 : I634 a0 11 = v558 := (f637 _ _ (fun q => absurd q.2 (by decide))).trans c625
                      have c642 : I634 a0 12 = v562 := (f637 _ _ (fun q => absurd q.2 (by decide))).trans c626
                      have c643 : I634 a0 8 = v564 := (f637 _ _ (fun q => absurd q.2 (by decide))).trans c627
                      have hO644 : FrO 14 a1 T I0 I634 := hO628.put f637 ta1 (Or.inr rfl)
                      have hM645 : NmM I634 R0 L504 a1 gQ := NmM.kp1 hM629 f637 ta1 rfl rfl hS618.1 ta1
                      have eF := hF.eq
                      have eP := hP.eq
                      obtain ⟨v646, c647⟩ : ∃ v, I634 a0 14 = v := ⟨_, rfl⟩
                      exact tr_vret hZ dX12_readCall_216 rfl (by decide) (by decide) ⟨rfl, rfl, rfl, rfl, rfl, hS635, (fun dr hd => (Option.some.inj (d2.symm.trans hd)) ▸ hO644), (Or.inl ⟨(by (try rw [w121]); first | done | with_reducible assumption | omega), (fun q0 z0 => by obtain rfl := Option.some.inj ((d2).symm.trans z0); (try rw [w121]); (try rw [((hS635.cell ta1 (by decide +kernel)).trans c30)]); first | done | with_reducible assumption | omega), (fun q0 z0 => by obtain rfl := Option.some.inj ((d2).symm.trans z0); (try rw [w121]); (try rw [((hS635.cell ta1 (by decide +kernel)).trans c34)]); first | done | with_reducible assumption | omega), (fun q0 z0 => by obtain rfl := Option.some.inj ((d2).symm.trans z0); (try rw [w121]); (try rw [((hS635.cell ta1 (by decide +kernel)).trans c38)]); first | done | with_reducible assumption | omega), (fun q0 z0 => by obtain rfl := Option.some.inj ((d2).symm.trans z0); (try rw [w121]); (try rw [((hS635.cell ta1 (by decide +kernel)).trans c42)]); first | done | with_reducible assumption | omega), (fun q0 z0 => by obtain rfl := Option.some.inj ((d2).symm.trans z0); (try rw [w121]); (try rw [((hS635.cell ta1 (by decide +kernel)).trans c46)]); first | done | with_reducible assumption | omega), (fun q0 z0 => by obtain rfl := Option.some.inj ((d2).symm.trans z0); (try rw [w121]); (try rw [e636]); first | done | with_reducible assumption | omega), (fun q0 z0 => by obtain rfl := Option.some.inj ((d2).symm.trans z0); (try rw [w121]); (try rw [((hS635.cell ta1 (by decide +kernel)).trans c54)]); first | done | with_reducible assumption | omega), (fun q0 z0 => by obtain rfl := Option.some.inj ((d2).symm.trans z0); (try rw [w121]); (try rw [((hS635.cell ta1 (by decide +kernel)).trans c58)]); first | done | with_reducible assumption | omega), (by (try rw [w121]); (try rw [c638]); (try rw [c65]); first | done | with_reducible assumption | omega), (by (try rw [w121]); (try rw [c639]); first | done | with_reducible assumption | omega), (by (try rw [w121]); (try rw [c639]); first | done | with_reducible assumption | omega), (by (try rw [w121]); (try rw [c640]); first | done | with_reducible assumption | omega), (by (try rw [w121]); (try rw [c641]); first | done | with_reducible assumption | omega), (by (try rw [w121]); (try rw [c561]); first | done | assumption), (by (try rw [w121]); (try rw [c642]); first | done | assumption), (by (try rw [w121]); (try rw [c643]); first | done | assumption), hL548, (fun b hb => (Option.some.inj (d2.symm.trans hb)) ▸ NmM.ln (NmM.bd (k := srt gB gs) hM645 (by omega) (by omega)) rfl), trivial⟩), trivial⟩
                    · skip
                      exfalso; omega
                  · skip
                    obtain ⟨v648, c649⟩ : ∃ v, I502 a0 9 = v := ⟨_, rfl⟩
                    have b650 := iv15_9 hS510.1 ta0 c649
                    rw [c649] at p530
                    obtain ⟨v651, c652⟩ : ∃ v, I502 a0 13 = v := ⟨_, rfl⟩
                    rw [c652] at p531
                    obtain ⟨v653, c654⟩ : ∃ v, I502 a0 14 = v := ⟨_, rfl⟩
                    rw [c654] at p532
                    replace hF := hF.pos (by omega)
                    replace hP := hP.pos (by omega)
                    refine tr_istore dX12_readCall_126 (by decide) (by decide) ?_
                    refine tr_aload_n dX12_readCall_128 rfl ?_
                    refine q_getI dX12_readCall_129 fl12_99 (kR15 hS510.1 ta0) c649 ?_
                    refine q_iconst dX12_readCall_132 (by decide) ?_
                    intro v655 h656
                    refine q_icmp_ne 137 dX12_readCall_133 (by decide) (fun h657 => ?_) (fun h657 => ?_)
                    · skip
                      exfalso; omega
                    · skip
                      have eF := hF.eq
                      have eP := hP.eq
                      obtain ⟨v658, c659⟩ : ∃ v, I502 a0 10 = v := ⟨_, rfl⟩
                      have b660 := iv15_10 hS510.1 ta0 c659
                      obtain ⟨v661, c662⟩ : ∃ v, I502 a0 11 = v := ⟨_, rfl⟩
                      obtain ⟨y663, c664⟩ : ∃ v, L504 a0 15 = v := ⟨_, rfl⟩
                      obtain ⟨v665, c666⟩ : ∃ v, I502 a0 12 = v := ⟨_, rfl⟩
                      obtain ⟨v667, c668⟩ : ∃ v, I502 a0 8 = v := ⟨_, rfl⟩
                      have b669 := iv15_8 hS510.1 ta0 c668
                      exact tr_vret hZ dX12_readCall_136 rfl (by decide) (by decide) ⟨rfl, rfl, rfl, rfl, rfl, hS510, (fun dr hd => (Option.some.inj (d2.symm.trans hd)) ▸ hO512), (Or.inr (⟨(by (try rw [w121]); first | done | with_reducible assumption | omega), (by (try rw [w121]); (try rw [c649]); first | done | with_reducible assumption | omega), (by (try rw [w121]); (try rw [c652]); first | done | with_reducible assumption | omega), (by (try rw [w121]); (try rw [c654]); first | done | with_reducible assumption | omega), trivial⟩)), trivial⟩
                  · skip
                    obtain ⟨v670, c671⟩ : ∃ v, I502 a0 9 = v := ⟨_, rfl⟩
                    have b672 := iv15_9 hS510.1 ta0 c671
                    rw [c671] at p537
                    obtain ⟨v673, c674⟩ : ∃ v, I502 a0 13 = v := ⟨_, rfl⟩
                    rw [c674] at p538
                    obtain ⟨v675, c676⟩ : ∃ v, I502 a0 14 = v := ⟨_, rfl⟩
                    rw [c676] at p539
                    replace hF := hF.neg (by omega)
                    replace hP := hP.neg (by omega)
                    replace hF := hF.pos (by omega)
                    replace hP := hP.pos (by omega)
                    refine tr_istore dX12_readCall_126 (by decide) (by decide) ?_
                    refine tr_aload_n dX12_readCall_128 rfl ?_
                    refine q_getI dX12_readCall_129 fl12_99 (kR15 hS510.1 ta0) c671 ?_
                    refine q_iconst dX12_readCall_132 (by decide) ?_
                    intro v677 h678
                    refine q_icmp_ne 137 dX12_readCall_133 (by decide) (fun h679 => ?_) (fun h679 => ?_)
                    · skip
                      exfalso; omega
                    · skip
                      have eF := hF.eq
                      have eP := hP.eq
                      obtain ⟨v680, c681⟩ : ∃ v, I502 a0 10 = v := ⟨_, rfl⟩
                      have b682 := iv15_10 hS510.1 ta0 c681
                      obtain ⟨v683, c684⟩ : ∃ v, I502 a0 11 = v := ⟨_, rfl⟩
                      obtain ⟨y685, c686⟩ : ∃ v, L504 a0 15 = v := ⟨_, rfl⟩
                      obtain ⟨v687, c688⟩ : ∃ v, I502 a0 12 = v := ⟨_, rfl⟩
                      obtain ⟨v689, c690⟩ : ∃ v, I502 a0 8 = v := ⟨_, rfl⟩
                      have b691 := iv15_8 hS510.1 ta0 c690
                      exact tr_vret hZ dX12_readCall_136 rfl (by decide) (by decide) ⟨rfl, rfl, rfl, rfl, rfl, hS510, (fun dr hd => (Option.some.inj (d2.symm.trans hd)) ▸ hO512), (Or.inr (⟨(by (try rw [w121]); first | done | with_reducible assumption | omega), (by (try rw [w121]); (try rw [c671]); first | done | with_reducible assumption | omega), (by (try rw [w121]); (try rw [c674]); first | done | with_reducible assumption | omega), (by (try rw [w121]); (try rw [c676]); first | done | with_reducible assumption | omega), trivial⟩)), trivial⟩
                  · skip
                    obtain ⟨v692, c693⟩ : ∃ v, I502 a0 9 = v := ⟨_, rfl⟩
                    have b694 := iv15_9 hS510.1 ta0 c693
                    rw [c693] at p545
                    obtain ⟨v695, c696⟩ : ∃ v, I502 a0 13 = v := ⟨_, rfl⟩
                    rw [c696] at p546
                    obtain ⟨v697, c698⟩ : ∃ v, I502 a0 14 = v := ⟨_, rfl⟩
                    rw [c698] at p547
                    replace hF := hF.neg (by omega)
                    replace hP := hP.neg (by omega)
                    replace hF := hF.neg (by omega)
                    replace hP := hP.neg (by omega)
                    replace hF := hF.pos (by omega)
                    replace hP := hP.pos (by omega)
                    refine tr_istore dX12_readCall_126 (by decide) (by decide) ?_
                    refine tr_aload_n dX12_readCall_128 rfl ?_
                    refine q_getI dX12_readCall_129 fl12_99 (kR15 hS510.1 ta0) c693 ?_
                    refine q_iconst dX12_readCall_132 (by decide) ?_
                    intro v699 h700
                    refine q_icmp_ne 137 dX12_readCall_133 (by decide) (fun h701 => ?_) (fun h701 => ?_)
                    · skip
                      exfalso; omega
                    · skip
                      have eF := hF.eq
                      have eP := hP.eq
                      obtain ⟨v702, c703⟩ : ∃ v, I502 a0 10 = v := ⟨_, rfl⟩
                      have b704 := iv15_10 hS510.1 ta0 c703
                      obtain ⟨v705, c706⟩ : ∃ v, I502 a0 11 = v := ⟨_, rfl⟩
                      obtain ⟨y707, c708⟩ : ∃ v, L504 a0 15 = v := ⟨_, rfl⟩
                      obtain ⟨v709, c710⟩ : ∃ v, I502 a0 12 = v := ⟨_, rfl⟩
                      obtain ⟨v711, c712⟩ : ∃ v, I502 a0 8 = v := ⟨_, rfl⟩
                      have b713 := iv15_8 hS510.1 ta0 c712
                      exact tr_vret hZ dX12_readCall_136 rfl (by decide) (by decide) ⟨rfl, rfl, rfl, rfl, rfl, hS510, (fun dr hd => (Option.some.inj (d2.symm.trans hd)) ▸ hO512), (Or.inr (⟨(by (try rw [w121]); first | done | with_reducible assumption | omega), (by (try rw [w121]); (try rw [c693]); first | done | with_reducible assumption | omega), (by (try rw [w121]); (try rw [c696]); first | done | with_reducible assumption | omega), (by (try rw [w121]); (try rw [c698]); first | done | with_reducible assumption | omega), trivial⟩)), trivial⟩
                · skip
                  obtain ⟨v714, c715⟩ : ∃ v, I433 a0 9 = v := ⟨_, rfl⟩
                  have b716 := iv15_9 hS441.1 ta0 c715
                  rw [c715] at p461
                  obtain ⟨v717, c718⟩ : ∃ v, I433 a0 13 = v := ⟨_, rfl⟩
                  rw [c718] at p462
                  obtain ⟨v719, c720⟩ : ∃ v, I433 a0 14 = v := ⟨_, rfl⟩
                  rw [c720] at p463
                  replace hF := hF.pos (by omega)
                  replace hP := hP.pos (by omega)
                  refine tr_istore dX12_readCall_114 (by decide) (by decide) ?_
                  refine tr_aload_n dX12_readCall_116 rfl ?_
                  refine tr_ldcwS dX12_readCall_117 ld12_356 ?_
                  refine q_iconst dX12_readCall_120 (by decide) ?_
                  intro v721 h722
                  refine q_bipush dX12_readCall_121 (by decide +kernel) ?_
                  intro v723 h724
                  refine q_callVi hE (M' := mX12_readPart) (as := [_, _, _]) dX12_readCall_123 lk12_249 inX12_readPart seX12_readPart myX12_readPart (by decide) ⟨by decide, by decide⟩ rfl (kR15 hS441.1 ta0) (Nat.le_of_ble_eq_true rfl) rfl rfl (by decide) (by decide) (k_X12_readPart hS441.1 ta0 (by decide)) ?_
                  rintro v729 cn' K' N' I725 R726 L727 ⟨rfl, rfl, rfl, rfl, g728, p730, w731, -⟩
                  have hS732 := hS441.tr g728 (by decide +kernel) (by decide +kernel)
                  have c733 : I725 a1 5 = v49 := (g728.cell ta1 (by decide +kernel)).trans c442
                  have b734 : 0 ≤ v729.toInt ∧ v729.toInt ≤ 99 := by omega
                  clear p730
                  have hO735 : FrO 14 a1 T I0 I725 := hO443.st g728 (by decide +kernel)
                  have ov736 := w731.over (by rw [c715]; omega)
                  obtain ⟨v737, c738⟩ : ∃ v, I725 a0 9 = v := ⟨_, rfl⟩
                  have b739 := iv15_9 hS732.1 ta0 c738
                  obtain ⟨v740, c741⟩ : ∃ v, I725 a0 13 = v := ⟨_, rfl⟩
                  obtain ⟨v742, c743⟩ : ∃ v, I725 a0 14 = v := ⟨_, rfl⟩
                  (try rw [c738] at ov736)
                  (try rw [c741] at ov736)
                  (try rw [c743] at ov736)
                  (try rw [c715] at ov736)
                  (try rw [c718] at ov736)
                  (try rw [c720] at ov736)
                  refine tr_istore dX12_readCall_126 (by decide) (by decide) ?_
                  refine tr_aload_n dX12_readCall_128 rfl ?_
                  refine q_getI dX12_readCall_129 fl12_99 (kR15 hS732.1 ta0) c738 ?_
                  refine q_iconst dX12_readCall_132 (by decide) ?_
                  intro v744 h745
                  refine q_icmp_ne 137 dX12_readCall_133 (by decide) (fun h746 => ?_) (fun h746 => ?_)
                  · skip
                    exfalso; omega
                  · skip
                    have eF := hF.eq
                    have eP := hP.eq
                    obtain ⟨v747, c748⟩ : ∃ v, I725 a0 10 = v := ⟨_, rfl⟩
                    have b749 := iv15_10 hS732.1 ta0 c748
                    obtain ⟨v750, c751⟩ : ∃ v, I725 a0 11 = v := ⟨_, rfl⟩
                    obtain ⟨y752, c753⟩ : ∃ v, L727 a0 15 = v := ⟨_, rfl⟩
                    obtain ⟨v754, c755⟩ : ∃ v, I725 a0 12 = v := ⟨_, rfl⟩
                    obtain ⟨v756, c757⟩ : ∃ v, I725 a0 8 = v := ⟨_, rfl⟩
                    have b758 := iv15_8 hS732.1 ta0 c757
                    exact tr_vret hZ dX12_readCall_136 rfl (by decide) (by decide) ⟨rfl, rfl, rfl, rfl, rfl, hS732, (fun dr hd => (Option.some.inj (d2.symm.trans hd)) ▸ hO735), (Or.inr (⟨(by (try rw [w121]); first | done | with_reducible assumption | omega), (by (try rw [w121]); (try rw [c738]); first | done | with_reducible assumption | omega), (by (try rw [w121]); (try rw [c741]); first | done | with_reducible assumption | omega), (by (try rw [w121]); (try rw [c743]); first | done | with_reducible assumption | omega), trivial⟩)), trivial⟩
                · skip
                  obtain ⟨v759, c760⟩ : ∃ v, I433 a0 9 = v := ⟨_, rfl⟩
                  have b761 := iv15_9 hS441.1 ta0 c760
                  rw [c760] at p468
                  obtain ⟨v762, c763⟩ : ∃ v, I433 a0 13 = v := ⟨_, rfl⟩
                  rw [c763] at p469
                  obtain ⟨v764, c765⟩ : ∃ v, I433 a0 14 = v := ⟨_, rfl⟩
                  rw [c765] at p470
                  replace hF := hF.neg (by omega)
                  replace hP := hP.neg (by omega)
                  replace hF := hF.pos (by omega)
                  replace hP := hP.pos (by omega)
                  refine tr_istore dX12_readCall_114 (by decide) (by decide) ?_
                  refine tr_aload_n dX12_readCall_116 rfl ?_
                  refine tr_ldcwS dX12_readCall_117 ld12_356 ?_
                  refine q_iconst dX12_readCall_120 (by decide) ?_
                  intro v766 h767
                  refine q_bipush dX12_readCall_121 (by decide +kernel) ?_
                  intro v768 h769
                  refine q_callVi hE (M' := mX12_readPart) (as := [_, _, _]) dX12_readCall_123 lk12_249 inX12_readPart seX12_readPart myX12_readPart (by decide) ⟨by decide, by decide⟩ rfl (kR15 hS441.1 ta0) (Nat.le_of_ble_eq_true rfl) rfl rfl (by decide) (by decide) (k_X12_readPart hS441.1 ta0 (by decide)) ?_
                  rintro v774 cn' K' N' I770 R771 L772 ⟨rfl, rfl, rfl, rfl, g773, p775, w776, -⟩
                  have hS777 := hS441.tr g773 (by decide +kernel) (by decide +kernel)
                  have c778 : I770 a1 5 = v49 := (g773.cell ta1 (by decide +kernel)).trans c442
                  have b779 : 0 ≤ v774.toInt ∧ v774.toInt ≤ 99 := by omega
                  clear p775
                  have hO780 : FrO 14 a1 T I0 I770 := hO443.st g773 (by decide +kernel)
                  have ov781 := w776.over (by rw [c760]; omega)
                  obtain ⟨v782, c783⟩ : ∃ v, I770 a0 9 = v := ⟨_, rfl⟩
                  have b784 := iv15_9 hS777.1 ta0 c783
                  obtain ⟨v785, c786⟩ : ∃ v, I770 a0 13 = v := ⟨_, rfl⟩
                  obtain ⟨v787, c788⟩ : ∃ v, I770 a0 14 = v := ⟨_, rfl⟩
                  (try rw [c783] at ov781)
                  (try rw [c786] at ov781)
                  (try rw [c788] at ov781)
                  (try rw [c760] at ov781)
                  (try rw [c763] at ov781)
                  (try rw [c765] at ov781)
                  refine tr_istore dX12_readCall_126 (by decide) (by decide) ?_
                  refine tr_aload_n dX12_readCall_128 rfl ?_
                  refine q_getI dX12_readCall_129 fl12_99 (kR15 hS777.1 ta0) c783 ?_
                  refine q_iconst dX12_readCall_132 (by decide) ?_
                  intro v789 h790
                  refine q_icmp_ne 137 dX12_readCall_133 (by decide) (fun h791 => ?_) (fun h791 => ?_)
                  · skip
                    exfalso; omega
                  · skip
                    have eF := hF.eq
                    have eP := hP.eq
                    obtain ⟨v792, c793⟩ : ∃ v, I770 a0 10 = v := ⟨_, rfl⟩
                    have b794 := iv15_10 hS777.1 ta0 c793
                    obtain ⟨v795, c796⟩ : ∃ v, I770 a0 11 = v := ⟨_, rfl⟩
                    obtain ⟨y797, c798⟩ : ∃ v, L772 a0 15 = v := ⟨_, rfl⟩
                    obtain ⟨v799, c800⟩ : ∃ v, I770 a0 12 = v := ⟨_, rfl⟩
                    obtain ⟨v801, c802⟩ : ∃ v, I770 a0 8 = v := ⟨_, rfl⟩
                    have b803 := iv15_8 hS777.1 ta0 c802
                    exact tr_vret hZ dX12_readCall_136 rfl (by decide) (by decide) ⟨rfl, rfl, rfl, rfl, rfl, hS777, (fun dr hd => (Option.some.inj (d2.symm.trans hd)) ▸ hO780), (Or.inr (⟨(by (try rw [w121]); first | done | with_reducible assumption | omega), (by (try rw [w121]); (try rw [c783]); first | done | with_reducible assumption | omega), (by (try rw [w121]); (try rw [c786]); first | done | with_reducible assumption | omega), (by (try rw [w121]); (try rw [c788]); first | done | with_reducible assumption | omega), trivial⟩)), trivial⟩
                · skip
                  obtain ⟨v804, c805⟩ : ∃ v, I433 a0 9 = v := ⟨_, rfl⟩
                  have b806 := iv15_9 hS441.1 ta0 c805
                  rw [c805] at p476
                  obtain ⟨v807, c808⟩ : ∃ v, I433 a0 13 = v := ⟨_, rfl⟩
                  rw [c808] at p477
                  obtain ⟨v809, c810⟩ : ∃ v, I433 a0 14 = v := ⟨_, rfl⟩
                  rw [c810] at p478
                  replace hF := hF.neg (by omega)
                  replace hP := hP.neg (by omega)
                  replace hF := hF.neg (by omega)
                  replace hP := hP.neg (by omega)
                  replace hF := hF.pos (by omega)
                  replace hP := hP.pos (by omega)
                  refine tr_istore dX12_readCall_114 (by decide) (by decide) ?_
                  refine tr_aload_n dX12_readCall_116 rfl ?_
                  refine tr_ldcwS dX12_readCall_117 ld12_356 ?_
                  refine q_iconst dX12_readCall_120 (by decide) ?_
                  intro v811 h812
                  refine q_bipush dX12_readCall_121 (by decide +kernel) ?_
                  intro v813 h814
                  refine q_callVi hE (M' := mX12_readPart) (as := [_, _, _]) dX12_readCall_123 lk12_249 inX12_readPart seX12_readPart myX12_readPart (by decide) ⟨by decide, by decide⟩ rfl (kR15 hS441.1 ta0) (Nat.le_of_ble_eq_true rfl) rfl rfl (by decide) (by decide) (k_X12_readPart hS441.1 ta0 (by decide)) ?_
                  rintro v819 cn' K' N' I815 R816 L817 ⟨rfl, rfl, rfl, rfl, g818, p820, w821, -⟩
                  have hS822 := hS441.tr g818 (by decide +kernel) (by decide +kernel)
                  have c823 : I815 a1 5 = v49 := (g818.cell ta1 (by decide +kernel)).trans c442
                  have b824 : 0 ≤ v819.toInt ∧ v819.toInt ≤ 99 := by omega
                  clear p820
                  have hO825 : FrO 14 a1 T I0 I815 := hO443.st g818 (by decide +kernel)
                  have ov826 := w821.over (by rw [c805]; omega)
                  obtain ⟨v827, c828⟩ : ∃ v, I815 a0 9 = v := ⟨_, rfl⟩
                  have b829 := iv15_9 hS822.1 ta0 c828
                  obtain ⟨v830, c831⟩ : ∃ v, I815 a0 13 = v := ⟨_, rfl⟩
                  obtain ⟨v832, c833⟩ : ∃ v, I815 a0 14 = v := ⟨_, rfl⟩
                  (try rw [c828] at ov826)
                  (try rw [c831] at ov826)
                  (try rw [c833] at ov826)
                  (try rw [c805] at ov826)
                  (try rw [c808] at ov826)
                  (try rw [c810] at ov826)
                  refine tr_istore dX12_readCall_126 (by decide) (by decide) ?_
                  refine tr_aload_n dX12_readCall_128 rfl ?_
                  refine q_getI dX12_readCall_129 fl12_99 (kR15 hS822.1 ta0) c828 ?_
                  refine q_iconst dX12_readCall_132 (by decide) ?_
                  intro v834 h835
                  refine q_icmp_ne 137 dX12_readCall_133 (by decide) (fun h836 => ?_) (fun h836 => ?_)
                  · skip
                    exfalso; omega
                  · skip
                    have eF := hF.eq
                    have eP := hP.eq
                    obtain ⟨v837, c838⟩ : ∃ v, I815 a0 10 = v := ⟨_, rfl⟩
                    have b839 := iv15_10 hS822.1 ta0 c838
                    obtain ⟨v840, c841⟩ : ∃ v, I815 a0 11 = v := ⟨_, rfl⟩
                    obtain ⟨y842, c843⟩ : ∃ v, L817 a0 15 = v := ⟨_, rfl⟩
                    obtain ⟨v844, c845⟩ : ∃ v, I815 a0 12 = v := ⟨_, rfl⟩
                    obtain ⟨v846, c847⟩ : ∃ v, I815 a0 8 = v := ⟨_, rfl⟩
                    have b848 := iv15_8 hS822.1 ta0 c847
                    exact tr_vret hZ dX12_readCall_136 rfl (by decide) (by decide) ⟨rfl, rfl, rfl, rfl, rfl, hS822, (fun dr hd => (Option.some.inj (d2.symm.trans hd)) ▸ hO825), (Or.inr (⟨(by (try rw [w121]); first | done | with_reducible assumption | omega), (by (try rw [w121]); (try rw [c828]); first | done | with_reducible assumption | omega), (by (try rw [w121]); (try rw [c831]); first | done | with_reducible assumption | omega), (by (try rw [w121]); (try rw [c833]); first | done | with_reducible assumption | omega), trivial⟩)), trivial⟩
              · skip
                obtain ⟨v849, c850⟩ : ∃ v, I364 a0 9 = v := ⟨_, rfl⟩
                have b851 := iv15_9 hS372.1 ta0 c850
                rw [c850] at p392
                obtain ⟨v852, c853⟩ : ∃ v, I364 a0 13 = v := ⟨_, rfl⟩
                rw [c853] at p393
                obtain ⟨v854, c855⟩ : ∃ v, I364 a0 14 = v := ⟨_, rfl⟩
                rw [c855] at p394
                replace hF := hF.pos (by omega)
                replace hP := hP.pos (by omega)
                refine tr_istore_n dX12_readCall_103 (by decide) (by decide) ?_
                refine tr_aload_n dX12_readCall_104 rfl ?_
                refine tr_ldcwS dX12_readCall_105 ld12_354 ?_
                refine q_iconst dX12_readCall_108 (by decide) ?_
                intro v856 h857
                refine q_bipush dX12_readCall_109 (by decide +kernel) ?_
                intro v858 h859
                refine q_callVi hE (M' := mX12_readPart) (as := [_, _, _]) dX12_readCall_111 lk12_249 inX12_readPart seX12_readPart myX12_readPart (by decide) ⟨by decide, by decide⟩ rfl (kR15 hS372.1 ta0) (Nat.le_of_ble_eq_true rfl) rfl rfl (by decide) (by decide) (k_X12_readPart hS372.1 ta0 (by decide)) ?_
                rintro v864 cn' K' N' I860 R861 L862 ⟨rfl, rfl, rfl, rfl, g863, p865, w866, -⟩
                have hS867 := hS372.tr g863 (by decide +kernel) (by decide +kernel)
                have c868 : I860 a1 5 = v49 := (g863.cell ta1 (by decide +kernel)).trans c373
                have b869 : 1 ≤ v864.toInt ∧ v864.toInt ≤ 60 := by omega
                clear p865
                have hO870 : FrO 14 a1 T I0 I860 := hO374.st g863 (by decide +kernel)
                have ov871 := w866.over (by rw [c850]; omega)
                obtain ⟨v872, c873⟩ : ∃ v, I860 a0 9 = v := ⟨_, rfl⟩
                have b874 := iv15_9 hS867.1 ta0 c873
                obtain ⟨v875, c876⟩ : ∃ v, I860 a0 13 = v := ⟨_, rfl⟩
                obtain ⟨v877, c878⟩ : ∃ v, I860 a0 14 = v := ⟨_, rfl⟩
                (try rw [c873] at ov871)
                (try rw [c876] at ov871)
                (try rw [c878] at ov871)
                (try rw [c850] at ov871)
                (try rw [c853] at ov871)
                (try rw [c855] at ov871)
                refine tr_istore dX12_readCall_114 (by decide) (by decide) ?_
                refine tr_aload_n dX12_readCall_116 rfl ?_
                refine tr_ldcwS dX12_readCall_117 ld12_356 ?_
                refine q_iconst dX12_readCall_120 (by decide) ?_
                intro v879 h880
                refine q_bipush dX12_readCall_121 (by decide +kernel) ?_
                intro v881 h882
                refine q_callVi hE (M' := mX12_readPart) (as := [_, _, _]) dX12_readCall_123 lk12_249 inX12_readPart seX12_readPart myX12_readPart (by decide) ⟨by decide, by decide⟩ rfl (kR15 hS867.1 ta0) (Nat.le_of_ble_eq_true rfl) rfl rfl (by decide) (by decide) (k_X12_readPart hS867.1 ta0 (by decide)) ?_
                rintro v887 cn' K' N' I883 R884 L885 ⟨rfl, rfl, rfl, rfl, g886, p888, w889, -⟩
                have hS890 := hS867.tr g886 (by decide +kernel) (by decide +kernel)
                have c891 : I883 a1 5 = v49 := (g886.cell ta1 (by decide +kernel)).trans c868
                have b892 : 0 ≤ v887.toInt ∧ v887.toInt ≤ 99 := by omega
                clear p888
                have hO893 : FrO 14 a1 T I0 I883 := hO870.st g886 (by decide +kernel)
                have ov894 := w889.over (by rw [c873]; omega)
                obtain ⟨v895, c896⟩ : ∃ v, I883 a0 9 = v := ⟨_, rfl⟩
                have b897 := iv15_9 hS890.1 ta0 c896
                obtain ⟨v898, c899⟩ : ∃ v, I883 a0 13 = v := ⟨_, rfl⟩
                obtain ⟨v900, c901⟩ : ∃ v, I883 a0 14 = v := ⟨_, rfl⟩
                (try rw [c896] at ov894)
                (try rw [c899] at ov894)
                (try rw [c901] at ov894)
                (try rw [c873] at ov894)
                (try rw [c876] at ov894)
                (try rw [c878] at ov894)
                refine tr_istore dX12_readCall_126 (by decide) (by decide) ?_
                refine tr_aload_n dX12_readCall_128 rfl ?_
                refine q_getI dX12_readCall_129 fl12_99 (kR15 hS890.1 ta0) c896 ?_
                refine q_iconst dX12_readCall_132 (by decide) ?_
                intro v902 h903
                refine q_icmp_ne 137 dX12_readCall_133 (by decide) (fun h904 => ?_) (fun h904 => ?_)
                · skip
                  exfalso; omega
                · skip
                  have eF := hF.eq
                  have eP := hP.eq
                  obtain ⟨v905, c906⟩ : ∃ v, I883 a0 10 = v := ⟨_, rfl⟩
                  have b907 := iv15_10 hS890.1 ta0 c906
                  obtain ⟨v908, c909⟩ : ∃ v, I883 a0 11 = v := ⟨_, rfl⟩
                  obtain ⟨y910, c911⟩ : ∃ v, L885 a0 15 = v := ⟨_, rfl⟩
                  obtain ⟨v912, c913⟩ : ∃ v, I883 a0 12 = v := ⟨_, rfl⟩
                  obtain ⟨v914, c915⟩ : ∃ v, I883 a0 8 = v := ⟨_, rfl⟩
                  have b916 := iv15_8 hS890.1 ta0 c915
                  exact tr_vret hZ dX12_readCall_136 rfl (by decide) (by decide) ⟨rfl, rfl, rfl, rfl, rfl, hS890, (fun dr hd => (Option.some.inj (d2.symm.trans hd)) ▸ hO893), (Or.inr (⟨(by (try rw [w121]); first | done | with_reducible assumption | omega), (by (try rw [w121]); (try rw [c896]); first | done | with_reducible assumption | omega), (by (try rw [w121]); (try rw [c899]); first | done | with_reducible assumption | omega), (by (try rw [w121]); (try rw [c901]); first | done | with_reducible assumption | omega), trivial⟩)), trivial⟩
              · skip
                obtain ⟨v917, c918⟩ : ∃ v, I364 a0 9 = v := ⟨_, rfl⟩
                have b919 := iv15_9 hS372.1 ta0 c918
                rw [c918] at p399
                obtain ⟨v920, c921⟩ : ∃ v, I364 a0 13 = v := ⟨_, rfl⟩
                rw [c921] at p400
                obtain ⟨v922, c923⟩ : ∃ v, I364 a0 14 = v := ⟨_, rfl⟩
                rw [c923] at p401
                replace hF := hF.neg (by omega)
                replace hP := hP.neg (by omega)
                replace hF := hF.pos (by omega)
                replace hP := hP.pos (by omega)
                refine tr_istore_n dX12_readCall_103 (by decide) (by decide) ?_
                refine tr_aload_n dX12_readCall_104 rfl ?_
                refine tr_ldcwS dX12_readCall_105 ld12_354 ?_
                refine q_iconst dX12_readCall_108 (by decide) ?_
                intro v924 h925
                refine q_bipush dX12_readCall_109 (by decide +kernel) ?_
                intro v926 h927
                refine q_callVi hE (M' := mX12_readPart) (as := [_, _, _]) dX12_readCall_111 lk12_249 inX12_readPart seX12_readPart myX12_readPart (by decide) ⟨by decide, by decide⟩ rfl (kR15 hS372.1 ta0) (Nat.le_of_ble_eq_true rfl) rfl rfl (by decide) (by decide) (k_X12_readPart hS372.1 ta0 (by decide)) ?_
                rintro v932 cn' K' N' I928 R929 L930 ⟨rfl, rfl, rfl, rfl, g931, p933, w934, -⟩
                have hS935 := hS372.tr g931 (by decide +kernel) (by decide +kernel)
                have c936 : I928 a1 5 = v49 := (g931.cell ta1 (by decide +kernel)).trans c373
                have b937 : 1 ≤ v932.toInt ∧ v932.toInt ≤ 60 := by omega
                clear p933
                have hO938 : FrO 14 a1 T I0 I928 := hO374.st g931 (by decide +kernel)
                have ov939 := w934.over (by rw [c918]; omega)
                obtain ⟨v940, c941⟩ : ∃ v, I928 a0 9 = v := ⟨_, rfl⟩
                have b942 := iv15_9 hS935.1 ta0 c941
                obtain ⟨v943, c944⟩ : ∃ v, I928 a0 13 = v := ⟨_, rfl⟩
                obtain ⟨v945, c946⟩ : ∃ v, I928 a0 14 = v := ⟨_, rfl⟩
                (try rw [c941] at ov939)
                (try rw [c944] at ov939)
                (try rw [c946] at ov939)
                (try rw [c918] at ov939)
                (try rw [c921] at ov939)
                (try rw [c923] at ov939)
                refine tr_istore dX12_readCall_114 (by decide) (by decide) ?_
                refine tr_aload_n dX12_readCall_116 rfl ?_
                refine tr_ldcwS dX12_readCall_117 ld12_356 ?_
                refine q_iconst dX12_readCall_120 (by decide) ?_
                intro v947 h948
                refine q_bipush dX12_readCall_121 (by decide +kernel) ?_
                intro v949 h950
                refine q_callVi hE (M' := mX12_readPart) (as := [_, _, _]) dX12_readCall_123 lk12_249 inX12_readPart seX12_readPart myX12_readPart (by decide) ⟨by decide, by decide⟩ rfl (kR15 hS935.1 ta0) (Nat.le_of_ble_eq_true rfl) rfl rfl (by decide) (by decide) (k_X12_readPart hS935.1 ta0 (by decide)) ?_
                rintro v955 cn' K' N' I951 R952 L953 ⟨rfl, rfl, rfl, rfl, g954, p956, w957, -⟩
                have hS958 := hS935.tr g954 (by decide +kernel) (by decide +kernel)
                have c959 : I951 a1 5 = v49 := (g954.cell ta1 (by decide +kernel)).trans c936
                have b960 : 0 ≤ v955.toInt ∧ v955.toInt ≤ 99 := by omega
                clear p956
                have hO961 : FrO 14 a1 T I0 I951 := hO938.st g954 (by decide +kernel)
                have ov962 := w957.over (by rw [c941]; omega)
                obtain ⟨v963, c964⟩ : ∃ v, I951 a0 9 = v := ⟨_, rfl⟩
                have b965 := iv15_9 hS958.1 ta0 c964
                obtain ⟨v966, c967⟩ : ∃ v, I951 a0 13 = v := ⟨_, rfl⟩
                obtain ⟨v968, c969⟩ : ∃ v, I951 a0 14 = v := ⟨_, rfl⟩
                (try rw [c964] at ov962)
                (try rw [c967] at ov962)
                (try rw [c969] at ov962)
                (try rw [c941] at ov962)
                (try rw [c944] at ov962)
                (try rw [c946] at ov962)
                refine tr_istore dX12_readCall_126 (by decide) (by decide) ?_
                refine tr_aload_n dX12_readCall_128 rfl ?_
                refine q_getI dX12_readCall_129 fl12_99 (kR15 hS958.1 ta0) c964 ?_
                refine q_iconst dX12_readCall_132 (by decide) ?_
                intro v970 h971
                refine q_icmp_ne 137 dX12_readCall_133 (by decide) (fun h972 => ?_) (fun h972 => ?_)
                · skip
                  exfalso; omega
                · skip
                  have eF := hF.eq
                  have eP := hP.eq
                  obtain ⟨v973, c974⟩ : ∃ v, I951 a0 10 = v := ⟨_, rfl⟩
                  have b975 := iv15_10 hS958.1 ta0 c974
                  obtain ⟨v976, c977⟩ : ∃ v, I951 a0 11 = v := ⟨_, rfl⟩
                  obtain ⟨y978, c979⟩ : ∃ v, L953 a0 15 = v := ⟨_, rfl⟩
                  obtain ⟨v980, c981⟩ : ∃ v, I951 a0 12 = v := ⟨_, rfl⟩
                  obtain ⟨v982, c983⟩ : ∃ v, I951 a0 8 = v := ⟨_, rfl⟩
                  have b984 := iv15_8 hS958.1 ta0 c983
                  exact tr_vret hZ dX12_readCall_136 rfl (by decide) (by decide) ⟨rfl, rfl, rfl, rfl, rfl, hS958, (fun dr hd => (Option.some.inj (d2.symm.trans hd)) ▸ hO961), (Or.inr (⟨(by (try rw [w121]); first | done | with_reducible assumption | omega), (by (try rw [w121]); (try rw [c964]); first | done | with_reducible assumption | omega), (by (try rw [w121]); (try rw [c967]); first | done | with_reducible assumption | omega), (by (try rw [w121]); (try rw [c969]); first | done | with_reducible assumption | omega), trivial⟩)), trivial⟩
              · skip
                obtain ⟨v985, c986⟩ : ∃ v, I364 a0 9 = v := ⟨_, rfl⟩
                have b987 := iv15_9 hS372.1 ta0 c986
                rw [c986] at p407
                obtain ⟨v988, c989⟩ : ∃ v, I364 a0 13 = v := ⟨_, rfl⟩
                rw [c989] at p408
                obtain ⟨v990, c991⟩ : ∃ v, I364 a0 14 = v := ⟨_, rfl⟩
                rw [c991] at p409
                replace hF := hF.neg (by omega)
                replace hP := hP.neg (by omega)
                replace hF := hF.neg (by omega)
                replace hP := hP.neg (by omega)
                replace hF := hF.pos (by omega)
                replace hP := hP.pos (by omega)
                refine tr_istore_n dX12_readCall_103 (by decide) (by decide) ?_
                refine tr_aload_n dX12_readCall_104 rfl ?_
                refine tr_ldcwS dX12_readCall_105 ld12_354 ?_
                refine q_iconst dX12_readCall_108 (by decide) ?_
                intro v992 h993
                refine q_bipush dX12_readCall_109 (by decide +kernel) ?_
                intro v994 h995
                refine q_callVi hE (M' := mX12_readPart) (as := [_, _, _]) dX12_readCall_111 lk12_249 inX12_readPart seX12_readPart myX12_readPart (by decide) ⟨by decide, by decide⟩ rfl (kR15 hS372.1 ta0) (Nat.le_of_ble_eq_true rfl) rfl rfl (by decide) (by decide) (k_X12_readPart hS372.1 ta0 (by decide)) ?_
                rintro v1000 cn' K' N' I996 R997 L998 ⟨rfl, rfl, rfl, rfl, g999, p1001, w1002, -⟩
                have hS1003 := hS372.tr g999 (by decide +kernel) (by decide +kernel)
                have c1004 : I996 a1 5 = v49 := (g999.cell ta1 (by decide +kernel)).trans c373
                have b1005 : 1 ≤ v1000.toInt ∧ v1000.toInt ≤ 60 := by omega
                clear p1001
                have hO1006 : FrO 14 a1 T I0 I996 := hO374.st g999 (by decide +kernel)
                have ov1007 := w1002.over (by rw [c986]; omega)
                obtain ⟨v1008, c1009⟩ : ∃ v, I996 a0 9 = v := ⟨_, rfl⟩
                have b1010 := iv15_9 hS1003.1 ta0 c1009
                obtain ⟨v1011, c1012⟩ : ∃ v, I996 a0 13 = v := ⟨_, rfl⟩
                obtain ⟨v1013, c1014⟩ : ∃ v, I996 a0 14 = v := ⟨_, rfl⟩
                (try rw [c1009] at ov1007)
                (try rw [c1012] at ov1007)
                (try rw [c1014] at ov1007)
                (try rw [c986] at ov1007)
                (try rw [c989] at ov1007)
                (try rw [c991] at ov1007)
                refine tr_istore dX12_readCall_114 (by decide) (by decide) ?_
                refine tr_aload_n dX12_readCall_116 rfl ?_
                refine tr_ldcwS dX12_readCall_117 ld12_356 ?_
                refine q_iconst dX12_readCall_120 (by decide) ?_
                intro v1015 h1016
                refine q_bipush dX12_readCall_121 (by decide +kernel) ?_
                intro v1017 h1018
                refine q_callVi hE (M' := mX12_readPart) (as := [_, _, _]) dX12_readCall_123 lk12_249 inX12_readPart seX12_readPart myX12_readPart (by decide) ⟨by decide, by decide⟩ rfl (kR15 hS1003.1 ta0) (Nat.le_of_ble_eq_true rfl) rfl rfl (by decide) (by decide) (k_X12_readPart hS1003.1 ta0 (by decide)) ?_
                rintro v1023 cn' K' N' I1019 R1020 L1021 ⟨rfl, rfl, rfl, rfl, g1022, p1024, w1025, -⟩
                have hS1026 := hS1003.tr g1022 (by decide +kernel) (by decide +kernel)
                have c1027 : I1019 a1 5 = v49 := (g1022.cell ta1 (by decide +kernel)).trans c1004
                have b1028 : 0 ≤ v1023.toInt ∧ v1023.toInt ≤ 99 := by omega
                clear p1024
                have hO1029 : FrO 14 a1 T I0 I1019 := hO1006.st g1022 (by decide +kernel)
                have ov1030 := w1025.over (by rw [c1009]; omega)
                obtain ⟨v1031, c1032⟩ : ∃ v, I1019 a0 9 = v := ⟨_, rfl⟩
                have b1033 := iv15_9 hS1026.1 ta0 c1032
                obtain ⟨v1034, c1035⟩ : ∃ v, I1019 a0 13 = v := ⟨_, rfl⟩
                obtain ⟨v1036, c1037⟩ : ∃ v, I1019 a0 14 = v := ⟨_, rfl⟩
                (try rw [c1032] at ov1030)
                (try rw [c1035] at ov1030)
                (try rw [c1037] at ov1030)
                (try rw [c1009] at ov1030)
                (try rw [c1012] at ov1030)
                (try rw [c1014] at ov1030)
                refine tr_istore dX12_readCall_126 (by decide) (by decide) ?_
                refine tr_aload_n dX12_readCall_128 rfl ?_
                refine q_getI dX12_readCall_129 fl12_99 (kR15 hS1026.1 ta0) c1032 ?_
                refine q_iconst dX12_readCall_132 (by decide) ?_
                intro v1038 h1039
                refine q_icmp_ne 137 dX12_readCall_133 (by decide) (fun h1040 => ?_) (fun h1040 => ?_)
                · skip
                  exfalso; omega
                · skip
                  have eF := hF.eq
                  have eP := hP.eq
                  obtain ⟨v1041, c1042⟩ : ∃ v, I1019 a0 10 = v := ⟨_, rfl⟩
                  have b1043 := iv15_10 hS1026.1 ta0 c1042
                  obtain ⟨v1044, c1045⟩ : ∃ v, I1019 a0 11 = v := ⟨_, rfl⟩
                  obtain ⟨y1046, c1047⟩ : ∃ v, L1021 a0 15 = v := ⟨_, rfl⟩
                  obtain ⟨v1048, c1049⟩ : ∃ v, I1019 a0 12 = v := ⟨_, rfl⟩
                  obtain ⟨v1050, c1051⟩ : ∃ v, I1019 a0 8 = v := ⟨_, rfl⟩
                  have b1052 := iv15_8 hS1026.1 ta0 c1051
                  exact tr_vret hZ dX12_readCall_136 rfl (by decide) (by decide) ⟨rfl, rfl, rfl, rfl, rfl, hS1026, (fun dr hd => (Option.some.inj (d2.symm.trans hd)) ▸ hO1029), (Or.inr (⟨(by (try rw [w121]); first | done | with_reducible assumption | omega), (by (try rw [w121]); (try rw [c1032]); first | done | with_reducible assumption | omega), (by (try rw [w121]); (try rw [c1035]); first | done | with_reducible assumption | omega), (by (try rw [w121]); (try rw [c1037]); first | done | with_reducible assumption | omega), trivial⟩)), trivial⟩
            · skip
              exfalso; omega
          · skip
            replace hF := hF.pos (by omega)
            replace hP := hP.pos (by omega)
            refine tr_aload_n dX12_readCall_55 rfl ?_
            refine q_iconst dX12_readCall_56 (by decide) ?_
            intro v1053 h1054
            refine q_callVv hE (M' := mX12_flaw) (as := [_]) dX12_readCall_57 lk12_145 inX12_flaw seX12_flaw myX12_flaw (by decide) ⟨by decide, by decide⟩ rfl (kR15 hS76.1 ta0) (Nat.le_of_ble_eq_true rfl) rfl rfl (by decide) (by decide) (fk_X12_flaw hS76.1  ta0 (by omega) (by (try rw [c104]); first | done | with_reducible assumption | omega)) ?_
            rintro cn' K' N' I1055 R1056 L1057 ⟨rfl, rfl, rfl, rfl, rfl, g1058, p1061, p1062, p1063, -⟩
            have hM1064 : NmM I1055 R0 L70 a1 gQ := NmM.kpS hM100 g1058 hS76.1 ta1 (by decide +kernel) (by decide +kernel)
            have hS1065 := hS76.tr g1058 (by decide +kernel) (by decide +kernel)
            have c1066 : I1055 a1 5 = v49 := (g1058.cell ta1 (by decide +kernel)).trans c77
            have c1067 : I1055 a0 10 = v106 := (g1058.cell ta0 (by decide +kernel)).trans c107
            have c1068 : I1055 a0 11 = v109 := (g1058.cell ta0 (by decide +kernel)).trans c110
            have c1069 : I1055 a0 12 = v113 := (g1058.cell ta0 (by decide +kernel)).trans c114
            have c1070 : I1055 a0 8 = v115 := (g1058.cell ta0 (by decide +kernel)).trans c116
            have hO1071 : FrO 14 a1 T I0 I1055 := hO78.st g1058 (by decide +kernel)
            obtain ⟨v1072, c1073⟩ : ∃ v, I1055 a0 9 = v := ⟨_, rfl⟩
            have b1074 := iv15_9 hS1065.1 ta0 c1073
            rw [c1073] at p1061
            obtain ⟨v1075, c1076⟩ : ∃ v, I1055 a0 13 = v := ⟨_, rfl⟩
            rw [c1076] at p1062
            obtain ⟨v1077, c1078⟩ : ∃ v, I1055 a0 14 = v := ⟨_, rfl⟩
            rw [c1078] at p1063
            rw [c107] at p1063
            refine tr_aload_n dX12_readCall_60 rfl ?_
            refine q_getI dX12_readCall_61 fl12_99 (kR15 hS1065.1 ta0) c1073 ?_
            refine q_iconst dX12_readCall_64 (by decide) ?_
            intro v1079 h1080
            refine q_icmp_ne 72 dX12_readCall_65 (by decide) (fun h1081 => ?_) (fun h1081 => ?_)
            · skip
              exfalso; omega
            · skip
              refine q_iconst dX12_readCall_68 (by decide) ?_
              intro v1082 h1083
              refine tr_goto 81 dX12_readCall_69 (by decide) ?_
              refine tr_istore_n dX12_readCall_81 (by decide) (by decide) ?_
              refine tr_aload_n dX12_readCall_82 rfl ?_
              refine q_callVv hE (M' := mX12_goesOn) (as := []) dX12_readCall_83 lk12_142 inX12_goesOn seX12_goesOn myX12_goesOn (by decide) ⟨by decide, by decide⟩ rfl (kR15 hS1065.1 ta0) (Nat.le_of_ble_eq_true rfl) rfl rfl (by decide) (by decide) (k_X12_goesOn hS1065.1 ta0) ?_
              rintro cn' K' N' I1084 R1085 L1086 ⟨rfl, rfl, rfl, rfl, g1087, p1089, p1090, p1091, w1092, -⟩
              have hS1093 := hS1065.tr g1087 (by decide +kernel) (by decide +kernel)
              have c1094 : I1084 a1 5 = v49 := (g1087.cell ta1 (by decide +kernel)).trans c1066
              have c1095 : I1084 a0 13 = v1075 := (g1087.cell ta0 (by decide +kernel)).trans c1076
              have c1096 : I1084 a0 14 = v1077 := (g1087.cell ta0 (by decide +kernel)).trans c1078
              obtain ⟨v1097, c1098⟩ : ∃ v, I1084 a0 9 = v := ⟨_, rfl⟩
              have b1099 := iv15_9 hS1093.1 ta0 c1098
              rw [c1073] at p1089
              rw [c1098] at p1089
              rw [c1073] at p1090
              rw [c1098] at p1090
              obtain ⟨v1100, c1101⟩ : ∃ v, I1084 a0 8 = v := ⟨_, rfl⟩
              have b1102 := iv15_8 hS1093.1 ta0 c1101
              rw [c1101] at p1091
              rw [c1070] at p1091
              rw [c1095] at p1091
              rw [c1076] at p1091
              have hO1103 : FrO 14 a1 T I0 I1084 := hO1071.st g1087 (by decide +kernel)
              have ov1104 := w1092.over (by rw [c1073]; omega)
              obtain ⟨v1105, c1106⟩ : ∃ v, I1084 a0 9 = v := ⟨_, rfl⟩
              have b1107 := iv15_9 hS1093.1 ta0 c1106
              obtain ⟨v1108, c1109⟩ : ∃ v, I1084 a0 13 = v := ⟨_, rfl⟩
              obtain ⟨v1110, c1111⟩ : ∃ v, I1084 a0 14 = v := ⟨_, rfl⟩
              (try rw [c1106] at ov1104)
              (try rw [c1109] at ov1104)
              (try rw [c1111] at ov1104)
              (try rw [c1073] at ov1104)
              (try rw [c1076] at ov1104)
              (try rw [c1078] at ov1104)
              refine tr_aload_n dX12_readCall_86 rfl ?_
              refine tr_ldcwS dX12_readCall_87 ld12_352 ?_
              refine q_iconst dX12_readCall_90 (by decide) ?_
              intro v1112 h1113
              refine tr_aload_n dX12_readCall_91 rfl ?_
              refine tr_getR dX12_readCall_92 fl12_188 (kR15 hS1093.1 ta0) d2 ?_
              refine q_getI dX12_readCall_95 fl12_192 (kR14 hS1093.1 ta1) ((hS1093.cell ta1 (by decide +kernel)).trans c30) ?_
              refine q_iconst dX12_readCall_98 (by decide) ?_
              intro v1114 h1115
              refine q_isubE dX12_readCall_99 (by intros; omega) ?_
              intro v1116 h1117
              refine q_callVi hE (M' := mX12_readPart) (as := [_, _, _]) dX12_readCall_100 lk12_249 inX12_readPart seX12_readPart myX12_readPart (by decide) ⟨by decide, by decide⟩ rfl (kR15 hS1093.1 ta0) (Nat.le_of_ble_eq_true rfl) rfl rfl (by decide) (by decide) (k_X12_readPart hS1093.1 ta0 (by decide)) ?_
              rintro v1122 cn' K' N' I1118 R1119 L1120 ⟨rfl, rfl, rfl, rfl, g1121, p1123, w1124, -⟩
              have hS1125 := hS1093.tr g1121 (by decide +kernel) (by decide +kernel)
              have c1126 : I1118 a1 5 = v49 := (g1121.cell ta1 (by decide +kernel)).trans c1094
              have b1127 : 0 ≤ v1122.toInt ∧ v1122.toInt ≤ 239 := by omega
              clear p1123
              have hO1128 : FrO 14 a1 T I0 I1118 := hO1103.st g1121 (by decide +kernel)
              have ov1129 := w1124.over (by rw [c1106]; omega)
              obtain ⟨v1130, c1131⟩ : ∃ v, I1118 a0 9 = v := ⟨_, rfl⟩
              have b1132 := iv15_9 hS1125.1 ta0 c1131
              obtain ⟨v1133, c1134⟩ : ∃ v, I1118 a0 13 = v := ⟨_, rfl⟩
              obtain ⟨v1135, c1136⟩ : ∃ v, I1118 a0 14 = v := ⟨_, rfl⟩
              (try rw [c1131] at ov1129)
              (try rw [c1134] at ov1129)
              (try rw [c1136] at ov1129)
              (try rw [c1106] at ov1129)
              (try rw [c1109] at ov1129)
              (try rw [c1111] at ov1129)
              refine tr_istore_n dX12_readCall_103 (by decide) (by decide) ?_
              refine tr_aload_n dX12_readCall_104 rfl ?_
              refine tr_ldcwS dX12_readCall_105 ld12_354 ?_
              refine q_iconst dX12_readCall_108 (by decide) ?_
              intro v1137 h1138
              refine q_bipush dX12_readCall_109 (by decide +kernel) ?_
              intro v1139 h1140
              refine q_callVi hE (M' := mX12_readPart) (as := [_, _, _]) dX12_readCall_111 lk12_249 inX12_readPart seX12_readPart myX12_readPart (by decide) ⟨by decide, by decide⟩ rfl (kR15 hS1125.1 ta0) (Nat.le_of_ble_eq_true rfl) rfl rfl (by decide) (by decide) (k_X12_readPart hS1125.1 ta0 (by decide)) ?_
              rintro v1145 cn' K' N' I1141 R1142 L1143 ⟨rfl, rfl, rfl, rfl, g1144, p1146, w1147, -⟩
              have hS1148 := hS1125.tr g1144 (by decide +kernel) (by decide +kernel)
              have c1149 : I1141 a1 5 = v49 := (g1144.cell ta1 (by decide +kernel)).trans c1126
              have b1150 : 1 ≤ v1145.toInt ∧ v1145.toInt ≤ 60 := by omega
              clear p1146
              have hO1151 : FrO 14 a1 T I0 I1141 := hO1128.st g1144 (by decide +kernel)
              have ov1152 := w1147.over (by rw [c1131]; omega)
              obtain ⟨v1153, c1154⟩ : ∃ v, I1141 a0 9 = v := ⟨_, rfl⟩
              have b1155 := iv15_9 hS1148.1 ta0 c1154
              obtain ⟨v1156, c1157⟩ : ∃ v, I1141 a0 13 = v := ⟨_, rfl⟩
              obtain ⟨v1158, c1159⟩ : ∃ v, I1141 a0 14 = v := ⟨_, rfl⟩
              (try rw [c1154] at ov1152)
              (try rw [c1157] at ov1152)
              (try rw [c1159] at ov1152)
              (try rw [c1131] at ov1152)
              (try rw [c1134] at ov1152)
              (try rw [c1136] at ov1152)
              refine tr_istore dX12_readCall_114 (by decide) (by decide) ?_
              refine tr_aload_n dX12_readCall_116 rfl ?_
              refine tr_ldcwS dX12_readCall_117 ld12_356 ?_
              refine q_iconst dX12_readCall_120 (by decide) ?_
              intro v1160 h1161
              refine q_bipush dX12_readCall_121 (by decide +kernel) ?_
              intro v1162 h1163
              refine q_callVi hE (M' := mX12_readPart) (as := [_, _, _]) dX12_readCall_123 lk12_249 inX12_readPart seX12_readPart myX12_readPart (by decide) ⟨by decide, by decide⟩ rfl (kR15 hS1148.1 ta0) (Nat.le_of_ble_eq_true rfl) rfl rfl (by decide) (by decide) (k_X12_readPart hS1148.1 ta0 (by decide)) ?_
              rintro v1168 cn' K' N' I1164 R1165 L1166 ⟨rfl, rfl, rfl, rfl, g1167, p1169, w1170, -⟩
              have hS1171 := hS1148.tr g1167 (by decide +kernel) (by decide +kernel)
              have c1172 : I1164 a1 5 = v49 := (g1167.cell ta1 (by decide +kernel)).trans c1149
              have b1173 : 0 ≤ v1168.toInt ∧ v1168.toInt ≤ 99 := by omega
              clear p1169
              have hO1174 : FrO 14 a1 T I0 I1164 := hO1151.st g1167 (by decide +kernel)
              have ov1175 := w1170.over (by rw [c1154]; omega)
              obtain ⟨v1176, c1177⟩ : ∃ v, I1164 a0 9 = v := ⟨_, rfl⟩
              have b1178 := iv15_9 hS1171.1 ta0 c1177
              obtain ⟨v1179, c1180⟩ : ∃ v, I1164 a0 13 = v := ⟨_, rfl⟩
              obtain ⟨v1181, c1182⟩ : ∃ v, I1164 a0 14 = v := ⟨_, rfl⟩
              (try rw [c1177] at ov1175)
              (try rw [c1180] at ov1175)
              (try rw [c1182] at ov1175)
              (try rw [c1154] at ov1175)
              (try rw [c1157] at ov1175)
              (try rw [c1159] at ov1175)
              refine tr_istore dX12_readCall_126 (by decide) (by decide) ?_
              refine tr_aload_n dX12_readCall_128 rfl ?_
              refine q_getI dX12_readCall_129 fl12_99 (kR15 hS1171.1 ta0) c1177 ?_
              refine q_iconst dX12_readCall_132 (by decide) ?_
              intro v1183 h1184
              refine q_icmp_ne 137 dX12_readCall_133 (by decide) (fun h1185 => ?_) (fun h1185 => ?_)
              · skip
                exfalso; omega
              · skip
                have eF := hF.eq
                have eP := hP.eq
                obtain ⟨v1186, c1187⟩ : ∃ v, I1164 a0 10 = v := ⟨_, rfl⟩
                have b1188 := iv15_10 hS1171.1 ta0 c1187
                obtain ⟨v1189, c1190⟩ : ∃ v, I1164 a0 11 = v := ⟨_, rfl⟩
                obtain ⟨y1191, c1192⟩ : ∃ v, L1166 a0 15 = v := ⟨_, rfl⟩
                obtain ⟨v1193, c1194⟩ : ∃ v, I1164 a0 12 = v := ⟨_, rfl⟩
                obtain ⟨v1195, c1196⟩ : ∃ v, I1164 a0 8 = v := ⟨_, rfl⟩
                have b1197 := iv15_8 hS1171.1 ta0 c1196
                exact tr_vret hZ dX12_readCall_136 rfl (by decide) (by decide) ⟨rfl, rfl, rfl, rfl, rfl, hS1171, (fun dr hd => (Option.some.inj (d2.symm.trans hd)) ▸ hO1174), (Or.inr (⟨(by (try rw [w121]); first | done | with_reducible assumption | omega), (by (try rw [w121]); (try rw [c1177]); first | done | with_reducible assumption | omega), (by (try rw [w121]); (try rw [c1180]); first | done | with_reducible assumption | omega), (by (try rw [w121]); (try rw [c1182]); first | done | with_reducible assumption | omega), trivial⟩)), trivial⟩
      · skip
        exfalso; omega
    · skip
      replace hF := hF.pos (by omega)
      replace hP := hP.pos (by omega)
      refine q_if_ne 25 dX12_readCall_17 (by decide) (fun h1198 => ?_) (fun h1198 => ?_)
      · skip
        exfalso; omega
      · skip
        refine tr_aload_n dX12_readCall_20 rfl ?_
        refine q_iconst dX12_readCall_21 (by decide) ?_
        intro v1199 h1200
        refine q_callVv hE (M' := mX12_flaw) (as := [_]) dX12_readCall_22 lk12_145 inX12_flaw seX12_flaw myX12_flaw (by decide) ⟨by decide, by decide⟩ rfl (kR15 hS76.1 ta0) (Nat.le_of_ble_eq_true rfl) rfl rfl (by decide) (by decide) (fk_X12_flaw hS76.1  ta0 (by omega) (by (try rw [c104]); first | done | with_reducible assumption | omega)) ?_
        rintro cn' K' N' I1201 R1202 L1203 ⟨rfl, rfl, rfl, rfl, rfl, g1204, p1207, p1208, p1209, -⟩
        have hM1210 : NmM I1201 R0 L70 a1 gQ := NmM.kpS hM100 g1204 hS76.1 ta1 (by decide +kernel) (by decide +kernel)
        have hS1211 := hS76.tr g1204 (by decide +kernel) (by decide +kernel)
        have c1212 : I1201 a1 5 = v49 := (g1204.cell ta1 (by decide +kernel)).trans c77
        have c1213 : I1201 a0 10 = v106 := (g1204.cell ta0 (by decide +kernel)).trans c107
        have c1214 : I1201 a0 11 = v109 := (g1204.cell ta0 (by decide +kernel)).trans c110
        have c1215 : I1201 a0 12 = v113 := (g1204.cell ta0 (by decide +kernel)).trans c114
        have c1216 : I1201 a0 8 = v115 := (g1204.cell ta0 (by decide +kernel)).trans c116
        have hO1217 : FrO 14 a1 T I0 I1201 := hO78.st g1204 (by decide +kernel)
        obtain ⟨v1218, c1219⟩ : ∃ v, I1201 a0 9 = v := ⟨_, rfl⟩
        have b1220 := iv15_9 hS1211.1 ta0 c1219
        rw [c1219] at p1207
        obtain ⟨v1221, c1222⟩ : ∃ v, I1201 a0 13 = v := ⟨_, rfl⟩
        rw [c1222] at p1208
        obtain ⟨v1223, c1224⟩ : ∃ v, I1201 a0 14 = v := ⟨_, rfl⟩
        rw [c1224] at p1209
        rw [c107] at p1209
        refine tr_aload_n dX12_readCall_25 rfl ?_
        refine tr_getR dX12_readCall_26 fl12_188 (kR15 hS1211.1 ta0) d2 ?_
        refine tr_aload_n dX12_readCall_29 rfl ?_
        refine q_getLE dX12_readCall_30 fl12_118 (kR15 hS1211.1 ta0) c112 ?_
        refine q_callVi hE (M' := mX11_find) (as := [_]) dX12_readCall_33 lk12_201 inX11_find seX11_find myX11_find (by decide) ⟨by decide, by decide⟩ rfl (kR14 hS1211.1 ta1) (Nat.le_of_ble_eq_true rfl) rfl rfl (by decide) (by decide) (k_X11_find hS1211.1 ta1) ?_
        rintro v1229 cn' K' N' I1225 R1226 L1227 ⟨rfl, rfl, rfl, rfl, rfl, rfl, h1230, -⟩
        refine tr_istore_n dX12_readCall_36 (by decide) (by decide) ?_
        refine tr_iload_n dX12_readCall_37 rfl ?_
        refine q_iconst dX12_readCall_38 (by decide) ?_
        intro v1231 h1232
        refine q_icmp_eq 55 dX12_readCall_39 (by decide) (fun h1233 => ?_) (fun h1233 => ?_)
        · skip
          refine tr_aload_n dX12_readCall_55 rfl ?_
          refine q_iconst dX12_readCall_56 (by decide) ?_
          intro v1234 h1235
          refine q_callVv hE (M' := mX12_flaw) (as := [_]) dX12_readCall_57 lk12_145 inX12_flaw seX12_flaw myX12_flaw (by decide) ⟨by decide, by decide⟩ rfl (kR15 hS1211.1 ta0) (Nat.le_of_ble_eq_true rfl) rfl rfl (by decide) (by decide) (k_X12_flaw hS1211.1 ta0 (by omega)) ?_
          rintro cn' K' N' I1236 R1237 L1238 ⟨rfl, rfl, rfl, rfl, rfl, g1239, p1241, p1242, w1243, -⟩
          have hS1244 := hS1211.tr g1239 (by decide +kernel) (by decide +kernel)
          have c1245 : I1236 a1 5 = v49 := (g1239.cell ta1 (by decide +kernel)).trans c1212
          have c1246 : I1236 a0 10 = v106 := (g1239.cell ta0 (by decide +kernel)).trans c1213
          have c1247 : I1236 a0 11 = v109 := (g1239.cell ta0 (by decide +kernel)).trans c1214
          have c1248 : I1236 a0 12 = v113 := (g1239.cell ta0 (by decide +kernel)).trans c1215
          have c1249 : I1236 a0 8 = v115 := (g1239.cell ta0 (by decide +kernel)).trans c1216
          obtain ⟨v1250, c1251⟩ : ∃ v, I1236 a0 9 = v := ⟨_, rfl⟩
          have b1252 := iv15_9 hS1244.1 ta0 c1251
          rw [c1251] at p1241
          rw [c1249] at p1242
          rw [c1216] at p1242
          have hO1253 : FrO 14 a1 T I0 I1236 := hO1217.st g1239 (by decide +kernel)
          have ov1254 := w1243.over (by rw [c1219]; omega)
          obtain ⟨v1255, c1256⟩ : ∃ v, I1236 a0 9 = v := ⟨_, rfl⟩
          have b1257 := iv15_9 hS1244.1 ta0 c1256
          obtain ⟨v1258, c1259⟩ : ∃ v, I1236 a0 13 = v := ⟨_, rfl⟩
          obtain ⟨v1260, c1261⟩ : ∃ v, I1236 a0 14 = v := ⟨_, rfl⟩
          (try rw [c1256] at ov1254)
          (try rw [c1259] at ov1254)
          (try rw [c1261] at ov1254)
          (try rw [c1219] at ov1254)
          (try rw [c1222] at ov1254)
          (try rw [c1224] at ov1254)
          refine tr_aload_n dX12_readCall_60 rfl ?_
          refine q_getI dX12_readCall_61 fl12_99 (kR15 hS1244.1 ta0) c1256 ?_
          refine q_iconst dX12_readCall_64 (by decide) ?_
          intro v1262 h1263
          refine q_icmp_ne 72 dX12_readCall_65 (by decide) (fun h1264 => ?_) (fun h1264 => ?_)
          · skip
            exfalso; omega
          · skip
            refine q_iconst dX12_readCall_68 (by decide) ?_
            intro v1265 h1266
            refine tr_goto 81 dX12_readCall_69 (by decide) ?_
            refine tr_istore_n dX12_readCall_81 (by decide) (by decide) ?_
            refine tr_aload_n dX12_readCall_82 rfl ?_
            refine q_callVv hE (M' := mX12_goesOn) (as := []) dX12_readCall_83 lk12_142 inX12_goesOn seX12_goesOn myX12_goesOn (by decide) ⟨by decide, by decide⟩ rfl (kR15 hS1244.1 ta0) (Nat.le_of_ble_eq_true rfl) rfl rfl (by decide) (by decide) (k_X12_goesOn hS1244.1 ta0) ?_
            rintro cn' K' N' I1267 R1268 L1269 ⟨rfl, rfl, rfl, rfl, g1270, p1272, p1273, p1274, w1275, -⟩
            have hS1276 := hS1244.tr g1270 (by decide +kernel) (by decide +kernel)
            have c1277 : I1267 a1 5 = v49 := (g1270.cell ta1 (by decide +kernel)).trans c1245
            have c1278 : I1267 a0 13 = v1258 := (g1270.cell ta0 (by decide +kernel)).trans c1259
            have c1279 : I1267 a0 14 = v1260 := (g1270.cell ta0 (by decide +kernel)).trans c1261
            obtain ⟨v1280, c1281⟩ : ∃ v, I1267 a0 9 = v := ⟨_, rfl⟩
            have b1282 := iv15_9 hS1276.1 ta0 c1281
            rw [c1256] at p1272
            rw [c1281] at p1272
            rw [c1256] at p1273
            rw [c1281] at p1273
            obtain ⟨v1283, c1284⟩ : ∃ v, I1267 a0 8 = v := ⟨_, rfl⟩
            have b1285 := iv15_8 hS1276.1 ta0 c1284
            rw [c1284] at p1274
            rw [c1249] at p1274
            rw [c1278] at p1274
            rw [c1259] at p1274
            have hO1286 : FrO 14 a1 T I0 I1267 := hO1253.st g1270 (by decide +kernel)
            have ov1287 := w1275.over (by rw [c1256]; omega)
            obtain ⟨v1288, c1289⟩ : ∃ v, I1267 a0 9 = v := ⟨_, rfl⟩
            have b1290 := iv15_9 hS1276.1 ta0 c1289
            obtain ⟨v1291, c1292⟩ : ∃ v, I1267 a0 13 = v := ⟨_, rfl⟩
            obtain ⟨v1293, c1294⟩ : ∃ v, I1267 a0 14 = v := ⟨_, rfl⟩
            (try rw [c1289] at ov1287)
            (try rw [c1292] at ov1287)
            (try rw [c1294] at ov1287)
            (try rw [c1256] at ov1287)
            (try rw [c1259] at ov1287)
            (try rw [c1261] at ov1287)
            refine tr_aload_n dX12_readCall_86 rfl ?_
            refine tr_ldcwS dX12_readCall_87 ld12_352 ?_
            refine q_iconst dX12_readCall_90 (by decide) ?_
            intro v1295 h1296
            refine tr_aload_n dX12_readCall_91 rfl ?_
            refine tr_getR dX12_readCall_92 fl12_188 (kR15 hS1276.1 ta0) d2 ?_
            refine q_getI dX12_readCall_95 fl12_192 (kR14 hS1276.1 ta1) ((hS1276.cell ta1 (by decide +kernel)).trans c30) ?_
            refine q_iconst dX12_readCall_98 (by decide) ?_
            intro v1297 h1298
            refine q_isubE dX12_readCall_99 (by intros; omega) ?_
            intro v1299 h1300
            refine q_callVi hE (M' := mX12_readPart) (as := [_, _, _]) dX12_readCall_100 lk12_249 inX12_readPart seX12_readPart myX12_readPart (by decide) ⟨by decide, by decide⟩ rfl (kR15 hS1276.1 ta0) (Nat.le_of_ble_eq_true rfl) rfl rfl (by decide) (by decide) (k_X12_readPart hS1276.1 ta0 (by decide)) ?_
            rintro v1305 cn' K' N' I1301 R1302 L1303 ⟨rfl, rfl, rfl, rfl, g1304, p1306, w1307, -⟩
            have hS1308 := hS1276.tr g1304 (by decide +kernel) (by decide +kernel)
            have c1309 : I1301 a1 5 = v49 := (g1304.cell ta1 (by decide +kernel)).trans c1277
            have b1310 : 0 ≤ v1305.toInt ∧ v1305.toInt ≤ 239 := by omega
            clear p1306
            have hO1311 : FrO 14 a1 T I0 I1301 := hO1286.st g1304 (by decide +kernel)
            have ov1312 := w1307.over (by rw [c1289]; omega)
            obtain ⟨v1313, c1314⟩ : ∃ v, I1301 a0 9 = v := ⟨_, rfl⟩
            have b1315 := iv15_9 hS1308.1 ta0 c1314
            obtain ⟨v1316, c1317⟩ : ∃ v, I1301 a0 13 = v := ⟨_, rfl⟩
            obtain ⟨v1318, c1319⟩ : ∃ v, I1301 a0 14 = v := ⟨_, rfl⟩
            (try rw [c1314] at ov1312)
            (try rw [c1317] at ov1312)
            (try rw [c1319] at ov1312)
            (try rw [c1289] at ov1312)
            (try rw [c1292] at ov1312)
            (try rw [c1294] at ov1312)
            refine tr_istore_n dX12_readCall_103 (by decide) (by decide) ?_
            refine tr_aload_n dX12_readCall_104 rfl ?_
            refine tr_ldcwS dX12_readCall_105 ld12_354 ?_
            refine q_iconst dX12_readCall_108 (by decide) ?_
            intro v1320 h1321
            refine q_bipush dX12_readCall_109 (by decide +kernel) ?_
            intro v1322 h1323
            refine q_callVi hE (M' := mX12_readPart) (as := [_, _, _]) dX12_readCall_111 lk12_249 inX12_readPart seX12_readPart myX12_readPart (by decide) ⟨by decide, by decide⟩ rfl (kR15 hS1308.1 ta0) (Nat.le_of_ble_eq_true rfl) rfl rfl (by decide) (by decide) (k_X12_readPart hS1308.1 ta0 (by decide)) ?_
            rintro v1328 cn' K' N' I1324 R1325 L1326 ⟨rfl, rfl, rfl, rfl, g1327, p1329, w1330, -⟩
            have hS1331 := hS1308.tr g1327 (by decide +kernel) (by decide +kernel)
            have c1332 : I1324 a1 5 = v49 := (g1327.cell ta1 (by decide +kernel)).trans c1309
            have b1333 : 1 ≤ v1328.toInt ∧ v1328.toInt ≤ 60 := by omega
            clear p1329
            have hO1334 : FrO 14 a1 T I0 I1324 := hO1311.st g1327 (by decide +kernel)
            have ov1335 := w1330.over (by rw [c1314]; omega)
            obtain ⟨v1336, c1337⟩ : ∃ v, I1324 a0 9 = v := ⟨_, rfl⟩
            have b1338 := iv15_9 hS1331.1 ta0 c1337
            obtain ⟨v1339, c1340⟩ : ∃ v, I1324 a0 13 = v := ⟨_, rfl⟩
            obtain ⟨v1341, c1342⟩ : ∃ v, I1324 a0 14 = v := ⟨_, rfl⟩
            (try rw [c1337] at ov1335)
            (try rw [c1340] at ov1335)
            (try rw [c1342] at ov1335)
            (try rw [c1314] at ov1335)
            (try rw [c1317] at ov1335)
            (try rw [c1319] at ov1335)
            refine tr_istore dX12_readCall_114 (by decide) (by decide) ?_
            refine tr_aload_n dX12_readCall_116 rfl ?_
            refine tr_ldcwS dX12_readCall_117 ld12_356 ?_
            refine q_iconst dX12_readCall_120 (by decide) ?_
            intro v1343 h1344
            refine q_bipush dX12_readCall_121 (by decide +kernel) ?_
            intro v1345 h1346
            refine q_callVi hE (M' := mX12_readPart) (as := [_, _, _]) dX12_readCall_123 lk12_249 inX12_readPart seX12_readPart myX12_readPart (by decide) ⟨by decide, by decide⟩ rfl (kR15 hS1331.1 ta0) (Nat.le_of_ble_eq_true rfl) rfl rfl (by decide) (by decide) (k_X12_readPart hS1331.1 ta0 (by decide)) ?_
            rintro v1351 cn' K' N' I1347 R1348 L1349 ⟨rfl, rfl, rfl, rfl, g1350, p1352, w1353, -⟩
            have hS1354 := hS1331.tr g1350 (by decide +kernel) (by decide +kernel)
            have c1355 : I1347 a1 5 = v49 := (g1350.cell ta1 (by decide +kernel)).trans c1332
            have b1356 : 0 ≤ v1351.toInt ∧ v1351.toInt ≤ 99 := by omega
            clear p1352
            have hO1357 : FrO 14 a1 T I0 I1347 := hO1334.st g1350 (by decide +kernel)
            have ov1358 := w1353.over (by rw [c1337]; omega)
            obtain ⟨v1359, c1360⟩ : ∃ v, I1347 a0 9 = v := ⟨_, rfl⟩
            have b1361 := iv15_9 hS1354.1 ta0 c1360
            obtain ⟨v1362, c1363⟩ : ∃ v, I1347 a0 13 = v := ⟨_, rfl⟩
            obtain ⟨v1364, c1365⟩ : ∃ v, I1347 a0 14 = v := ⟨_, rfl⟩
            (try rw [c1360] at ov1358)
            (try rw [c1363] at ov1358)
            (try rw [c1365] at ov1358)
            (try rw [c1337] at ov1358)
            (try rw [c1340] at ov1358)
            (try rw [c1342] at ov1358)
            refine tr_istore dX12_readCall_126 (by decide) (by decide) ?_
            refine tr_aload_n dX12_readCall_128 rfl ?_
            refine q_getI dX12_readCall_129 fl12_99 (kR15 hS1354.1 ta0) c1360 ?_
            refine q_iconst dX12_readCall_132 (by decide) ?_
            intro v1366 h1367
            refine q_icmp_ne 137 dX12_readCall_133 (by decide) (fun h1368 => ?_) (fun h1368 => ?_)
            · skip
              exfalso; omega
            · skip
              have eF := hF.eq
              have eP := hP.eq
              obtain ⟨v1369, c1370⟩ : ∃ v, I1347 a0 10 = v := ⟨_, rfl⟩
              have b1371 := iv15_10 hS1354.1 ta0 c1370
              obtain ⟨v1372, c1373⟩ : ∃ v, I1347 a0 11 = v := ⟨_, rfl⟩
              obtain ⟨y1374, c1375⟩ : ∃ v, L1349 a0 15 = v := ⟨_, rfl⟩
              obtain ⟨v1376, c1377⟩ : ∃ v, I1347 a0 12 = v := ⟨_, rfl⟩
              obtain ⟨v1378, c1379⟩ : ∃ v, I1347 a0 8 = v := ⟨_, rfl⟩
              have b1380 := iv15_8 hS1354.1 ta0 c1379
              exact tr_vret hZ dX12_readCall_136 rfl (by decide) (by decide) ⟨rfl, rfl, rfl, rfl, rfl, hS1354, (fun dr hd => (Option.some.inj (d2.symm.trans hd)) ▸ hO1357), (Or.inr (⟨(by (try rw [w121]); first | done | with_reducible assumption | omega), (by (try rw [w121]); (try rw [c1360]); first | done | with_reducible assumption | omega), (by (try rw [w121]); (try rw [c1363]); first | done | with_reducible assumption | omega), (by (try rw [w121]); (try rw [c1365]); first | done | with_reducible assumption | omega), trivial⟩)), trivial⟩
        · skip
          refine tr_aload_n dX12_readCall_42 rfl ?_
          refine tr_getR dX12_readCall_43 fl12_188 (kR15 hS1211.1 ta0) d2 ?_
          obtain ⟨a1381, d1382, ta1381⟩ := rf14_31 hW0 ta1
          refine tr_getR dX12_readCall_46 fl12_212 (kR14 hS1211.1 ta1) d1382 ?_
          refine tr_iload_n dX12_readCall_49 rfl ?_
          refine q_iald dX12_readCall_50 (kR74 hS1211.1 ta1381) (ti_in (nR74 hS1211.1 ta1381) (by omega) (by omega)) ?_
          intro v1383 c1384
          refine q_iconst dX12_readCall_51 (by decide) ?_
          intro v1385 h1386
          refine q_icmp_eq 60 dX12_readCall_52 (by decide) (fun h1387 => ?_) (fun h1387 => ?_)
          · skip
            refine tr_aload_n dX12_readCall_60 rfl ?_
            refine q_getI dX12_readCall_61 fl12_99 (kR15 hS1211.1 ta0) c1219 ?_
            refine q_iconst dX12_readCall_64 (by decide) ?_
            intro v1388 h1389
            refine q_icmp_ne 72 dX12_readCall_65 (by decide) (fun h1390 => ?_) (fun h1390 => ?_)
            · skip
              exfalso; omega
            · skip
              refine q_iconst dX12_readCall_68 (by decide) ?_
              intro v1391 h1392
              refine tr_goto 81 dX12_readCall_69 (by decide) ?_
              refine tr_istore_n dX12_readCall_81 (by decide) (by decide) ?_
              refine tr_aload_n dX12_readCall_82 rfl ?_
              refine q_callVv hE (M' := mX12_goesOn) (as := []) dX12_readCall_83 lk12_142 inX12_goesOn seX12_goesOn myX12_goesOn (by decide) ⟨by decide, by decide⟩ rfl (kR15 hS1211.1 ta0) (Nat.le_of_ble_eq_true rfl) rfl rfl (by decide) (by decide) (k_X12_goesOn hS1211.1 ta0) ?_
              rintro cn' K' N' I1393 R1394 L1395 ⟨rfl, rfl, rfl, rfl, g1396, p1398, p1399, p1400, w1401, -⟩
              have hS1402 := hS1211.tr g1396 (by decide +kernel) (by decide +kernel)
              have c1403 : I1393 a1 5 = v49 := (g1396.cell ta1 (by decide +kernel)).trans c1212
              have c1404 : I1393 a0 13 = v1221 := (g1396.cell ta0 (by decide +kernel)).trans c1222
              have c1405 : I1393 a0 14 = v1223 := (g1396.cell ta0 (by decide +kernel)).trans c1224
              obtain ⟨v1406, c1407⟩ : ∃ v, I1393 a0 9 = v := ⟨_, rfl⟩
              have b1408 := iv15_9 hS1402.1 ta0 c1407
              rw [c1219] at p1398
              rw [c1407] at p1398
              rw [c1219] at p1399
              rw [c1407] at p1399
              obtain ⟨v1409, c1410⟩ : ∃ v, I1393 a0 8 = v := ⟨_, rfl⟩
              have b1411 := iv15_8 hS1402.1 ta0 c1410
              rw [c1410] at p1400
              rw [c1216] at p1400
              rw [c1404] at p1400
              rw [c1222] at p1400
              have hO1412 : FrO 14 a1 T I0 I1393 := hO1217.st g1396 (by decide +kernel)
              have ov1413 := w1401.over (by rw [c1219]; omega)
              obtain ⟨v1414, c1415⟩ : ∃ v, I1393 a0 9 = v := ⟨_, rfl⟩
              have b1416 := iv15_9 hS1402.1 ta0 c1415
              obtain ⟨v1417, c1418⟩ : ∃ v, I1393 a0 13 = v := ⟨_, rfl⟩
              obtain ⟨v1419, c1420⟩ : ∃ v, I1393 a0 14 = v := ⟨_, rfl⟩
              (try rw [c1415] at ov1413)
              (try rw [c1418] at ov1413)
              (try rw [c1420] at ov1413)
              (try rw [c1219] at ov1413)
              (try rw [c1222] at ov1413)
              (try rw [c1224] at ov1413)
              refine tr_aload_n dX12_readCall_86 rfl ?_
              refine tr_ldcwS dX12_readCall_87 ld12_352 ?_
              refine q_iconst dX12_readCall_90 (by decide) ?_
              intro v1421 h1422
              refine tr_aload_n dX12_readCall_91 rfl ?_
              refine tr_getR dX12_readCall_92 fl12_188 (kR15 hS1402.1 ta0) d2 ?_
              refine q_getI dX12_readCall_95 fl12_192 (kR14 hS1402.1 ta1) ((hS1402.cell ta1 (by decide +kernel)).trans c30) ?_
              refine q_iconst dX12_readCall_98 (by decide) ?_
              intro v1423 h1424
              refine q_isubE dX12_readCall_99 (by intros; omega) ?_
              intro v1425 h1426
              refine q_callVi hE (M' := mX12_readPart) (as := [_, _, _]) dX12_readCall_100 lk12_249 inX12_readPart seX12_readPart myX12_readPart (by decide) ⟨by decide, by decide⟩ rfl (kR15 hS1402.1 ta0) (Nat.le_of_ble_eq_true rfl) rfl rfl (by decide) (by decide) (k_X12_readPart hS1402.1 ta0 (by decide)) ?_
              rintro v1431 cn' K' N' I1427 R1428 L1429 ⟨rfl, rfl, rfl, rfl, g1430, p1432, w1433, -⟩
              have hS1434 := hS1402.tr g1430 (by decide +kernel) (by decide +kernel)
              have c1435 : I1427 a1 5 = v49 := (g1430.cell ta1 (by decide +kernel)).trans c1403
              have b1436 : 0 ≤ v1431.toInt ∧ v1431.toInt ≤ 239 := by omega
              clear p1432
              have hO1437 : FrO 14 a1 T I0 I1427 := hO1412.st g1430 (by decide +kernel)
              have ov1438 := w1433.over (by rw [c1415]; omega)
              obtain ⟨v1439, c1440⟩ : ∃ v, I1427 a0 9 = v := ⟨_, rfl⟩
              have b1441 := iv15_9 hS1434.1 ta0 c1440
              obtain ⟨v1442, c1443⟩ : ∃ v, I1427 a0 13 = v := ⟨_, rfl⟩
              obtain ⟨v1444, c1445⟩ : ∃ v, I1427 a0 14 = v := ⟨_, rfl⟩
              (try rw [c1440] at ov1438)
              (try rw [c1443] at ov1438)
              (try rw [c1445] at ov1438)
              (try rw [c1415] at ov1438)
              (try rw [c1418] at ov1438)
              (try rw [c1420] at ov1438)
              refine tr_istore_n dX12_readCall_103 (by decide) (by decide) ?_
              refine tr_aload_n dX12_readCall_104 rfl ?_
              refine tr_ldcwS dX12_readCall_105 ld12_354 ?_
              refine q_iconst dX12_readCall_108 (by decide) ?_
              intro v1446 h1447
              refine q_bipush dX12_readCall_109 (by decide +kernel) ?_
              intro v1448 h1449
              refine q_callVi hE (M' := mX12_readPart) (as := [_, _, _]) dX12_readCall_111 lk12_249 inX12_readPart seX12_readPart myX12_readPart (by decide) ⟨by decide, by decide⟩ rfl (kR15 hS1434.1 ta0) (Nat.le_of_ble_eq_true rfl) rfl rfl (by decide) (by decide) (k_X12_readPart hS1434.1 ta0 (by decide)) ?_
              rintro v1454 cn' K' N' I1450 R1451 L1452 ⟨rfl, rfl, rfl, rfl, g1453, p1455, w1456, -⟩
              have hS1457 := hS1434.tr g1453 (by decide +kernel) (by decide +kernel)
              have c1458 : I1450 a1 5 = v49 := (g1453.cell ta1 (by decide +kernel)).trans c1435
              have b1459 : 1 ≤ v1454.toInt ∧ v1454.toInt ≤ 60 := by omega
              clear p1455
              have hO1460 : FrO 14 a1 T I0 I1450 := hO1437.st g1453 (by decide +kernel)
              have ov1461 := w1456.over (by rw [c1440]; omega)
              obtain ⟨v1462, c1463⟩ : ∃ v, I1450 a0 9 = v := ⟨_, rfl⟩
              have b1464 := iv15_9 hS1457.1 ta0 c1463
              obtain ⟨v1465, c1466⟩ : ∃ v, I1450 a0 13 = v := ⟨_, rfl⟩
              obtain ⟨v1467, c1468⟩ : ∃ v, I1450 a0 14 = v := ⟨_, rfl⟩
              (try rw [c1463] at ov1461)
              (try rw [c1466] at ov1461)
              (try rw [c1468] at ov1461)
              (try rw [c1440] at ov1461)
              (try rw [c1443] at ov1461)
              (try rw [c1445] at ov1461)
              refine tr_istore dX12_readCall_114 (by decide) (by decide) ?_
              refine tr_aload_n dX12_readCall_116 rfl ?_
              refine tr_ldcwS dX12_readCall_117 ld12_356 ?_
              refine q_iconst dX12_readCall_120 (by decide) ?_
              intro v1469 h1470
              refine q_bipush dX12_readCall_121 (by decide +kernel) ?_
              intro v1471 h1472
              refine q_callVi hE (M' := mX12_readPart) (as := [_, _, _]) dX12_readCall_123 lk12_249 inX12_readPart seX12_readPart myX12_readPart (by decide) ⟨by decide, by decide⟩ rfl (kR15 hS1457.1 ta0) (Nat.le_of_ble_eq_true rfl) rfl rfl (by decide) (by decide) (k_X12_readPart hS1457.1 ta0 (by decide)) ?_
              rintro v1477 cn' K' N' I1473 R1474 L1475 ⟨rfl, rfl, rfl, rfl, g1476, p1478, w1479, -⟩
              have hS1480 := hS1457.tr g1476 (by decide +kernel) (by decide +kernel)
              have c1481 : I1473 a1 5 = v49 := (g1476.cell ta1 (by decide +kernel)).trans c1458
              have b1482 : 0 ≤ v1477.toInt ∧ v1477.toInt ≤ 99 := by omega
              clear p1478
              have hO1483 : FrO 14 a1 T I0 I1473 := hO1460.st g1476 (by decide +kernel)
              have ov1484 := w1479.over (by rw [c1463]; omega)
              obtain ⟨v1485, c1486⟩ : ∃ v, I1473 a0 9 = v := ⟨_, rfl⟩
              have b1487 := iv15_9 hS1480.1 ta0 c1486
              obtain ⟨v1488, c1489⟩ : ∃ v, I1473 a0 13 = v := ⟨_, rfl⟩
              obtain ⟨v1490, c1491⟩ : ∃ v, I1473 a0 14 = v := ⟨_, rfl⟩
              (try rw [c1486] at ov1484)
              (try rw [c1489] at ov1484)
              (try rw [c1491] at ov1484)
              (try rw [c1463] at ov1484)
              (try rw [c1466] at ov1484)
              (try rw [c1468] at ov1484)
              refine tr_istore dX12_readCall_126 (by decide) (by decide) ?_
              refine tr_aload_n dX12_readCall_128 rfl ?_
              refine q_getI dX12_readCall_129 fl12_99 (kR15 hS1480.1 ta0) c1486 ?_
              refine q_iconst dX12_readCall_132 (by decide) ?_
              intro v1492 h1493
              refine q_icmp_ne 137 dX12_readCall_133 (by decide) (fun h1494 => ?_) (fun h1494 => ?_)
              · skip
                exfalso; omega
              · skip
                have eF := hF.eq
                have eP := hP.eq
                obtain ⟨v1495, c1496⟩ : ∃ v, I1473 a0 10 = v := ⟨_, rfl⟩
                have b1497 := iv15_10 hS1480.1 ta0 c1496
                obtain ⟨v1498, c1499⟩ : ∃ v, I1473 a0 11 = v := ⟨_, rfl⟩
                obtain ⟨y1500, c1501⟩ : ∃ v, L1475 a0 15 = v := ⟨_, rfl⟩
                obtain ⟨v1502, c1503⟩ : ∃ v, I1473 a0 12 = v := ⟨_, rfl⟩
                obtain ⟨v1504, c1505⟩ : ∃ v, I1473 a0 8 = v := ⟨_, rfl⟩
                have b1506 := iv15_8 hS1480.1 ta0 c1505
                exact tr_vret hZ dX12_readCall_136 rfl (by decide) (by decide) ⟨rfl, rfl, rfl, rfl, rfl, hS1480, (fun dr hd => (Option.some.inj (d2.symm.trans hd)) ▸ hO1483), (Or.inr (⟨(by (try rw [w121]); first | done | with_reducible assumption | omega), (by (try rw [w121]); (try rw [c1486]); first | done | with_reducible assumption | omega), (by (try rw [w121]); (try rw [c1489]); first | done | with_reducible assumption | omega), (by (try rw [w121]); (try rw [c1491]); first | done | with_reducible assumption | omega), trivial⟩)), trivial⟩
          · skip
            refine tr_aload_n dX12_readCall_55 rfl ?_
            refine q_iconst dX12_readCall_56 (by decide) ?_
            intro v1507 h1508
            refine q_callVv hE (M' := mX12_flaw) (as := [_]) dX12_readCall_57 lk12_145 inX12_flaw seX12_flaw myX12_flaw (by decide) ⟨by decide, by decide⟩ rfl (kR15 hS1211.1 ta0) (Nat.le_of_ble_eq_true rfl) rfl rfl (by decide) (by decide) (k_X12_flaw hS1211.1 ta0 (by omega)) ?_
            rintro cn' K' N' I1509 R1510 L1511 ⟨rfl, rfl, rfl, rfl, rfl, g1512, p1514, p1515, w1516, -⟩
            have hS1517 := hS1211.tr g1512 (by decide +kernel) (by decide +kernel)
            have c1518 : I1509 a1 5 = v49 := (g1512.cell ta1 (by decide +kernel)).trans c1212
            have c1519 : I1509 a0 10 = v106 := (g1512.cell ta0 (by decide +kernel)).trans c1213
            have c1520 : I1509 a0 11 = v109 := (g1512.cell ta0 (by decide +kernel)).trans c1214
            have c1521 : I1509 a0 12 = v113 := (g1512.cell ta0 (by decide +kernel)).trans c1215
            have c1522 : I1509 a0 8 = v115 := (g1512.cell ta0 (by decide +kernel)).trans c1216
            obtain ⟨v1523, c1524⟩ : ∃ v, I1509 a0 9 = v := ⟨_, rfl⟩
            have b1525 := iv15_9 hS1517.1 ta0 c1524
            rw [c1524] at p1514
            rw [c1522] at p1515
            rw [c1216] at p1515
            have hO1526 : FrO 14 a1 T I0 I1509 := hO1217.st g1512 (by decide +kernel)
            have ov1527 := w1516.over (by rw [c1219]; omega)
            obtain ⟨v1528, c1529⟩ : ∃ v, I1509 a0 9 = v := ⟨_, rfl⟩
            have b1530 := iv15_9 hS1517.1 ta0 c1529
            obtain ⟨v1531, c1532⟩ : ∃ v, I1509 a0 13 = v := ⟨_, rfl⟩
            obtain ⟨v1533, c1534⟩ : ∃ v, I1509 a0 14 = v := ⟨_, rfl⟩
            (try rw [c1529] at ov1527)
            (try rw [c1532] at ov1527)
            (try rw [c1534] at ov1527)
            (try rw [c1219] at ov1527)
            (try rw [c1222] at ov1527)
            (try rw [c1224] at ov1527)
            refine tr_aload_n dX12_readCall_60 rfl ?_
            refine q_getI dX12_readCall_61 fl12_99 (kR15 hS1517.1 ta0) c1529 ?_
            refine q_iconst dX12_readCall_64 (by decide) ?_
            intro v1535 h1536
            refine q_icmp_ne 72 dX12_readCall_65 (by decide) (fun h1537 => ?_) (fun h1537 => ?_)
            · skip
              exfalso; omega
            · skip
              refine q_iconst dX12_readCall_68 (by decide) ?_
              intro v1538 h1539
              refine tr_goto 81 dX12_readCall_69 (by decide) ?_
              refine tr_istore_n dX12_readCall_81 (by decide) (by decide) ?_
              refine tr_aload_n dX12_readCall_82 rfl ?_
              refine q_callVv hE (M' := mX12_goesOn) (as := []) dX12_readCall_83 lk12_142 inX12_goesOn seX12_goesOn myX12_goesOn (by decide) ⟨by decide, by decide⟩ rfl (kR15 hS1517.1 ta0) (Nat.le_of_ble_eq_true rfl) rfl rfl (by decide) (by decide) (k_X12_goesOn hS1517.1 ta0) ?_
              rintro cn' K' N' I1540 R1541 L1542 ⟨rfl, rfl, rfl, rfl, g1543, p1545, p1546, p1547, w1548, -⟩
              have hS1549 := hS1517.tr g1543 (by decide +kernel) (by decide +kernel)
              have c1550 : I1540 a1 5 = v49 := (g1543.cell ta1 (by decide +kernel)).trans c1518
              have c1551 : I1540 a0 13 = v1531 := (g1543.cell ta0 (by decide +kernel)).trans c1532
              have c1552 : I1540 a0 14 = v1533 := (g1543.cell ta0 (by decide +kernel)).trans c1534
              obtain ⟨v1553, c1554⟩ : ∃ v, I1540 a0 9 = v := ⟨_, rfl⟩
              have b1555 := iv15_9 hS1549.1 ta0 c1554
              rw [c1529] at p1545
              rw [c1554] at p1545
              rw [c1529] at p1546
              rw [c1554] at p1546
              obtain ⟨v1556, c1557⟩ : ∃ v, I1540 a0 8 = v := ⟨_, rfl⟩
              have b1558 := iv15_8 hS1549.1 ta0 c1557
              rw [c1557] at p1547
              rw [c1522] at p1547
              rw [c1551] at p1547
              rw [c1532] at p1547
              have hO1559 : FrO 14 a1 T I0 I1540 := hO1526.st g1543 (by decide +kernel)
              have ov1560 := w1548.over (by rw [c1529]; omega)
              obtain ⟨v1561, c1562⟩ : ∃ v, I1540 a0 9 = v := ⟨_, rfl⟩
              have b1563 := iv15_9 hS1549.1 ta0 c1562
              obtain ⟨v1564, c1565⟩ : ∃ v, I1540 a0 13 = v := ⟨_, rfl⟩
              obtain ⟨v1566, c1567⟩ : ∃ v, I1540 a0 14 = v := ⟨_, rfl⟩
              (try rw [c1562] at ov1560)
              (try rw [c1565] at ov1560)
              (try rw [c1567] at ov1560)
              (try rw [c1529] at ov1560)
              (try rw [c1532] at ov1560)
              (try rw [c1534] at ov1560)
              refine tr_aload_n dX12_readCall_86 rfl ?_
              refine tr_ldcwS dX12_readCall_87 ld12_352 ?_
              refine q_iconst dX12_readCall_90 (by decide) ?_
              intro v1568 h1569
              refine tr_aload_n dX12_readCall_91 rfl ?_
              refine tr_getR dX12_readCall_92 fl12_188 (kR15 hS1549.1 ta0) d2 ?_
              refine q_getI dX12_readCall_95 fl12_192 (kR14 hS1549.1 ta1) ((hS1549.cell ta1 (by decide +kernel)).trans c30) ?_
              refine q_iconst dX12_readCall_98 (by decide) ?_
              intro v1570 h1571
              refine q_isubE dX12_readCall_99 (by intros; omega) ?_
              intro v1572 h1573
              refine q_callVi hE (M' := mX12_readPart) (as := [_, _, _]) dX12_readCall_100 lk12_249 inX12_readPart seX12_readPart myX12_readPart (by decide) ⟨by decide, by decide⟩ rfl (kR15 hS1549.1 ta0) (Nat.le_of_ble_eq_true rfl) rfl rfl (by decide) (by decide) (k_X12_readPart hS1549.1 ta0 (by decide)) ?_
              rintro v1578 cn' K' N' I1574 R1575 L1576 ⟨rfl, rfl, rfl, rfl, g1577, p1579, w1580, -⟩
              have hS1581 := hS1549.tr g1577 (by decide +kernel) (by decide +kernel)
              have c1582 : I1574 a1 5 = v49 := (g1577.cell ta1 (by decide +kernel)).trans c1550
              have b1583 : 0 ≤ v1578.toInt ∧ v1578.toInt ≤ 239 := by omega
              clear p1579
              have hO1584 : FrO 14 a1 T I0 I1574 := hO1559.st g1577 (by decide +kernel)
              have ov1585 := w1580.over (by rw [c1562]; omega)
              obtain ⟨v1586, c1587⟩ : ∃ v, I1574 a0 9 = v := ⟨_, rfl⟩
              have b1588 := iv15_9 hS1581.1 ta0 c1587
              obtain ⟨v1589, c1590⟩ : ∃ v, I1574 a0 13 = v := ⟨_, rfl⟩
              obtain ⟨v1591, c1592⟩ : ∃ v, I1574 a0 14 = v := ⟨_, rfl⟩
              (try rw [c1587] at ov1585)
              (try rw [c1590] at ov1585)
              (try rw [c1592] at ov1585)
              (try rw [c1562] at ov1585)
              (try rw [c1565] at ov1585)
              (try rw [c1567] at ov1585)
              refine tr_istore_n dX12_readCall_103 (by decide) (by decide) ?_
              refine tr_aload_n dX12_readCall_104 rfl ?_
              refine tr_ldcwS dX12_readCall_105 ld12_354 ?_
              refine q_iconst dX12_readCall_108 (by decide) ?_
              intro v1593 h1594
              refine q_bipush dX12_readCall_109 (by decide +kernel) ?_
              intro v1595 h1596
              refine q_callVi hE (M' := mX12_readPart) (as := [_, _, _]) dX12_readCall_111 lk12_249 inX12_readPart seX12_readPart myX12_readPart (by decide) ⟨by decide, by decide⟩ rfl (kR15 hS1581.1 ta0) (Nat.le_of_ble_eq_true rfl) rfl rfl (by decide) (by decide) (k_X12_readPart hS1581.1 ta0 (by decide)) ?_
              rintro v1601 cn' K' N' I1597 R1598 L1599 ⟨rfl, rfl, rfl, rfl, g1600, p1602, w1603, -⟩
              have hS1604 := hS1581.tr g1600 (by decide +kernel) (by decide +kernel)
              have c1605 : I1597 a1 5 = v49 := (g1600.cell ta1 (by decide +kernel)).trans c1582
              have b1606 : 1 ≤ v1601.toInt ∧ v1601.toInt ≤ 60 := by omega
              clear p1602
              have hO1607 : FrO 14 a1 T I0 I1597 := hO1584.st g1600 (by decide +kernel)
              have ov1608 := w1603.over (by rw [c1587]; omega)
              obtain ⟨v1609, c1610⟩ : ∃ v, I1597 a0 9 = v := ⟨_, rfl⟩
              have b1611 := iv15_9 hS1604.1 ta0 c1610
              obtain ⟨v1612, c1613⟩ : ∃ v, I1597 a0 13 = v := ⟨_, rfl⟩
              obtain ⟨v1614, c1615⟩ : ∃ v, I1597 a0 14 = v := ⟨_, rfl⟩
              (try rw [c1610] at ov1608)
              (try rw [c1613] at ov1608)
              (try rw [c1615] at ov1608)
              (try rw [c1587] at ov1608)
              (try rw [c1590] at ov1608)
              (try rw [c1592] at ov1608)
              refine tr_istore dX12_readCall_114 (by decide) (by decide) ?_
              refine tr_aload_n dX12_readCall_116 rfl ?_
              refine tr_ldcwS dX12_readCall_117 ld12_356 ?_
              refine q_iconst dX12_readCall_120 (by decide) ?_
              intro v1616 h1617
              refine q_bipush dX12_readCall_121 (by decide +kernel) ?_
              intro v1618 h1619
              refine q_callVi hE (M' := mX12_readPart) (as := [_, _, _]) dX12_readCall_123 lk12_249 inX12_readPart seX12_readPart myX12_readPart (by decide) ⟨by decide, by decide⟩ rfl (kR15 hS1604.1 ta0) (Nat.le_of_ble_eq_true rfl) rfl rfl (by decide) (by decide) (k_X12_readPart hS1604.1 ta0 (by decide)) ?_
              rintro v1624 cn' K' N' I1620 R1621 L1622 ⟨rfl, rfl, rfl, rfl, g1623, p1625, w1626, -⟩
              have hS1627 := hS1604.tr g1623 (by decide +kernel) (by decide +kernel)
              have c1628 : I1620 a1 5 = v49 := (g1623.cell ta1 (by decide +kernel)).trans c1605
              have b1629 : 0 ≤ v1624.toInt ∧ v1624.toInt ≤ 99 := by omega
              clear p1625
              have hO1630 : FrO 14 a1 T I0 I1620 := hO1607.st g1623 (by decide +kernel)
              have ov1631 := w1626.over (by rw [c1610]; omega)
              obtain ⟨v1632, c1633⟩ : ∃ v, I1620 a0 9 = v := ⟨_, rfl⟩
              have b1634 := iv15_9 hS1627.1 ta0 c1633
              obtain ⟨v1635, c1636⟩ : ∃ v, I1620 a0 13 = v := ⟨_, rfl⟩
              obtain ⟨v1637, c1638⟩ : ∃ v, I1620 a0 14 = v := ⟨_, rfl⟩
              (try rw [c1633] at ov1631)
              (try rw [c1636] at ov1631)
              (try rw [c1638] at ov1631)
              (try rw [c1610] at ov1631)
              (try rw [c1613] at ov1631)
              (try rw [c1615] at ov1631)
              refine tr_istore dX12_readCall_126 (by decide) (by decide) ?_
              refine tr_aload_n dX12_readCall_128 rfl ?_
              refine q_getI dX12_readCall_129 fl12_99 (kR15 hS1627.1 ta0) c1633 ?_
              refine q_iconst dX12_readCall_132 (by decide) ?_
              intro v1639 h1640
              refine q_icmp_ne 137 dX12_readCall_133 (by decide) (fun h1641 => ?_) (fun h1641 => ?_)
              · skip
                exfalso; omega
              · skip
                have eF := hF.eq
                have eP := hP.eq
                obtain ⟨v1642, c1643⟩ : ∃ v, I1620 a0 10 = v := ⟨_, rfl⟩
                have b1644 := iv15_10 hS1627.1 ta0 c1643
                obtain ⟨v1645, c1646⟩ : ∃ v, I1620 a0 11 = v := ⟨_, rfl⟩
                obtain ⟨y1647, c1648⟩ : ∃ v, L1622 a0 15 = v := ⟨_, rfl⟩
                obtain ⟨v1649, c1650⟩ : ∃ v, I1620 a0 12 = v := ⟨_, rfl⟩
                obtain ⟨v1651, c1652⟩ : ∃ v, I1620 a0 8 = v := ⟨_, rfl⟩
                have b1653 := iv15_8 hS1627.1 ta0 c1652
                exact tr_vret hZ dX12_readCall_136 rfl (by decide) (by decide) ⟨rfl, rfl, rfl, rfl, rfl, hS1627, (fun dr hd => (Option.some.inj (d2.symm.trans hd)) ▸ hO1630), (Or.inr (⟨(by (try rw [w121]); first | done | with_reducible assumption | omega), (by (try rw [w121]); (try rw [c1633]); first | done | with_reducible assumption | omega), (by (try rw [w121]); (try rw [c1636]); first | done | with_reducible assumption | omega), (by (try rw [w121]); (try rw [c1638]); first | done | with_reducible assumption | omega), trivial⟩)), trivial⟩
  · skip
    obtain ⟨v1654, c1655⟩ : ∃ v, I68 a0 9 = v := ⟨_, rfl⟩
    have b1656 := iv15_9 hS76.1 ta0 c1655
    rw [c1655] at p91
    obtain ⟨v1657, c1658⟩ : ∃ v, I68 a0 13 = v := ⟨_, rfl⟩
    rw [c1658] at p92
    obtain ⟨v1659, c1660⟩ : ∃ v, I68 a0 14 = v := ⟨_, rfl⟩
    rw [c1660] at p93
    have p1661 := p61
    unfold Q7M at p1661
    replace hF := hF.pos (by omega)
    replace hP := hP.pos (by omega)
    clear p1661
    refine tr_aload_n dX12_readCall_13 rfl ?_
    refine q_callVi hE (M' := mX12_isName) (as := []) dX12_readCall_14 lk12_197 inX12_isName seX12_isName myX12_isName (by decide) ⟨by decide, by decide⟩ rfl (kR15 hS76.1 ta0) (Nat.le_of_ble_eq_true rfl) rfl rfl (by decide) (by decide) (k_X12_isName hS76.1 ta0) ?_
    rintro v1666 cn' K' N' I1662 R1663 L1664 ⟨rfl, rfl, rfl, rfl, rfl, rfl, h1667, -⟩
    refine q_if_ne 25 dX12_readCall_17 (by decide) (fun h1668 => ?_) (fun h1668 => ?_)
    · skip
      refine tr_aload_n dX12_readCall_25 rfl ?_
      refine tr_getR dX12_readCall_26 fl12_188 (kR15 hS76.1 ta0) d2 ?_
      refine tr_aload_n dX12_readCall_29 rfl ?_
      have p1669 := p17 (by omega)
      obtain ⟨y1670, c1671⟩ : ∃ v, L70 a0 15 = v := ⟨_, rfl⟩
      refine q_getLE dX12_readCall_30 fl12_118 (kR15 hS76.1 ta0) c1671 ?_
      refine q_callVi hE (M' := mX11_find) (as := [_]) dX12_readCall_33 lk12_201 inX11_find seX11_find myX11_find (by decide) ⟨by decide, by decide⟩ rfl (kR14 hS76.1 ta1) (Nat.le_of_ble_eq_true rfl) rfl rfl (by decide) (by decide) (k_X11_find hS76.1 ta1) ?_
      rintro v1676 cn' K' N' I1672 R1673 L1674 ⟨rfl, rfl, rfl, rfl, rfl, rfl, h1677, -⟩
      refine tr_istore_n dX12_readCall_36 (by decide) (by decide) ?_
      refine tr_iload_n dX12_readCall_37 rfl ?_
      refine q_iconst dX12_readCall_38 (by decide) ?_
      intro v1678 h1679
      refine q_icmp_eq 55 dX12_readCall_39 (by decide) (fun h1680 => ?_) (fun h1680 => ?_)
      · skip
        refine tr_aload_n dX12_readCall_55 rfl ?_
        refine q_iconst dX12_readCall_56 (by decide) ?_
        intro v1681 h1682
        obtain ⟨v1683, c1684⟩ : ∃ v, I68 a0 8 = v := ⟨_, rfl⟩
        have b1685 := iv15_8 hS76.1 ta0 c1684
        refine q_callVv hE (M' := mX12_flaw) (as := [_]) dX12_readCall_57 lk12_145 inX12_flaw seX12_flaw myX12_flaw (by decide) ⟨by decide, by decide⟩ rfl (kR15 hS76.1 ta0) (Nat.le_of_ble_eq_true rfl) rfl rfl (by decide) (by decide) (k_X12_flaw hS76.1 ta0 (by omega)) ?_
        rintro cn' K' N' I1686 R1687 L1688 ⟨rfl, rfl, rfl, rfl, rfl, g1689, p1691, p1692, w1693, -⟩
        have hS1694 := hS76.tr g1689 (by decide +kernel) (by decide +kernel)
        have c1695 : I1686 a1 5 = v49 := (g1689.cell ta1 (by decide +kernel)).trans c77
        have c1696 : I1686 a0 8 = v1683 := (g1689.cell ta0 (by decide +kernel)).trans c1684
        obtain ⟨v1697, c1698⟩ : ∃ v, I1686 a0 9 = v := ⟨_, rfl⟩
        have b1699 := iv15_9 hS1694.1 ta0 c1698
        rw [c1698] at p1691
        rw [c1696] at p1692
        rw [c1684] at p1692
        have hO1700 : FrO 14 a1 T I0 I1686 := hO78.st g1689 (by decide +kernel)
        have ov1701 := w1693.over (by rw [c1655]; omega)
        obtain ⟨v1702, c1703⟩ : ∃ v, I1686 a0 9 = v := ⟨_, rfl⟩
        have b1704 := iv15_9 hS1694.1 ta0 c1703
        obtain ⟨v1705, c1706⟩ : ∃ v, I1686 a0 13 = v := ⟨_, rfl⟩
        obtain ⟨v1707, c1708⟩ : ∃ v, I1686 a0 14 = v := ⟨_, rfl⟩
        (try rw [c1703] at ov1701)
        (try rw [c1706] at ov1701)
        (try rw [c1708] at ov1701)
        (try rw [c1655] at ov1701)
        (try rw [c1658] at ov1701)
        (try rw [c1660] at ov1701)
        refine tr_aload_n dX12_readCall_60 rfl ?_
        refine q_getI dX12_readCall_61 fl12_99 (kR15 hS1694.1 ta0) c1703 ?_
        refine q_iconst dX12_readCall_64 (by decide) ?_
        intro v1709 h1710
        refine q_icmp_ne 72 dX12_readCall_65 (by decide) (fun h1711 => ?_) (fun h1711 => ?_)
        · skip
          exfalso; omega
        · skip
          refine q_iconst dX12_readCall_68 (by decide) ?_
          intro v1712 h1713
          refine tr_goto 81 dX12_readCall_69 (by decide) ?_
          refine tr_istore_n dX12_readCall_81 (by decide) (by decide) ?_
          refine tr_aload_n dX12_readCall_82 rfl ?_
          refine q_callVv hE (M' := mX12_goesOn) (as := []) dX12_readCall_83 lk12_142 inX12_goesOn seX12_goesOn myX12_goesOn (by decide) ⟨by decide, by decide⟩ rfl (kR15 hS1694.1 ta0) (Nat.le_of_ble_eq_true rfl) rfl rfl (by decide) (by decide) (k_X12_goesOn hS1694.1 ta0) ?_
          rintro cn' K' N' I1714 R1715 L1716 ⟨rfl, rfl, rfl, rfl, g1717, p1719, p1720, p1721, w1722, -⟩
          have hS1723 := hS1694.tr g1717 (by decide +kernel) (by decide +kernel)
          have c1724 : I1714 a1 5 = v49 := (g1717.cell ta1 (by decide +kernel)).trans c1695
          have c1725 : I1714 a0 13 = v1705 := (g1717.cell ta0 (by decide +kernel)).trans c1706
          have c1726 : I1714 a0 14 = v1707 := (g1717.cell ta0 (by decide +kernel)).trans c1708
          obtain ⟨v1727, c1728⟩ : ∃ v, I1714 a0 9 = v := ⟨_, rfl⟩
          have b1729 := iv15_9 hS1723.1 ta0 c1728
          rw [c1703] at p1719
          rw [c1728] at p1719
          rw [c1703] at p1720
          rw [c1728] at p1720
          obtain ⟨v1730, c1731⟩ : ∃ v, I1714 a0 8 = v := ⟨_, rfl⟩
          have b1732 := iv15_8 hS1723.1 ta0 c1731
          rw [c1731] at p1721
          rw [c1696] at p1721
          rw [c1725] at p1721
          rw [c1706] at p1721
          have hO1733 : FrO 14 a1 T I0 I1714 := hO1700.st g1717 (by decide +kernel)
          have ov1734 := w1722.over (by rw [c1703]; omega)
          obtain ⟨v1735, c1736⟩ : ∃ v, I1714 a0 9 = v := ⟨_, rfl⟩
          have b1737 := iv15_9 hS1723.1 ta0 c1736
          obtain ⟨v1738, c1739⟩ : ∃ v, I1714 a0 13 = v := ⟨_, rfl⟩
          obtain ⟨v1740, c1741⟩ : ∃ v, I1714 a0 14 = v := ⟨_, rfl⟩
          (try rw [c1736] at ov1734)
          (try rw [c1739] at ov1734)
          (try rw [c1741] at ov1734)
          (try rw [c1703] at ov1734)
          (try rw [c1706] at ov1734)
          (try rw [c1708] at ov1734)
          refine tr_aload_n dX12_readCall_86 rfl ?_
          refine tr_ldcwS dX12_readCall_87 ld12_352 ?_
          refine q_iconst dX12_readCall_90 (by decide) ?_
          intro v1742 h1743
          refine tr_aload_n dX12_readCall_91 rfl ?_
          refine tr_getR dX12_readCall_92 fl12_188 (kR15 hS1723.1 ta0) d2 ?_
          refine q_getI dX12_readCall_95 fl12_192 (kR14 hS1723.1 ta1) ((hS1723.cell ta1 (by decide +kernel)).trans c30) ?_
          refine q_iconst dX12_readCall_98 (by decide) ?_
          intro v1744 h1745
          refine q_isubE dX12_readCall_99 (by intros; omega) ?_
          intro v1746 h1747
          refine q_callVi hE (M' := mX12_readPart) (as := [_, _, _]) dX12_readCall_100 lk12_249 inX12_readPart seX12_readPart myX12_readPart (by decide) ⟨by decide, by decide⟩ rfl (kR15 hS1723.1 ta0) (Nat.le_of_ble_eq_true rfl) rfl rfl (by decide) (by decide) (k_X12_readPart hS1723.1 ta0 (by decide)) ?_
          rintro v1752 cn' K' N' I1748 R1749 L1750 ⟨rfl, rfl, rfl, rfl, g1751, p1753, w1754, -⟩
          have hS1755 := hS1723.tr g1751 (by decide +kernel) (by decide +kernel)
          have c1756 : I1748 a1 5 = v49 := (g1751.cell ta1 (by decide +kernel)).trans c1724
          have b1757 : 0 ≤ v1752.toInt ∧ v1752.toInt ≤ 239 := by omega
          clear p1753
          have hO1758 : FrO 14 a1 T I0 I1748 := hO1733.st g1751 (by decide +kernel)
          have ov1759 := w1754.over (by rw [c1736]; omega)
          obtain ⟨v1760, c1761⟩ : ∃ v, I1748 a0 9 = v := ⟨_, rfl⟩
          have b1762 := iv15_9 hS1755.1 ta0 c1761
          obtain ⟨v1763, c1764⟩ : ∃ v, I1748 a0 13 = v := ⟨_, rfl⟩
          obtain ⟨v1765, c1766⟩ : ∃ v, I1748 a0 14 = v := ⟨_, rfl⟩
          (try rw [c1761] at ov1759)
          (try rw [c1764] at ov1759)
          (try rw [c1766] at ov1759)
          (try rw [c1736] at ov1759)
          (try rw [c1739] at ov1759)
          (try rw [c1741] at ov1759)
          refine tr_istore_n dX12_readCall_103 (by decide) (by decide) ?_
          refine tr_aload_n dX12_readCall_104 rfl ?_
          refine tr_ldcwS dX12_readCall_105 ld12_354 ?_
          refine q_iconst dX12_readCall_108 (by decide) ?_
          intro v1767 h1768
          refine q_bipush dX12_readCall_109 (by decide +kernel) ?_
          intro v1769 h1770
          refine q_callVi hE (M' := mX12_readPart) (as := [_, _, _]) dX12_readCall_111 lk12_249 inX12_readPart seX12_readPart myX12_readPart (by decide) ⟨by decide, by decide⟩ rfl (kR15 hS1755.1 ta0) (Nat.le_of_ble_eq_true rfl) rfl rfl (by decide) (by decide) (k_X12_readPart hS1755.1 ta0 (by decide)) ?_
          rintro v1775 cn' K' N' I1771 R1772 L1773 ⟨rfl, rfl, rfl, rfl, g1774, p1776, w1777, -⟩
          have hS1778 := hS1755.tr g1774 (by decide +kernel) (by decide +kernel)
          have c1779 : I1771 a1 5 = v49 := (g1774.cell ta1 (by decide +kernel)).trans c1756
          have b1780 : 1 ≤ v1775.toInt ∧ v1775.toInt ≤ 60 := by omega
          clear p1776
          have hO1781 : FrO 14 a1 T I0 I1771 := hO1758.st g1774 (by decide +kernel)
          have ov1782 := w1777.over (by rw [c1761]; omega)
          obtain ⟨v1783, c1784⟩ : ∃ v, I1771 a0 9 = v := ⟨_, rfl⟩
          have b1785 := iv15_9 hS1778.1 ta0 c1784
          obtain ⟨v1786, c1787⟩ : ∃ v, I1771 a0 13 = v := ⟨_, rfl⟩
          obtain ⟨v1788, c1789⟩ : ∃ v, I1771 a0 14 = v := ⟨_, rfl⟩
          (try rw [c1784] at ov1782)
          (try rw [c1787] at ov1782)
          (try rw [c1789] at ov1782)
          (try rw [c1761] at ov1782)
          (try rw [c1764] at ov1782)
          (try rw [c1766] at ov1782)
          refine tr_istore dX12_readCall_114 (by decide) (by decide) ?_
          refine tr_aload_n dX12_readCall_116 rfl ?_
          refine tr_ldcwS dX12_readCall_117 ld12_356 ?_
          refine q_iconst dX12_readCall_120 (by decide) ?_
          intro v1790 h1791
          refine q_bipush dX12_readCall_121 (by decide +kernel) ?_
          intro v1792 h1793
          refine q_callVi hE (M' := mX12_readPart) (as := [_, _, _]) dX12_readCall_123 lk12_249 inX12_readPart seX12_readPart myX12_readPart (by decide) ⟨by decide, by decide⟩ rfl (kR15 hS1778.1 ta0) (Nat.le_of_ble_eq_true rfl) rfl rfl (by decide) (by decide) (k_X12_readPart hS1778.1 ta0 (by decide)) ?_
          rintro v1798 cn' K' N' I1794 R1795 L1796 ⟨rfl, rfl, rfl, rfl, g1797, p1799, w1800, -⟩
          have hS1801 := hS1778.tr g1797 (by decide +kernel) (by decide +kernel)
          have c1802 : I1794 a1 5 = v49 := (g1797.cell ta1 (by decide +kernel)).trans c1779
          have b1803 : 0 ≤ v1798.toInt ∧ v1798.toInt ≤ 99 := by omega
          clear p1799
          have hO1804 : FrO 14 a1 T I0 I1794 := hO1781.st g1797 (by decide +kernel)
          have ov1805 := w1800.over (by rw [c1784]; omega)
          obtain ⟨v1806, c1807⟩ : ∃ v, I1794 a0 9 = v := ⟨_, rfl⟩
          have b1808 := iv15_9 hS1801.1 ta0 c1807
          obtain ⟨v1809, c1810⟩ : ∃ v, I1794 a0 13 = v := ⟨_, rfl⟩
          obtain ⟨v1811, c1812⟩ : ∃ v, I1794 a0 14 = v := ⟨_, rfl⟩
          (try rw [c1807] at ov1805)
          (try rw [c1810] at ov1805)
          (try rw [c1812] at ov1805)
          (try rw [c1784] at ov1805)
          (try rw [c1787] at ov1805)
          (try rw [c1789] at ov1805)
          refine tr_istore dX12_readCall_126 (by decide) (by decide) ?_
          refine tr_aload_n dX12_readCall_128 rfl ?_
          refine q_getI dX12_readCall_129 fl12_99 (kR15 hS1801.1 ta0) c1807 ?_
          refine q_iconst dX12_readCall_132 (by decide) ?_
          intro v1813 h1814
          refine q_icmp_ne 137 dX12_readCall_133 (by decide) (fun h1815 => ?_) (fun h1815 => ?_)
          · skip
            exfalso; omega
          · skip
            have eF := hF.eq
            have eP := hP.eq
            obtain ⟨v1816, c1817⟩ : ∃ v, I1794 a0 10 = v := ⟨_, rfl⟩
            have b1818 := iv15_10 hS1801.1 ta0 c1817
            obtain ⟨v1819, c1820⟩ : ∃ v, I1794 a0 11 = v := ⟨_, rfl⟩
            obtain ⟨y1821, c1822⟩ : ∃ v, L1796 a0 15 = v := ⟨_, rfl⟩
            obtain ⟨v1823, c1824⟩ : ∃ v, I1794 a0 12 = v := ⟨_, rfl⟩
            obtain ⟨v1825, c1826⟩ : ∃ v, I1794 a0 8 = v := ⟨_, rfl⟩
            have b1827 := iv15_8 hS1801.1 ta0 c1826
            exact tr_vret hZ dX12_readCall_136 rfl (by decide) (by decide) ⟨rfl, rfl, rfl, rfl, rfl, hS1801, (fun dr hd => (Option.some.inj (d2.symm.trans hd)) ▸ hO1804), (Or.inr (⟨(by first | done | with_reducible assumption | omega), (by (try rw [c1807]); first | done | with_reducible assumption | omega), (by (try rw [c1810]); first | done | with_reducible assumption | omega), (by (try rw [c1812]); first | done | with_reducible assumption | omega), trivial⟩)), trivial⟩
      · skip
        refine tr_aload_n dX12_readCall_42 rfl ?_
        refine tr_getR dX12_readCall_43 fl12_188 (kR15 hS76.1 ta0) d2 ?_
        obtain ⟨a1828, d1829, ta1828⟩ := rf14_31 hW0 ta1
        refine tr_getR dX12_readCall_46 fl12_212 (kR14 hS76.1 ta1) d1829 ?_
        refine tr_iload_n dX12_readCall_49 rfl ?_
        refine q_iald dX12_readCall_50 (kR74 hS76.1 ta1828) (ti_in (nR74 hS76.1 ta1828) (by omega) (by omega)) ?_
        intro v1830 c1831
        refine q_iconst dX12_readCall_51 (by decide) ?_
        intro v1832 h1833
        refine q_icmp_eq 60 dX12_readCall_52 (by decide) (fun h1834 => ?_) (fun h1834 => ?_)
        · skip
          refine tr_aload_n dX12_readCall_60 rfl ?_
          refine q_getI dX12_readCall_61 fl12_99 (kR15 hS76.1 ta0) c1655 ?_
          refine q_iconst dX12_readCall_64 (by decide) ?_
          intro v1835 h1836
          refine q_icmp_ne 72 dX12_readCall_65 (by decide) (fun h1837 => ?_) (fun h1837 => ?_)
          · skip
            exfalso; omega
          · skip
            refine q_iconst dX12_readCall_68 (by decide) ?_
            intro v1838 h1839
            refine tr_goto 81 dX12_readCall_69 (by decide) ?_
            refine tr_istore_n dX12_readCall_81 (by decide) (by decide) ?_
            refine tr_aload_n dX12_readCall_82 rfl ?_
            obtain ⟨v1840, c1841⟩ : ∃ v, I68 a0 8 = v := ⟨_, rfl⟩
            have b1842 := iv15_8 hS76.1 ta0 c1841
            refine q_callVv hE (M' := mX12_goesOn) (as := []) dX12_readCall_83 lk12_142 inX12_goesOn seX12_goesOn myX12_goesOn (by decide) ⟨by decide, by decide⟩ rfl (kR15 hS76.1 ta0) (Nat.le_of_ble_eq_true rfl) rfl rfl (by decide) (by decide) (k_X12_goesOn hS76.1 ta0) ?_
            rintro cn' K' N' I1843 R1844 L1845 ⟨rfl, rfl, rfl, rfl, g1846, p1848, p1849, p1850, w1851, -⟩
            have hS1852 := hS76.tr g1846 (by decide +kernel) (by decide +kernel)
            have c1853 : I1843 a1 5 = v49 := (g1846.cell ta1 (by decide +kernel)).trans c77
            have c1854 : I1843 a0 13 = v1657 := (g1846.cell ta0 (by decide +kernel)).trans c1658
            have c1855 : I1843 a0 14 = v1659 := (g1846.cell ta0 (by decide +kernel)).trans c1660
            obtain ⟨v1856, c1857⟩ : ∃ v, I1843 a0 9 = v := ⟨_, rfl⟩
            have b1858 := iv15_9 hS1852.1 ta0 c1857
            rw [c1655] at p1848
            rw [c1857] at p1848
            rw [c1655] at p1849
            rw [c1857] at p1849
            obtain ⟨v1859, c1860⟩ : ∃ v, I1843 a0 8 = v := ⟨_, rfl⟩
            have b1861 := iv15_8 hS1852.1 ta0 c1860
            rw [c1860] at p1850
            rw [c1841] at p1850
            rw [c1854] at p1850
            rw [c1658] at p1850
            have hO1862 : FrO 14 a1 T I0 I1843 := hO78.st g1846 (by decide +kernel)
            have ov1863 := w1851.over (by rw [c1655]; omega)
            obtain ⟨v1864, c1865⟩ : ∃ v, I1843 a0 9 = v := ⟨_, rfl⟩
            have b1866 := iv15_9 hS1852.1 ta0 c1865
            obtain ⟨v1867, c1868⟩ : ∃ v, I1843 a0 13 = v := ⟨_, rfl⟩
            obtain ⟨v1869, c1870⟩ : ∃ v, I1843 a0 14 = v := ⟨_, rfl⟩
            (try rw [c1865] at ov1863)
            (try rw [c1868] at ov1863)
            (try rw [c1870] at ov1863)
            (try rw [c1655] at ov1863)
            (try rw [c1658] at ov1863)
            (try rw [c1660] at ov1863)
            refine tr_aload_n dX12_readCall_86 rfl ?_
            refine tr_ldcwS dX12_readCall_87 ld12_352 ?_
            refine q_iconst dX12_readCall_90 (by decide) ?_
            intro v1871 h1872
            refine tr_aload_n dX12_readCall_91 rfl ?_
            refine tr_getR dX12_readCall_92 fl12_188 (kR15 hS1852.1 ta0) d2 ?_
            refine q_getI dX12_readCall_95 fl12_192 (kR14 hS1852.1 ta1) ((hS1852.cell ta1 (by decide +kernel)).trans c30) ?_
            refine q_iconst dX12_readCall_98 (by decide) ?_
            intro v1873 h1874
            refine q_isubE dX12_readCall_99 (by intros; omega) ?_
            intro v1875 h1876
            refine q_callVi hE (M' := mX12_readPart) (as := [_, _, _]) dX12_readCall_100 lk12_249 inX12_readPart seX12_readPart myX12_readPart (by decide) ⟨by decide, by decide⟩ rfl (kR15 hS1852.1 ta0) (Nat.le_of_ble_eq_true rfl) rfl rfl (by decide) (by decide) (k_X12_readPart hS1852.1 ta0 (by decide)) ?_
            rintro v1881 cn' K' N' I1877 R1878 L1879 ⟨rfl, rfl, rfl, rfl, g1880, p1882, w1883, -⟩
            have hS1884 := hS1852.tr g1880 (by decide +kernel) (by decide +kernel)
            have c1885 : I1877 a1 5 = v49 := (g1880.cell ta1 (by decide +kernel)).trans c1853
            have b1886 : 0 ≤ v1881.toInt ∧ v1881.toInt ≤ 239 := by omega
            clear p1882
            have hO1887 : FrO 14 a1 T I0 I1877 := hO1862.st g1880 (by decide +kernel)
            have ov1888 := w1883.over (by rw [c1865]; omega)
            obtain ⟨v1889, c1890⟩ : ∃ v, I1877 a0 9 = v := ⟨_, rfl⟩
            have b1891 := iv15_9 hS1884.1 ta0 c1890
            obtain ⟨v1892, c1893⟩ : ∃ v, I1877 a0 13 = v := ⟨_, rfl⟩
            obtain ⟨v1894, c1895⟩ : ∃ v, I1877 a0 14 = v := ⟨_, rfl⟩
            (try rw [c1890] at ov1888)
            (try rw [c1893] at ov1888)
            (try rw [c1895] at ov1888)
            (try rw [c1865] at ov1888)
            (try rw [c1868] at ov1888)
            (try rw [c1870] at ov1888)
            refine tr_istore_n dX12_readCall_103 (by decide) (by decide) ?_
            refine tr_aload_n dX12_readCall_104 rfl ?_
            refine tr_ldcwS dX12_readCall_105 ld12_354 ?_
            refine q_iconst dX12_readCall_108 (by decide) ?_
            intro v1896 h1897
            refine q_bipush dX12_readCall_109 (by decide +kernel) ?_
            intro v1898 h1899
            refine q_callVi hE (M' := mX12_readPart) (as := [_, _, _]) dX12_readCall_111 lk12_249 inX12_readPart seX12_readPart myX12_readPart (by decide) ⟨by decide, by decide⟩ rfl (kR15 hS1884.1 ta0) (Nat.le_of_ble_eq_true rfl) rfl rfl (by decide) (by decide) (k_X12_readPart hS1884.1 ta0 (by decide)) ?_
            rintro v1904 cn' K' N' I1900 R1901 L1902 ⟨rfl, rfl, rfl, rfl, g1903, p1905, w1906, -⟩
            have hS1907 := hS1884.tr g1903 (by decide +kernel) (by decide +kernel)
            have c1908 : I1900 a1 5 = v49 := (g1903.cell ta1 (by decide +kernel)).trans c1885
            have b1909 : 1 ≤ v1904.toInt ∧ v1904.toInt ≤ 60 := by omega
            clear p1905
            have hO1910 : FrO 14 a1 T I0 I1900 := hO1887.st g1903 (by decide +kernel)
            have ov1911 := w1906.over (by rw [c1890]; omega)
            obtain ⟨v1912, c1913⟩ : ∃ v, I1900 a0 9 = v := ⟨_, rfl⟩
            have b1914 := iv15_9 hS1907.1 ta0 c1913
            obtain ⟨v1915, c1916⟩ : ∃ v, I1900 a0 13 = v := ⟨_, rfl⟩
            obtain ⟨v1917, c1918⟩ : ∃ v, I1900 a0 14 = v := ⟨_, rfl⟩
            (try rw [c1913] at ov1911)
            (try rw [c1916] at ov1911)
            (try rw [c1918] at ov1911)
            (try rw [c1890] at ov1911)
            (try rw [c1893] at ov1911)
            (try rw [c1895] at ov1911)
            refine tr_istore dX12_readCall_114 (by decide) (by decide) ?_
            refine tr_aload_n dX12_readCall_116 rfl ?_
            refine tr_ldcwS dX12_readCall_117 ld12_356 ?_
            refine q_iconst dX12_readCall_120 (by decide) ?_
            intro v1919 h1920
            refine q_bipush dX12_readCall_121 (by decide +kernel) ?_
            intro v1921 h1922
            refine q_callVi hE (M' := mX12_readPart) (as := [_, _, _]) dX12_readCall_123 lk12_249 inX12_readPart seX12_readPart myX12_readPart (by decide) ⟨by decide, by decide⟩ rfl (kR15 hS1907.1 ta0) (Nat.le_of_ble_eq_true rfl) rfl rfl (by decide) (by decide) (k_X12_readPart hS1907.1 ta0 (by decide)) ?_
            rintro v1927 cn' K' N' I1923 R1924 L1925 ⟨rfl, rfl, rfl, rfl, g1926, p1928, w1929, -⟩
            have hS1930 := hS1907.tr g1926 (by decide +kernel) (by decide +kernel)
            have c1931 : I1923 a1 5 = v49 := (g1926.cell ta1 (by decide +kernel)).trans c1908
            have b1932 : 0 ≤ v1927.toInt ∧ v1927.toInt ≤ 99 := by omega
            clear p1928
            have hO1933 : FrO 14 a1 T I0 I1923 := hO1910.st g1926 (by decide +kernel)
            have ov1934 := w1929.over (by rw [c1913]; omega)
            obtain ⟨v1935, c1936⟩ : ∃ v, I1923 a0 9 = v := ⟨_, rfl⟩
            have b1937 := iv15_9 hS1930.1 ta0 c1936
            obtain ⟨v1938, c1939⟩ : ∃ v, I1923 a0 13 = v := ⟨_, rfl⟩
            obtain ⟨v1940, c1941⟩ : ∃ v, I1923 a0 14 = v := ⟨_, rfl⟩
            (try rw [c1936] at ov1934)
            (try rw [c1939] at ov1934)
            (try rw [c1941] at ov1934)
            (try rw [c1913] at ov1934)
            (try rw [c1916] at ov1934)
            (try rw [c1918] at ov1934)
            refine tr_istore dX12_readCall_126 (by decide) (by decide) ?_
            refine tr_aload_n dX12_readCall_128 rfl ?_
            refine q_getI dX12_readCall_129 fl12_99 (kR15 hS1930.1 ta0) c1936 ?_
            refine q_iconst dX12_readCall_132 (by decide) ?_
            intro v1942 h1943
            refine q_icmp_ne 137 dX12_readCall_133 (by decide) (fun h1944 => ?_) (fun h1944 => ?_)
            · skip
              exfalso; omega
            · skip
              have eF := hF.eq
              have eP := hP.eq
              obtain ⟨v1945, c1946⟩ : ∃ v, I1923 a0 10 = v := ⟨_, rfl⟩
              have b1947 := iv15_10 hS1930.1 ta0 c1946
              obtain ⟨v1948, c1949⟩ : ∃ v, I1923 a0 11 = v := ⟨_, rfl⟩
              obtain ⟨y1950, c1951⟩ : ∃ v, L1925 a0 15 = v := ⟨_, rfl⟩
              obtain ⟨v1952, c1953⟩ : ∃ v, I1923 a0 12 = v := ⟨_, rfl⟩
              obtain ⟨v1954, c1955⟩ : ∃ v, I1923 a0 8 = v := ⟨_, rfl⟩
              have b1956 := iv15_8 hS1930.1 ta0 c1955
              exact tr_vret hZ dX12_readCall_136 rfl (by decide) (by decide) ⟨rfl, rfl, rfl, rfl, rfl, hS1930, (fun dr hd => (Option.some.inj (d2.symm.trans hd)) ▸ hO1933), (Or.inr (⟨(by first | done | with_reducible assumption | omega), (by (try rw [c1936]); first | done | with_reducible assumption | omega), (by (try rw [c1939]); first | done | with_reducible assumption | omega), (by (try rw [c1941]); first | done | with_reducible assumption | omega), trivial⟩)), trivial⟩
        · skip
          refine tr_aload_n dX12_readCall_55 rfl ?_
          refine q_iconst dX12_readCall_56 (by decide) ?_
          intro v1957 h1958
          obtain ⟨v1959, c1960⟩ : ∃ v, I68 a0 8 = v := ⟨_, rfl⟩
          have b1961 := iv15_8 hS76.1 ta0 c1960
          refine q_callVv hE (M' := mX12_flaw) (as := [_]) dX12_readCall_57 lk12_145 inX12_flaw seX12_flaw myX12_flaw (by decide) ⟨by decide, by decide⟩ rfl (kR15 hS76.1 ta0) (Nat.le_of_ble_eq_true rfl) rfl rfl (by decide) (by decide) (k_X12_flaw hS76.1 ta0 (by omega)) ?_
          rintro cn' K' N' I1962 R1963 L1964 ⟨rfl, rfl, rfl, rfl, rfl, g1965, p1967, p1968, w1969, -⟩
          have hS1970 := hS76.tr g1965 (by decide +kernel) (by decide +kernel)
          have c1971 : I1962 a1 5 = v49 := (g1965.cell ta1 (by decide +kernel)).trans c77
          have c1972 : I1962 a0 8 = v1959 := (g1965.cell ta0 (by decide +kernel)).trans c1960
          obtain ⟨v1973, c1974⟩ : ∃ v, I1962 a0 9 = v := ⟨_, rfl⟩
          have b1975 := iv15_9 hS1970.1 ta0 c1974
          rw [c1974] at p1967
          rw [c1972] at p1968
          rw [c1960] at p1968
          have hO1976 : FrO 14 a1 T I0 I1962 := hO78.st g1965 (by decide +kernel)
          have ov1977 := w1969.over (by rw [c1655]; omega)
          obtain ⟨v1978, c1979⟩ : ∃ v, I1962 a0 9 = v := ⟨_, rfl⟩
          have b1980 := iv15_9 hS1970.1 ta0 c1979
          obtain ⟨v1981, c1982⟩ : ∃ v, I1962 a0 13 = v := ⟨_, rfl⟩
          obtain ⟨v1983, c1984⟩ : ∃ v, I1962 a0 14 = v := ⟨_, rfl⟩
          (try rw [c1979] at ov1977)
          (try rw [c1982] at ov1977)
          (try rw [c1984] at ov1977)
          (try rw [c1655] at ov1977)
          (try rw [c1658] at ov1977)
          (try rw [c1660] at ov1977)
          refine tr_aload_n dX12_readCall_60 rfl ?_
          refine q_getI dX12_readCall_61 fl12_99 (kR15 hS1970.1 ta0) c1979 ?_
          refine q_iconst dX12_readCall_64 (by decide) ?_
          intro v1985 h1986
          refine q_icmp_ne 72 dX12_readCall_65 (by decide) (fun h1987 => ?_) (fun h1987 => ?_)
          · skip
            exfalso; omega
          · skip
            refine q_iconst dX12_readCall_68 (by decide) ?_
            intro v1988 h1989
            refine tr_goto 81 dX12_readCall_69 (by decide) ?_
            refine tr_istore_n dX12_readCall_81 (by decide) (by decide) ?_
            refine tr_aload_n dX12_readCall_82 rfl ?_
            refine q_callVv hE (M' := mX12_goesOn) (as := []) dX12_readCall_83 lk12_142 inX12_goesOn seX12_goesOn myX12_goesOn (by decide) ⟨by decide, by decide⟩ rfl (kR15 hS1970.1 ta0) (Nat.le_of_ble_eq_true rfl) rfl rfl (by decide) (by decide) (k_X12_goesOn hS1970.1 ta0) ?_
            rintro cn' K' N' I1990 R1991 L1992 ⟨rfl, rfl, rfl, rfl, g1993, p1995, p1996, p1997, w1998, -⟩
            have hS1999 := hS1970.tr g1993 (by decide +kernel) (by decide +kernel)
            have c2000 : I1990 a1 5 = v49 := (g1993.cell ta1 (by decide +kernel)).trans c1971
            have c2001 : I1990 a0 13 = v1981 := (g1993.cell ta0 (by decide +kernel)).trans c1982
            have c2002 : I1990 a0 14 = v1983 := (g1993.cell ta0 (by decide +kernel)).trans c1984
            obtain ⟨v2003, c2004⟩ : ∃ v, I1990 a0 9 = v := ⟨_, rfl⟩
            have b2005 := iv15_9 hS1999.1 ta0 c2004
            rw [c1979] at p1995
            rw [c2004] at p1995
            rw [c1979] at p1996
            rw [c2004] at p1996
            obtain ⟨v2006, c2007⟩ : ∃ v, I1990 a0 8 = v := ⟨_, rfl⟩
            have b2008 := iv15_8 hS1999.1 ta0 c2007
            rw [c2007] at p1997
            rw [c1972] at p1997
            rw [c2001] at p1997
            rw [c1982] at p1997
            have hO2009 : FrO 14 a1 T I0 I1990 := hO1976.st g1993 (by decide +kernel)
            have ov2010 := w1998.over (by rw [c1979]; omega)
            obtain ⟨v2011, c2012⟩ : ∃ v, I1990 a0 9 = v := ⟨_, rfl⟩
            have b2013 := iv15_9 hS1999.1 ta0 c2012
            obtain ⟨v2014, c2015⟩ : ∃ v, I1990 a0 13 = v := ⟨_, rfl⟩
            obtain ⟨v2016, c2017⟩ : ∃ v, I1990 a0 14 = v := ⟨_, rfl⟩
            (try rw [c2012] at ov2010)
            (try rw [c2015] at ov2010)
            (try rw [c2017] at ov2010)
            (try rw [c1979] at ov2010)
            (try rw [c1982] at ov2010)
            (try rw [c1984] at ov2010)
            refine tr_aload_n dX12_readCall_86 rfl ?_
            refine tr_ldcwS dX12_readCall_87 ld12_352 ?_
            refine q_iconst dX12_readCall_90 (by decide) ?_
            intro v2018 h2019
            refine tr_aload_n dX12_readCall_91 rfl ?_
            refine tr_getR dX12_readCall_92 fl12_188 (kR15 hS1999.1 ta0) d2 ?_
            refine q_getI dX12_readCall_95 fl12_192 (kR14 hS1999.1 ta1) ((hS1999.cell ta1 (by decide +kernel)).trans c30) ?_
            refine q_iconst dX12_readCall_98 (by decide) ?_
            intro v2020 h2021
            refine q_isubE dX12_readCall_99 (by intros; omega) ?_
            intro v2022 h2023
            refine q_callVi hE (M' := mX12_readPart) (as := [_, _, _]) dX12_readCall_100 lk12_249 inX12_readPart seX12_readPart myX12_readPart (by decide) ⟨by decide, by decide⟩ rfl (kR15 hS1999.1 ta0) (Nat.le_of_ble_eq_true rfl) rfl rfl (by decide) (by decide) (k_X12_readPart hS1999.1 ta0 (by decide)) ?_
            rintro v2028 cn' K' N' I2024 R2025 L2026 ⟨rfl, rfl, rfl, rfl, g2027, p2029, w2030, -⟩
            have hS2031 := hS1999.tr g2027 (by decide +kernel) (by decide +kernel)
            have c2032 : I2024 a1 5 = v49 := (g2027.cell ta1 (by decide +kernel)).trans c2000
            have b2033 : 0 ≤ v2028.toInt ∧ v2028.toInt ≤ 239 := by omega
            clear p2029
            have hO2034 : FrO 14 a1 T I0 I2024 := hO2009.st g2027 (by decide +kernel)
            have ov2035 := w2030.over (by rw [c2012]; omega)
            obtain ⟨v2036, c2037⟩ : ∃ v, I2024 a0 9 = v := ⟨_, rfl⟩
            have b2038 := iv15_9 hS2031.1 ta0 c2037
            obtain ⟨v2039, c2040⟩ : ∃ v, I2024 a0 13 = v := ⟨_, rfl⟩
            obtain ⟨v2041, c2042⟩ : ∃ v, I2024 a0 14 = v := ⟨_, rfl⟩
            (try rw [c2037] at ov2035)
            (try rw [c2040] at ov2035)
            (try rw [c2042] at ov2035)
            (try rw [c2012] at ov2035)
            (try rw [c2015] at ov2035)
            (try rw [c2017] at ov2035)
            refine tr_istore_n dX12_readCall_103 (by decide) (by decide) ?_
            refine tr_aload_n dX12_readCall_104 rfl ?_
            refine tr_ldcwS dX12_readCall_105 ld12_354 ?_
            refine q_iconst dX12_readCall_108 (by decide) ?_
            intro v2043 h2044
            refine q_bipush dX12_readCall_109 (by decide +kernel) ?_
            intro v2045 h2046
            refine q_callVi hE (M' := mX12_readPart) (as := [_, _, _]) dX12_readCall_111 lk12_249 inX12_readPart seX12_readPart myX12_readPart (by decide) ⟨by decide, by decide⟩ rfl (kR15 hS2031.1 ta0) (Nat.le_of_ble_eq_true rfl) rfl rfl (by decide) (by decide) (k_X12_readPart hS2031.1 ta0 (by decide)) ?_
            rintro v2051 cn' K' N' I2047 R2048 L2049 ⟨rfl, rfl, rfl, rfl, g2050, p2052, w2053, -⟩
            have hS2054 := hS2031.tr g2050 (by decide +kernel) (by decide +kernel)
            have c2055 : I2047 a1 5 = v49 := (g2050.cell ta1 (by decide +kernel)).trans c2032
            have b2056 : 1 ≤ v2051.toInt ∧ v2051.toInt ≤ 60 := by omega
            clear p2052
            have hO2057 : FrO 14 a1 T I0 I2047 := hO2034.st g2050 (by decide +kernel)
            have ov2058 := w2053.over (by rw [c2037]; omega)
            obtain ⟨v2059, c2060⟩ : ∃ v, I2047 a0 9 = v := ⟨_, rfl⟩
            have b2061 := iv15_9 hS2054.1 ta0 c2060
            obtain ⟨v2062, c2063⟩ : ∃ v, I2047 a0 13 = v := ⟨_, rfl⟩
            obtain ⟨v2064, c2065⟩ : ∃ v, I2047 a0 14 = v := ⟨_, rfl⟩
            (try rw [c2060] at ov2058)
            (try rw [c2063] at ov2058)
            (try rw [c2065] at ov2058)
            (try rw [c2037] at ov2058)
            (try rw [c2040] at ov2058)
            (try rw [c2042] at ov2058)
            refine tr_istore dX12_readCall_114 (by decide) (by decide) ?_
            refine tr_aload_n dX12_readCall_116 rfl ?_
            refine tr_ldcwS dX12_readCall_117 ld12_356 ?_
            refine q_iconst dX12_readCall_120 (by decide) ?_
            intro v2066 h2067
            refine q_bipush dX12_readCall_121 (by decide +kernel) ?_
            intro v2068 h2069
            refine q_callVi hE (M' := mX12_readPart) (as := [_, _, _]) dX12_readCall_123 lk12_249 inX12_readPart seX12_readPart myX12_readPart (by decide) ⟨by decide, by decide⟩ rfl (kR15 hS2054.1 ta0) (Nat.le_of_ble_eq_true rfl) rfl rfl (by decide) (by decide) (k_X12_readPart hS2054.1 ta0 (by decide)) ?_
            rintro v2074 cn' K' N' I2070 R2071 L2072 ⟨rfl, rfl, rfl, rfl, g2073, p2075, w2076, -⟩
            have hS2077 := hS2054.tr g2073 (by decide +kernel) (by decide +kernel)
            have c2078 : I2070 a1 5 = v49 := (g2073.cell ta1 (by decide +kernel)).trans c2055
            have b2079 : 0 ≤ v2074.toInt ∧ v2074.toInt ≤ 99 := by omega
            clear p2075
            have hO2080 : FrO 14 a1 T I0 I2070 := hO2057.st g2073 (by decide +kernel)
            have ov2081 := w2076.over (by rw [c2060]; omega)
            obtain ⟨v2082, c2083⟩ : ∃ v, I2070 a0 9 = v := ⟨_, rfl⟩
            have b2084 := iv15_9 hS2077.1 ta0 c2083
            obtain ⟨v2085, c2086⟩ : ∃ v, I2070 a0 13 = v := ⟨_, rfl⟩
            obtain ⟨v2087, c2088⟩ : ∃ v, I2070 a0 14 = v := ⟨_, rfl⟩
            (try rw [c2083] at ov2081)
            (try rw [c2086] at ov2081)
            (try rw [c2088] at ov2081)
            (try rw [c2060] at ov2081)
            (try rw [c2063] at ov2081)
            (try rw [c2065] at ov2081)
            refine tr_istore dX12_readCall_126 (by decide) (by decide) ?_
            refine tr_aload_n dX12_readCall_128 rfl ?_
            refine q_getI dX12_readCall_129 fl12_99 (kR15 hS2077.1 ta0) c2083 ?_
            refine q_iconst dX12_readCall_132 (by decide) ?_
            intro v2089 h2090
            refine q_icmp_ne 137 dX12_readCall_133 (by decide) (fun h2091 => ?_) (fun h2091 => ?_)
            · skip
              exfalso; omega
            · skip
              have eF := hF.eq
              have eP := hP.eq
              obtain ⟨v2092, c2093⟩ : ∃ v, I2070 a0 10 = v := ⟨_, rfl⟩
              have b2094 := iv15_10 hS2077.1 ta0 c2093
              obtain ⟨v2095, c2096⟩ : ∃ v, I2070 a0 11 = v := ⟨_, rfl⟩
              obtain ⟨y2097, c2098⟩ : ∃ v, L2072 a0 15 = v := ⟨_, rfl⟩
              obtain ⟨v2099, c2100⟩ : ∃ v, I2070 a0 12 = v := ⟨_, rfl⟩
              obtain ⟨v2101, c2102⟩ : ∃ v, I2070 a0 8 = v := ⟨_, rfl⟩
              have b2103 := iv15_8 hS2077.1 ta0 c2102
              exact tr_vret hZ dX12_readCall_136 rfl (by decide) (by decide) ⟨rfl, rfl, rfl, rfl, rfl, hS2077, (fun dr hd => (Option.some.inj (d2.symm.trans hd)) ▸ hO2080), (Or.inr (⟨(by first | done | with_reducible assumption | omega), (by (try rw [c2083]); first | done | with_reducible assumption | omega), (by (try rw [c2086]); first | done | with_reducible assumption | omega), (by (try rw [c2088]); first | done | with_reducible assumption | omega), trivial⟩)), trivial⟩
    · skip
      refine tr_aload_n dX12_readCall_20 rfl ?_
      refine q_iconst dX12_readCall_21 (by decide) ?_
      intro v2104 h2105
      obtain ⟨v2106, c2107⟩ : ∃ v, I68 a0 8 = v := ⟨_, rfl⟩
      have b2108 := iv15_8 hS76.1 ta0 c2107
      refine q_callVv hE (M' := mX12_flaw) (as := [_]) dX12_readCall_22 lk12_145 inX12_flaw seX12_flaw myX12_flaw (by decide) ⟨by decide, by decide⟩ rfl (kR15 hS76.1 ta0) (Nat.le_of_ble_eq_true rfl) rfl rfl (by decide) (by decide) (k_X12_flaw hS76.1 ta0 (by omega)) ?_
      rintro cn' K' N' I2109 R2110 L2111 ⟨rfl, rfl, rfl, rfl, rfl, g2112, p2114, p2115, w2116, -⟩
      have hS2117 := hS76.tr g2112 (by decide +kernel) (by decide +kernel)
      have c2118 : I2109 a1 5 = v49 := (g2112.cell ta1 (by decide +kernel)).trans c77
      have c2119 : I2109 a0 8 = v2106 := (g2112.cell ta0 (by decide +kernel)).trans c2107
      obtain ⟨v2120, c2121⟩ : ∃ v, I2109 a0 9 = v := ⟨_, rfl⟩
      have b2122 := iv15_9 hS2117.1 ta0 c2121
      rw [c2121] at p2114
      rw [c2119] at p2115
      rw [c2107] at p2115
      have hO2123 : FrO 14 a1 T I0 I2109 := hO78.st g2112 (by decide +kernel)
      have ov2124 := w2116.over (by rw [c1655]; omega)
      obtain ⟨v2125, c2126⟩ : ∃ v, I2109 a0 9 = v := ⟨_, rfl⟩
      have b2127 := iv15_9 hS2117.1 ta0 c2126
      obtain ⟨v2128, c2129⟩ : ∃ v, I2109 a0 13 = v := ⟨_, rfl⟩
      obtain ⟨v2130, c2131⟩ : ∃ v, I2109 a0 14 = v := ⟨_, rfl⟩
      (try rw [c2126] at ov2124)
      (try rw [c2129] at ov2124)
      (try rw [c2131] at ov2124)
      (try rw [c1655] at ov2124)
      (try rw [c1658] at ov2124)
      (try rw [c1660] at ov2124)
      refine tr_aload_n dX12_readCall_25 rfl ?_
      refine tr_getR dX12_readCall_26 fl12_188 (kR15 hS2117.1 ta0) d2 ?_
      refine tr_aload_n dX12_readCall_29 rfl ?_
      have p2132 := p17 (by omega)
      obtain ⟨y2133, c2134⟩ : ∃ v, L70 a0 15 = v := ⟨_, rfl⟩
      refine q_getLE dX12_readCall_30 fl12_118 (kR15 hS2117.1 ta0) c2134 ?_
      refine q_callVi hE (M' := mX11_find) (as := [_]) dX12_readCall_33 lk12_201 inX11_find seX11_find myX11_find (by decide) ⟨by decide, by decide⟩ rfl (kR14 hS2117.1 ta1) (Nat.le_of_ble_eq_true rfl) rfl rfl (by decide) (by decide) (k_X11_find hS2117.1 ta1) ?_
      rintro v2139 cn' K' N' I2135 R2136 L2137 ⟨rfl, rfl, rfl, rfl, rfl, rfl, h2140, -⟩
      refine tr_istore_n dX12_readCall_36 (by decide) (by decide) ?_
      refine tr_iload_n dX12_readCall_37 rfl ?_
      refine q_iconst dX12_readCall_38 (by decide) ?_
      intro v2141 h2142
      refine q_icmp_eq 55 dX12_readCall_39 (by decide) (fun h2143 => ?_) (fun h2143 => ?_)
      · skip
        refine tr_aload_n dX12_readCall_55 rfl ?_
        refine q_iconst dX12_readCall_56 (by decide) ?_
        intro v2144 h2145
        refine q_callVv hE (M' := mX12_flaw) (as := [_]) dX12_readCall_57 lk12_145 inX12_flaw seX12_flaw myX12_flaw (by decide) ⟨by decide, by decide⟩ rfl (kR15 hS2117.1 ta0) (Nat.le_of_ble_eq_true rfl) rfl rfl (by decide) (by decide) (k_X12_flaw hS2117.1 ta0 (by omega)) ?_
        rintro cn' K' N' I2146 R2147 L2148 ⟨rfl, rfl, rfl, rfl, rfl, g2149, p2151, p2152, w2153, -⟩
        have hS2154 := hS2117.tr g2149 (by decide +kernel) (by decide +kernel)
        have c2155 : I2146 a1 5 = v49 := (g2149.cell ta1 (by decide +kernel)).trans c2118
        have c2156 : I2146 a0 8 = v2106 := (g2149.cell ta0 (by decide +kernel)).trans c2119
        obtain ⟨v2157, c2158⟩ : ∃ v, I2146 a0 9 = v := ⟨_, rfl⟩
        have b2159 := iv15_9 hS2154.1 ta0 c2158
        rw [c2158] at p2151
        rw [c2156] at p2152
        rw [c2119] at p2152
        have hO2160 : FrO 14 a1 T I0 I2146 := hO2123.st g2149 (by decide +kernel)
        have ov2161 := w2153.over (by rw [c2126]; omega)
        obtain ⟨v2162, c2163⟩ : ∃ v, I2146 a0 9 = v := ⟨_, rfl⟩
        have b2164 := iv15_9 hS2154.1 ta0 c2163
        obtain ⟨v2165, c2166⟩ : ∃ v, I2146 a0 13 = v := ⟨_, rfl⟩
        obtain ⟨v2167, c2168⟩ : ∃ v, I2146 a0 14 = v := ⟨_, rfl⟩
        (try rw [c2163] at ov2161)
        (try rw [c2166] at ov2161)
        (try rw [c2168] at ov2161)
        (try rw [c2126] at ov2161)
        (try rw [c2129] at ov2161)
        (try rw [c2131] at ov2161)
        refine tr_aload_n dX12_readCall_60 rfl ?_
        refine q_getI dX12_readCall_61 fl12_99 (kR15 hS2154.1 ta0) c2163 ?_
        refine q_iconst dX12_readCall_64 (by decide) ?_
        intro v2169 h2170
        refine q_icmp_ne 72 dX12_readCall_65 (by decide) (fun h2171 => ?_) (fun h2171 => ?_)
        · skip
          exfalso; omega
        · skip
          refine q_iconst dX12_readCall_68 (by decide) ?_
          intro v2172 h2173
          refine tr_goto 81 dX12_readCall_69 (by decide) ?_
          refine tr_istore_n dX12_readCall_81 (by decide) (by decide) ?_
          refine tr_aload_n dX12_readCall_82 rfl ?_
          refine q_callVv hE (M' := mX12_goesOn) (as := []) dX12_readCall_83 lk12_142 inX12_goesOn seX12_goesOn myX12_goesOn (by decide) ⟨by decide, by decide⟩ rfl (kR15 hS2154.1 ta0) (Nat.le_of_ble_eq_true rfl) rfl rfl (by decide) (by decide) (k_X12_goesOn hS2154.1 ta0) ?_
          rintro cn' K' N' I2174 R2175 L2176 ⟨rfl, rfl, rfl, rfl, g2177, p2179, p2180, p2181, w2182, -⟩
          have hS2183 := hS2154.tr g2177 (by decide +kernel) (by decide +kernel)
          have c2184 : I2174 a1 5 = v49 := (g2177.cell ta1 (by decide +kernel)).trans c2155
          have c2185 : I2174 a0 13 = v2165 := (g2177.cell ta0 (by decide +kernel)).trans c2166
          have c2186 : I2174 a0 14 = v2167 := (g2177.cell ta0 (by decide +kernel)).trans c2168
          obtain ⟨v2187, c2188⟩ : ∃ v, I2174 a0 9 = v := ⟨_, rfl⟩
          have b2189 := iv15_9 hS2183.1 ta0 c2188
          rw [c2163] at p2179
          rw [c2188] at p2179
          rw [c2163] at p2180
          rw [c2188] at p2180
          obtain ⟨v2190, c2191⟩ : ∃ v, I2174 a0 8 = v := ⟨_, rfl⟩
          have b2192 := iv15_8 hS2183.1 ta0 c2191
          rw [c2191] at p2181
          rw [c2156] at p2181
          rw [c2185] at p2181
          rw [c2166] at p2181
          have hO2193 : FrO 14 a1 T I0 I2174 := hO2160.st g2177 (by decide +kernel)
          have ov2194 := w2182.over (by rw [c2163]; omega)
          obtain ⟨v2195, c2196⟩ : ∃ v, I2174 a0 9 = v := ⟨_, rfl⟩
          have b2197 := iv15_9 hS2183.1 ta0 c2196
          obtain ⟨v2198, c2199⟩ : ∃ v, I2174 a0 13 = v := ⟨_, rfl⟩
          obtain ⟨v2200, c2201⟩ : ∃ v, I2174 a0 14 = v := ⟨_, rfl⟩
          (try rw [c2196] at ov2194)
          (try rw [c2199] at ov2194)
          (try rw [c2201] at ov2194)
          (try rw [c2163] at ov2194)
          (try rw [c2166] at ov2194)
          (try rw [c2168] at ov2194)
          refine tr_aload_n dX12_readCall_86 rfl ?_
          refine tr_ldcwS dX12_readCall_87 ld12_352 ?_
          refine q_iconst dX12_readCall_90 (by decide) ?_
          intro v2202 h2203
          refine tr_aload_n dX12_readCall_91 rfl ?_
          refine tr_getR dX12_readCall_92 fl12_188 (kR15 hS2183.1 ta0) d2 ?_
          refine q_getI dX12_readCall_95 fl12_192 (kR14 hS2183.1 ta1) ((hS2183.cell ta1 (by decide +kernel)).trans c30) ?_
          refine q_iconst dX12_readCall_98 (by decide) ?_
          intro v2204 h2205
          refine q_isubE dX12_readCall_99 (by intros; omega) ?_
          intro v2206 h2207
          refine q_callVi hE (M' := mX12_readPart) (as := [_, _, _]) dX12_readCall_100 lk12_249 inX12_readPart seX12_readPart myX12_readPart (by decide) ⟨by decide, by decide⟩ rfl (kR15 hS2183.1 ta0) (Nat.le_of_ble_eq_true rfl) rfl rfl (by decide) (by decide) (k_X12_readPart hS2183.1 ta0 (by decide)) ?_
          rintro v2212 cn' K' N' I2208 R2209 L2210 ⟨rfl, rfl, rfl, rfl, g2211, p2213, w2214, -⟩
          have hS2215 := hS2183.tr g2211 (by decide +kernel) (by decide +kernel)
          have c2216 : I2208 a1 5 = v49 := (g2211.cell ta1 (by decide +kernel)).trans c2184
          have b2217 : 0 ≤ v2212.toInt ∧ v2212.toInt ≤ 239 := by omega
          clear p2213
          have hO2218 : FrO 14 a1 T I0 I2208 := hO2193.st g2211 (by decide +kernel)
          have ov2219 := w2214.over (by rw [c2196]; omega)
          obtain ⟨v2220, c2221⟩ : ∃ v, I2208 a0 9 = v := ⟨_, rfl⟩
          have b2222 := iv15_9 hS2215.1 ta0 c2221
          obtain ⟨v2223, c2224⟩ : ∃ v, I2208 a0 13 = v := ⟨_, rfl⟩
          obtain ⟨v2225, c2226⟩ : ∃ v, I2208 a0 14 = v := ⟨_, rfl⟩
          (try rw [c2221] at ov2219)
          (try rw [c2224] at ov2219)
          (try rw [c2226] at ov2219)
          (try rw [c2196] at ov2219)
          (try rw [c2199] at ov2219)
          (try rw [c2201] at ov2219)
          refine tr_istore_n dX12_readCall_103 (by decide) (by decide) ?_
          refine tr_aload_n dX12_readCall_104 rfl ?_
          refine tr_ldcwS dX12_readCall_105 ld12_354 ?_
          refine q_iconst dX12_readCall_108 (by decide) ?_
          intro v2227 h2228
          refine q_bipush dX12_readCall_109 (by decide +kernel) ?_
          intro v2229 h2230
          refine q_callVi hE (M' := mX12_readPart) (as := [_, _, _]) dX12_readCall_111 lk12_249 inX12_readPart seX12_readPart myX12_readPart (by decide) ⟨by decide, by decide⟩ rfl (kR15 hS2215.1 ta0) (Nat.le_of_ble_eq_true rfl) rfl rfl (by decide) (by decide) (k_X12_readPart hS2215.1 ta0 (by decide)) ?_
          rintro v2235 cn' K' N' I2231 R2232 L2233 ⟨rfl, rfl, rfl, rfl, g2234, p2236, w2237, -⟩
          have hS2238 := hS2215.tr g2234 (by decide +kernel) (by decide +kernel)
          have c2239 : I2231 a1 5 = v49 := (g2234.cell ta1 (by decide +kernel)).trans c2216
          have b2240 : 1 ≤ v2235.toInt ∧ v2235.toInt ≤ 60 := by omega
          clear p2236
          have hO2241 : FrO 14 a1 T I0 I2231 := hO2218.st g2234 (by decide +kernel)
          have ov2242 := w2237.over (by rw [c2221]; omega)
          obtain ⟨v2243, c2244⟩ : ∃ v, I2231 a0 9 = v := ⟨_, rfl⟩
          have b2245 := iv15_9 hS2238.1 ta0 c2244
          obtain ⟨v2246, c2247⟩ : ∃ v, I2231 a0 13 = v := ⟨_, rfl⟩
          obtain ⟨v2248, c2249⟩ : ∃ v, I2231 a0 14 = v := ⟨_, rfl⟩
          (try rw [c2244] at ov2242)
          (try rw [c2247] at ov2242)
          (try rw [c2249] at ov2242)
          (try rw [c2221] at ov2242)
          (try rw [c2224] at ov2242)
          (try rw [c2226] at ov2242)
          refine tr_istore dX12_readCall_114 (by decide) (by decide) ?_
          refine tr_aload_n dX12_readCall_116 rfl ?_
          refine tr_ldcwS dX12_readCall_117 ld12_356 ?_
          refine q_iconst dX12_readCall_120 (by decide) ?_
          intro v2250 h2251
          refine q_bipush dX12_readCall_121 (by decide +kernel) ?_
          intro v2252 h2253
          refine q_callVi hE (M' := mX12_readPart) (as := [_, _, _]) dX12_readCall_123 lk12_249 inX12_readPart seX12_readPart myX12_readPart (by decide) ⟨by decide, by decide⟩ rfl (kR15 hS2238.1 ta0) (Nat.le_of_ble_eq_true rfl) rfl rfl (by decide) (by decide) (k_X12_readPart hS2238.1 ta0 (by decide)) ?_
          rintro v2258 cn' K' N' I2254 R2255 L2256 ⟨rfl, rfl, rfl, rfl, g2257, p2259, w2260, -⟩
          have hS2261 := hS2238.tr g2257 (by decide +kernel) (by decide +kernel)
          have c2262 : I2254 a1 5 = v49 := (g2257.cell ta1 (by decide +kernel)).trans c2239
          have b2263 : 0 ≤ v2258.toInt ∧ v2258.toInt ≤ 99 := by omega
          clear p2259
          have hO2264 : FrO 14 a1 T I0 I2254 := hO2241.st g2257 (by decide +kernel)
          have ov2265 := w2260.over (by rw [c2244]; omega)
          obtain ⟨v2266, c2267⟩ : ∃ v, I2254 a0 9 = v := ⟨_, rfl⟩
          have b2268 := iv15_9 hS2261.1 ta0 c2267
          obtain ⟨v2269, c2270⟩ : ∃ v, I2254 a0 13 = v := ⟨_, rfl⟩
          obtain ⟨v2271, c2272⟩ : ∃ v, I2254 a0 14 = v := ⟨_, rfl⟩
          (try rw [c2267] at ov2265)
          (try rw [c2270] at ov2265)
          (try rw [c2272] at ov2265)
          (try rw [c2244] at ov2265)
          (try rw [c2247] at ov2265)
          (try rw [c2249] at ov2265)
          refine tr_istore dX12_readCall_126 (by decide) (by decide) ?_
          refine tr_aload_n dX12_readCall_128 rfl ?_
          refine q_getI dX12_readCall_129 fl12_99 (kR15 hS2261.1 ta0) c2267 ?_
          refine q_iconst dX12_readCall_132 (by decide) ?_
          intro v2273 h2274
          refine q_icmp_ne 137 dX12_readCall_133 (by decide) (fun h2275 => ?_) (fun h2275 => ?_)
          · skip
            exfalso; omega
          · skip
            have eF := hF.eq
            have eP := hP.eq
            obtain ⟨v2276, c2277⟩ : ∃ v, I2254 a0 10 = v := ⟨_, rfl⟩
            have b2278 := iv15_10 hS2261.1 ta0 c2277
            obtain ⟨v2279, c2280⟩ : ∃ v, I2254 a0 11 = v := ⟨_, rfl⟩
            obtain ⟨y2281, c2282⟩ : ∃ v, L2256 a0 15 = v := ⟨_, rfl⟩
            obtain ⟨v2283, c2284⟩ : ∃ v, I2254 a0 12 = v := ⟨_, rfl⟩
            obtain ⟨v2285, c2286⟩ : ∃ v, I2254 a0 8 = v := ⟨_, rfl⟩
            have b2287 := iv15_8 hS2261.1 ta0 c2286
            exact tr_vret hZ dX12_readCall_136 rfl (by decide) (by decide) ⟨rfl, rfl, rfl, rfl, rfl, hS2261, (fun dr hd => (Option.some.inj (d2.symm.trans hd)) ▸ hO2264), (Or.inr (⟨(by first | done | with_reducible assumption | omega), (by (try rw [c2267]); first | done | with_reducible assumption | omega), (by (try rw [c2270]); first | done | with_reducible assumption | omega), (by (try rw [c2272]); first | done | with_reducible assumption | omega), trivial⟩)), trivial⟩
      · skip
        refine tr_aload_n dX12_readCall_42 rfl ?_
        refine tr_getR dX12_readCall_43 fl12_188 (kR15 hS2117.1 ta0) d2 ?_
        obtain ⟨a2288, d2289, ta2288⟩ := rf14_31 hW0 ta1
        refine tr_getR dX12_readCall_46 fl12_212 (kR14 hS2117.1 ta1) d2289 ?_
        refine tr_iload_n dX12_readCall_49 rfl ?_
        refine q_iald dX12_readCall_50 (kR74 hS2117.1 ta2288) (ti_in (nR74 hS2117.1 ta2288) (by omega) (by omega)) ?_
        intro v2290 c2291
        refine q_iconst dX12_readCall_51 (by decide) ?_
        intro v2292 h2293
        refine q_icmp_eq 60 dX12_readCall_52 (by decide) (fun h2294 => ?_) (fun h2294 => ?_)
        · skip
          refine tr_aload_n dX12_readCall_60 rfl ?_
          refine q_getI dX12_readCall_61 fl12_99 (kR15 hS2117.1 ta0) c2126 ?_
          refine q_iconst dX12_readCall_64 (by decide) ?_
          intro v2295 h2296
          refine q_icmp_ne 72 dX12_readCall_65 (by decide) (fun h2297 => ?_) (fun h2297 => ?_)
          · skip
            exfalso; omega
          · skip
            refine q_iconst dX12_readCall_68 (by decide) ?_
            intro v2298 h2299
            refine tr_goto 81 dX12_readCall_69 (by decide) ?_
            refine tr_istore_n dX12_readCall_81 (by decide) (by decide) ?_
            refine tr_aload_n dX12_readCall_82 rfl ?_
            refine q_callVv hE (M' := mX12_goesOn) (as := []) dX12_readCall_83 lk12_142 inX12_goesOn seX12_goesOn myX12_goesOn (by decide) ⟨by decide, by decide⟩ rfl (kR15 hS2117.1 ta0) (Nat.le_of_ble_eq_true rfl) rfl rfl (by decide) (by decide) (k_X12_goesOn hS2117.1 ta0) ?_
            rintro cn' K' N' I2300 R2301 L2302 ⟨rfl, rfl, rfl, rfl, g2303, p2305, p2306, p2307, w2308, -⟩
            have hS2309 := hS2117.tr g2303 (by decide +kernel) (by decide +kernel)
            have c2310 : I2300 a1 5 = v49 := (g2303.cell ta1 (by decide +kernel)).trans c2118
            have c2311 : I2300 a0 13 = v2128 := (g2303.cell ta0 (by decide +kernel)).trans c2129
            have c2312 : I2300 a0 14 = v2130 := (g2303.cell ta0 (by decide +kernel)).trans c2131
            obtain ⟨v2313, c2314⟩ : ∃ v, I2300 a0 9 = v := ⟨_, rfl⟩
            have b2315 := iv15_9 hS2309.1 ta0 c2314
            rw [c2126] at p2305
            rw [c2314] at p2305
            rw [c2126] at p2306
            rw [c2314] at p2306
            obtain ⟨v2316, c2317⟩ : ∃ v, I2300 a0 8 = v := ⟨_, rfl⟩
            have b2318 := iv15_8 hS2309.1 ta0 c2317
            rw [c2317] at p2307
            rw [c2119] at p2307
            rw [c2311] at p2307
            rw [c2129] at p2307
            have hO2319 : FrO 14 a1 T I0 I2300 := hO2123.st g2303 (by decide +kernel)
            have ov2320 := w2308.over (by rw [c2126]; omega)
            obtain ⟨v2321, c2322⟩ : ∃ v, I2300 a0 9 = v := ⟨_, rfl⟩
            have b2323 := iv15_9 hS2309.1 ta0 c2322
            obtain ⟨v2324, c2325⟩ : ∃ v, I2300 a0 13 = v := ⟨_, rfl⟩
            obtain ⟨v2326, c2327⟩ : ∃ v, I2300 a0 14 = v := ⟨_, rfl⟩
            (try rw [c2322] at ov2320)
            (try rw [c2325] at ov2320)
            (try rw [c2327] at ov2320)
            (try rw [c2126] at ov2320)
            (try rw [c2129] at ov2320)
            (try rw [c2131] at ov2320)
            refine tr_aload_n dX12_readCall_86 rfl ?_
            refine tr_ldcwS dX12_readCall_87 ld12_352 ?_
            refine q_iconst dX12_readCall_90 (by decide) ?_
            intro v2328 h2329
            refine tr_aload_n dX12_readCall_91 rfl ?_
            refine tr_getR dX12_readCall_92 fl12_188 (kR15 hS2309.1 ta0) d2 ?_
            refine q_getI dX12_readCall_95 fl12_192 (kR14 hS2309.1 ta1) ((hS2309.cell ta1 (by decide +kernel)).trans c30) ?_
            refine q_iconst dX12_readCall_98 (by decide) ?_
            intro v2330 h2331
            refine q_isubE dX12_readCall_99 (by intros; omega) ?_
            intro v2332 h2333
            refine q_callVi hE (M' := mX12_readPart) (as := [_, _, _]) dX12_readCall_100 lk12_249 inX12_readPart seX12_readPart myX12_readPart (by decide) ⟨by decide, by decide⟩ rfl (kR15 hS2309.1 ta0) (Nat.le_of_ble_eq_true rfl) rfl rfl (by decide) (by decide) (k_X12_readPart hS2309.1 ta0 (by decide)) ?_
            rintro v2338 cn' K' N' I2334 R2335 L2336 ⟨rfl, rfl, rfl, rfl, g2337, p2339, w2340, -⟩
            have hS2341 := hS2309.tr g2337 (by decide +kernel) (by decide +kernel)
            have c2342 : I2334 a1 5 = v49 := (g2337.cell ta1 (by decide +kernel)).trans c2310
            have b2343 : 0 ≤ v2338.toInt ∧ v2338.toInt ≤ 239 := by omega
            clear p2339
            have hO2344 : FrO 14 a1 T I0 I2334 := hO2319.st g2337 (by decide +kernel)
            have ov2345 := w2340.over (by rw [c2322]; omega)
            obtain ⟨v2346, c2347⟩ : ∃ v, I2334 a0 9 = v := ⟨_, rfl⟩
            have b2348 := iv15_9 hS2341.1 ta0 c2347
            obtain ⟨v2349, c2350⟩ : ∃ v, I2334 a0 13 = v := ⟨_, rfl⟩
            obtain ⟨v2351, c2352⟩ : ∃ v, I2334 a0 14 = v := ⟨_, rfl⟩
            (try rw [c2347] at ov2345)
            (try rw [c2350] at ov2345)
            (try rw [c2352] at ov2345)
            (try rw [c2322] at ov2345)
            (try rw [c2325] at ov2345)
            (try rw [c2327] at ov2345)
            refine tr_istore_n dX12_readCall_103 (by decide) (by decide) ?_
            refine tr_aload_n dX12_readCall_104 rfl ?_
            refine tr_ldcwS dX12_readCall_105 ld12_354 ?_
            refine q_iconst dX12_readCall_108 (by decide) ?_
            intro v2353 h2354
            refine q_bipush dX12_readCall_109 (by decide +kernel) ?_
            intro v2355 h2356
            refine q_callVi hE (M' := mX12_readPart) (as := [_, _, _]) dX12_readCall_111 lk12_249 inX12_readPart seX12_readPart myX12_readPart (by decide) ⟨by decide, by decide⟩ rfl (kR15 hS2341.1 ta0) (Nat.le_of_ble_eq_true rfl) rfl rfl (by decide) (by decide) (k_X12_readPart hS2341.1 ta0 (by decide)) ?_
            rintro v2361 cn' K' N' I2357 R2358 L2359 ⟨rfl, rfl, rfl, rfl, g2360, p2362, w2363, -⟩
            have hS2364 := hS2341.tr g2360 (by decide +kernel) (by decide +kernel)
            have c2365 : I2357 a1 5 = v49 := (g2360.cell ta1 (by decide +kernel)).trans c2342
            have b2366 : 1 ≤ v2361.toInt ∧ v2361.toInt ≤ 60 := by omega
            clear p2362
            have hO2367 : FrO 14 a1 T I0 I2357 := hO2344.st g2360 (by decide +kernel)
            have ov2368 := w2363.over (by rw [c2347]; omega)
            obtain ⟨v2369, c2370⟩ : ∃ v, I2357 a0 9 = v := ⟨_, rfl⟩
            have b2371 := iv15_9 hS2364.1 ta0 c2370
            obtain ⟨v2372, c2373⟩ : ∃ v, I2357 a0 13 = v := ⟨_, rfl⟩
            obtain ⟨v2374, c2375⟩ : ∃ v, I2357 a0 14 = v := ⟨_, rfl⟩
            (try rw [c2370] at ov2368)
            (try rw [c2373] at ov2368)
            (try rw [c2375] at ov2368)
            (try rw [c2347] at ov2368)
            (try rw [c2350] at ov2368)
            (try rw [c2352] at ov2368)
            refine tr_istore dX12_readCall_114 (by decide) (by decide) ?_
            refine tr_aload_n dX12_readCall_116 rfl ?_
            refine tr_ldcwS dX12_readCall_117 ld12_356 ?_
            refine q_iconst dX12_readCall_120 (by decide) ?_
            intro v2376 h2377
            refine q_bipush dX12_readCall_121 (by decide +kernel) ?_
            intro v2378 h2379
            refine q_callVi hE (M' := mX12_readPart) (as := [_, _, _]) dX12_readCall_123 lk12_249 inX12_readPart seX12_readPart myX12_readPart (by decide) ⟨by decide, by decide⟩ rfl (kR15 hS2364.1 ta0) (Nat.le_of_ble_eq_true rfl) rfl rfl (by decide) (by decide) (k_X12_readPart hS2364.1 ta0 (by decide)) ?_
            rintro v2384 cn' K' N' I2380 R2381 L2382 ⟨rfl, rfl, rfl, rfl, g2383, p2385, w2386, -⟩
            have hS2387 := hS2364.tr g2383 (by decide +kernel) (by decide +kernel)
            have c2388 : I2380 a1 5 = v49 := (g2383.cell ta1 (by decide +kernel)).trans c2365
            have b2389 : 0 ≤ v2384.toInt ∧ v2384.toInt ≤ 99 := by omega
            clear p2385
            have hO2390 : FrO 14 a1 T I0 I2380 := hO2367.st g2383 (by decide +kernel)
            have ov2391 := w2386.over (by rw [c2370]; omega)
            obtain ⟨v2392, c2393⟩ : ∃ v, I2380 a0 9 = v := ⟨_, rfl⟩
            have b2394 := iv15_9 hS2387.1 ta0 c2393
            obtain ⟨v2395, c2396⟩ : ∃ v, I2380 a0 13 = v := ⟨_, rfl⟩
            obtain ⟨v2397, c2398⟩ : ∃ v, I2380 a0 14 = v := ⟨_, rfl⟩
            (try rw [c2393] at ov2391)
            (try rw [c2396] at ov2391)
            (try rw [c2398] at ov2391)
            (try rw [c2370] at ov2391)
            (try rw [c2373] at ov2391)
            (try rw [c2375] at ov2391)
            refine tr_istore dX12_readCall_126 (by decide) (by decide) ?_
            refine tr_aload_n dX12_readCall_128 rfl ?_
            refine q_getI dX12_readCall_129 fl12_99 (kR15 hS2387.1 ta0) c2393 ?_
            refine q_iconst dX12_readCall_132 (by decide) ?_
            intro v2399 h2400
            refine q_icmp_ne 137 dX12_readCall_133 (by decide) (fun h2401 => ?_) (fun h2401 => ?_)
            · skip
              exfalso; omega
            · skip
              have eF := hF.eq
              have eP := hP.eq
              obtain ⟨v2402, c2403⟩ : ∃ v, I2380 a0 10 = v := ⟨_, rfl⟩
              have b2404 := iv15_10 hS2387.1 ta0 c2403
              obtain ⟨v2405, c2406⟩ : ∃ v, I2380 a0 11 = v := ⟨_, rfl⟩
              obtain ⟨y2407, c2408⟩ : ∃ v, L2382 a0 15 = v := ⟨_, rfl⟩
              obtain ⟨v2409, c2410⟩ : ∃ v, I2380 a0 12 = v := ⟨_, rfl⟩
              obtain ⟨v2411, c2412⟩ : ∃ v, I2380 a0 8 = v := ⟨_, rfl⟩
              have b2413 := iv15_8 hS2387.1 ta0 c2412
              exact tr_vret hZ dX12_readCall_136 rfl (by decide) (by decide) ⟨rfl, rfl, rfl, rfl, rfl, hS2387, (fun dr hd => (Option.some.inj (d2.symm.trans hd)) ▸ hO2390), (Or.inr (⟨(by first | done | with_reducible assumption | omega), (by (try rw [c2393]); first | done | with_reducible assumption | omega), (by (try rw [c2396]); first | done | with_reducible assumption | omega), (by (try rw [c2398]); first | done | with_reducible assumption | omega), trivial⟩)), trivial⟩
        · skip
          refine tr_aload_n dX12_readCall_55 rfl ?_
          refine q_iconst dX12_readCall_56 (by decide) ?_
          intro v2414 h2415
          refine q_callVv hE (M' := mX12_flaw) (as := [_]) dX12_readCall_57 lk12_145 inX12_flaw seX12_flaw myX12_flaw (by decide) ⟨by decide, by decide⟩ rfl (kR15 hS2117.1 ta0) (Nat.le_of_ble_eq_true rfl) rfl rfl (by decide) (by decide) (k_X12_flaw hS2117.1 ta0 (by omega)) ?_
          rintro cn' K' N' I2416 R2417 L2418 ⟨rfl, rfl, rfl, rfl, rfl, g2419, p2421, p2422, w2423, -⟩
          have hS2424 := hS2117.tr g2419 (by decide +kernel) (by decide +kernel)
          have c2425 : I2416 a1 5 = v49 := (g2419.cell ta1 (by decide +kernel)).trans c2118
          have c2426 : I2416 a0 8 = v2106 := (g2419.cell ta0 (by decide +kernel)).trans c2119
          obtain ⟨v2427, c2428⟩ : ∃ v, I2416 a0 9 = v := ⟨_, rfl⟩
          have b2429 := iv15_9 hS2424.1 ta0 c2428
          rw [c2428] at p2421
          rw [c2426] at p2422
          rw [c2119] at p2422
          have hO2430 : FrO 14 a1 T I0 I2416 := hO2123.st g2419 (by decide +kernel)
          have ov2431 := w2423.over (by rw [c2126]; omega)
          obtain ⟨v2432, c2433⟩ : ∃ v, I2416 a0 9 = v := ⟨_, rfl⟩
          have b2434 := iv15_9 hS2424.1 ta0 c2433
          obtain ⟨v2435, c2436⟩ : ∃ v, I2416 a0 13 = v := ⟨_, rfl⟩
          obtain ⟨v2437, c2438⟩ : ∃ v, I2416 a0 14 = v := ⟨_, rfl⟩
          (try rw [c2433] at ov2431)
          (try rw [c2436] at ov2431)
          (try rw [c2438] at ov2431)
          (try rw [c2126] at ov2431)
          (try rw [c2129] at ov2431)
          (try rw [c2131] at ov2431)
          refine tr_aload_n dX12_readCall_60 rfl ?_
          refine q_getI dX12_readCall_61 fl12_99 (kR15 hS2424.1 ta0) c2433 ?_
          refine q_iconst dX12_readCall_64 (by decide) ?_
          intro v2439 h2440
          refine q_icmp_ne 72 dX12_readCall_65 (by decide) (fun h2441 => ?_) (fun h2441 => ?_)
          · skip
            exfalso; omega
          · skip
            refine q_iconst dX12_readCall_68 (by decide) ?_
            intro v2442 h2443
            refine tr_goto 81 dX12_readCall_69 (by decide) ?_
            refine tr_istore_n dX12_readCall_81 (by decide) (by decide) ?_
            refine tr_aload_n dX12_readCall_82 rfl ?_
            refine q_callVv hE (M' := mX12_goesOn) (as := []) dX12_readCall_83 lk12_142 inX12_goesOn seX12_goesOn myX12_goesOn (by decide) ⟨by decide, by decide⟩ rfl (kR15 hS2424.1 ta0) (Nat.le_of_ble_eq_true rfl) rfl rfl (by decide) (by decide) (k_X12_goesOn hS2424.1 ta0) ?_
            rintro cn' K' N' I2444 R2445 L2446 ⟨rfl, rfl, rfl, rfl, g2447, p2449, p2450, p2451, w2452, -⟩
            have hS2453 := hS2424.tr g2447 (by decide +kernel) (by decide +kernel)
            have c2454 : I2444 a1 5 = v49 := (g2447.cell ta1 (by decide +kernel)).trans c2425
            have c2455 : I2444 a0 13 = v2435 := (g2447.cell ta0 (by decide +kernel)).trans c2436
            have c2456 : I2444 a0 14 = v2437 := (g2447.cell ta0 (by decide +kernel)).trans c2438
            obtain ⟨v2457, c2458⟩ : ∃ v, I2444 a0 9 = v := ⟨_, rfl⟩
            have b2459 := iv15_9 hS2453.1 ta0 c2458
            rw [c2433] at p2449
            rw [c2458] at p2449
            rw [c2433] at p2450
            rw [c2458] at p2450
            obtain ⟨v2460, c2461⟩ : ∃ v, I2444 a0 8 = v := ⟨_, rfl⟩
            have b2462 := iv15_8 hS2453.1 ta0 c2461
            rw [c2461] at p2451
            rw [c2426] at p2451
            rw [c2455] at p2451
            rw [c2436] at p2451
            have hO2463 : FrO 14 a1 T I0 I2444 := hO2430.st g2447 (by decide +kernel)
            have ov2464 := w2452.over (by rw [c2433]; omega)
            obtain ⟨v2465, c2466⟩ : ∃ v, I2444 a0 9 = v := ⟨_, rfl⟩
            have b2467 := iv15_9 hS2453.1 ta0 c2466
            obtain ⟨v2468, c2469⟩ : ∃ v, I2444 a0 13 = v := ⟨_, rfl⟩
            obtain ⟨v2470, c2471⟩ : ∃ v, I2444 a0 14 = v := ⟨_, rfl⟩
            (try rw [c2466] at ov2464)
            (try rw [c2469] at ov2464)
            (try rw [c2471] at ov2464)
            (try rw [c2433] at ov2464)
            (try rw [c2436] at ov2464)
            (try rw [c2438] at ov2464)
            refine tr_aload_n dX12_readCall_86 rfl ?_
            refine tr_ldcwS dX12_readCall_87 ld12_352 ?_
            refine q_iconst dX12_readCall_90 (by decide) ?_
            intro v2472 h2473
            refine tr_aload_n dX12_readCall_91 rfl ?_
            refine tr_getR dX12_readCall_92 fl12_188 (kR15 hS2453.1 ta0) d2 ?_
            refine q_getI dX12_readCall_95 fl12_192 (kR14 hS2453.1 ta1) ((hS2453.cell ta1 (by decide +kernel)).trans c30) ?_
            refine q_iconst dX12_readCall_98 (by decide) ?_
            intro v2474 h2475
            refine q_isubE dX12_readCall_99 (by intros; omega) ?_
            intro v2476 h2477
            refine q_callVi hE (M' := mX12_readPart) (as := [_, _, _]) dX12_readCall_100 lk12_249 inX12_readPart seX12_readPart myX12_readPart (by decide) ⟨by decide, by decide⟩ rfl (kR15 hS2453.1 ta0) (Nat.le_of_ble_eq_true rfl) rfl rfl (by decide) (by decide) (k_X12_readPart hS2453.1 ta0 (by decide)) ?_
            rintro v2482 cn' K' N' I2478 R2479 L2480 ⟨rfl, rfl, rfl, rfl, g2481, p2483, w2484, -⟩
            have hS2485 := hS2453.tr g2481 (by decide +kernel) (by decide +kernel)
            have c2486 : I2478 a1 5 = v49 := (g2481.cell ta1 (by decide +kernel)).trans c2454
            have b2487 : 0 ≤ v2482.toInt ∧ v2482.toInt ≤ 239 := by omega
            clear p2483
            have hO2488 : FrO 14 a1 T I0 I2478 := hO2463.st g2481 (by decide +kernel)
            have ov2489 := w2484.over (by rw [c2466]; omega)
            obtain ⟨v2490, c2491⟩ : ∃ v, I2478 a0 9 = v := ⟨_, rfl⟩
            have b2492 := iv15_9 hS2485.1 ta0 c2491
            obtain ⟨v2493, c2494⟩ : ∃ v, I2478 a0 13 = v := ⟨_, rfl⟩
            obtain ⟨v2495, c2496⟩ : ∃ v, I2478 a0 14 = v := ⟨_, rfl⟩
            (try rw [c2491] at ov2489)
            (try rw [c2494] at ov2489)
            (try rw [c2496] at ov2489)
            (try rw [c2466] at ov2489)
            (try rw [c2469] at ov2489)
            (try rw [c2471] at ov2489)
            refine tr_istore_n dX12_readCall_103 (by decide) (by decide) ?_
            refine tr_aload_n dX12_readCall_104 rfl ?_
            refine tr_ldcwS dX12_readCall_105 ld12_354 ?_
            refine q_iconst dX12_readCall_108 (by decide) ?_
            intro v2497 h2498
            refine q_bipush dX12_readCall_109 (by decide +kernel) ?_
            intro v2499 h2500
            refine q_callVi hE (M' := mX12_readPart) (as := [_, _, _]) dX12_readCall_111 lk12_249 inX12_readPart seX12_readPart myX12_readPart (by decide) ⟨by decide, by decide⟩ rfl (kR15 hS2485.1 ta0) (Nat.le_of_ble_eq_true rfl) rfl rfl (by decide) (by decide) (k_X12_readPart hS2485.1 ta0 (by decide)) ?_
            rintro v2505 cn' K' N' I2501 R2502 L2503 ⟨rfl, rfl, rfl, rfl, g2504, p2506, w2507, -⟩
            have hS2508 := hS2485.tr g2504 (by decide +kernel) (by decide +kernel)
            have c2509 : I2501 a1 5 = v49 := (g2504.cell ta1 (by decide +kernel)).trans c2486
            have b2510 : 1 ≤ v2505.toInt ∧ v2505.toInt ≤ 60 := by omega
            clear p2506
            have hO2511 : FrO 14 a1 T I0 I2501 := hO2488.st g2504 (by decide +kernel)
            have ov2512 := w2507.over (by rw [c2491]; omega)
            obtain ⟨v2513, c2514⟩ : ∃ v, I2501 a0 9 = v := ⟨_, rfl⟩
            have b2515 := iv15_9 hS2508.1 ta0 c2514
            obtain ⟨v2516, c2517⟩ : ∃ v, I2501 a0 13 = v := ⟨_, rfl⟩
            obtain ⟨v2518, c2519⟩ : ∃ v, I2501 a0 14 = v := ⟨_, rfl⟩
            (try rw [c2514] at ov2512)
            (try rw [c2517] at ov2512)
            (try rw [c2519] at ov2512)
            (try rw [c2491] at ov2512)
            (try rw [c2494] at ov2512)
            (try rw [c2496] at ov2512)
            refine tr_istore dX12_readCall_114 (by decide) (by decide) ?_
            refine tr_aload_n dX12_readCall_116 rfl ?_
            refine tr_ldcwS dX12_readCall_117 ld12_356 ?_
            refine q_iconst dX12_readCall_120 (by decide) ?_
            intro v2520 h2521
            refine q_bipush dX12_readCall_121 (by decide +kernel) ?_
            intro v2522 h2523
            refine q_callVi hE (M' := mX12_readPart) (as := [_, _, _]) dX12_readCall_123 lk12_249 inX12_readPart seX12_readPart myX12_readPart (by decide) ⟨by decide, by decide⟩ rfl (kR15 hS2508.1 ta0) (Nat.le_of_ble_eq_true rfl) rfl rfl (by decide) (by decide) (k_X12_readPart hS2508.1 ta0 (by decide)) ?_
            rintro v2528 cn' K' N' I2524 R2525 L2526 ⟨rfl, rfl, rfl, rfl, g2527, p2529, w2530, -⟩
            have hS2531 := hS2508.tr g2527 (by decide +kernel) (by decide +kernel)
            have c2532 : I2524 a1 5 = v49 := (g2527.cell ta1 (by decide +kernel)).trans c2509
            have b2533 : 0 ≤ v2528.toInt ∧ v2528.toInt ≤ 99 := by omega
            clear p2529
            have hO2534 : FrO 14 a1 T I0 I2524 := hO2511.st g2527 (by decide +kernel)
            have ov2535 := w2530.over (by rw [c2514]; omega)
            obtain ⟨v2536, c2537⟩ : ∃ v, I2524 a0 9 = v := ⟨_, rfl⟩
            have b2538 := iv15_9 hS2531.1 ta0 c2537
            obtain ⟨v2539, c2540⟩ : ∃ v, I2524 a0 13 = v := ⟨_, rfl⟩
            obtain ⟨v2541, c2542⟩ : ∃ v, I2524 a0 14 = v := ⟨_, rfl⟩
            (try rw [c2537] at ov2535)
            (try rw [c2540] at ov2535)
            (try rw [c2542] at ov2535)
            (try rw [c2514] at ov2535)
            (try rw [c2517] at ov2535)
            (try rw [c2519] at ov2535)
            refine tr_istore dX12_readCall_126 (by decide) (by decide) ?_
            refine tr_aload_n dX12_readCall_128 rfl ?_
            refine q_getI dX12_readCall_129 fl12_99 (kR15 hS2531.1 ta0) c2537 ?_
            refine q_iconst dX12_readCall_132 (by decide) ?_
            intro v2543 h2544
            refine q_icmp_ne 137 dX12_readCall_133 (by decide) (fun h2545 => ?_) (fun h2545 => ?_)
            · skip
              exfalso; omega
            · skip
              have eF := hF.eq
              have eP := hP.eq
              obtain ⟨v2546, c2547⟩ : ∃ v, I2524 a0 10 = v := ⟨_, rfl⟩
              have b2548 := iv15_10 hS2531.1 ta0 c2547
              obtain ⟨v2549, c2550⟩ : ∃ v, I2524 a0 11 = v := ⟨_, rfl⟩
              obtain ⟨y2551, c2552⟩ : ∃ v, L2526 a0 15 = v := ⟨_, rfl⟩
              obtain ⟨v2553, c2554⟩ : ∃ v, I2524 a0 12 = v := ⟨_, rfl⟩
              obtain ⟨v2555, c2556⟩ : ∃ v, I2524 a0 8 = v := ⟨_, rfl⟩
              have b2557 := iv15_8 hS2531.1 ta0 c2556
              exact tr_vret hZ dX12_readCall_136 rfl (by decide) (by decide) ⟨rfl, rfl, rfl, rfl, rfl, hS2531, (fun dr hd => (Option.some.inj (d2.symm.trans hd)) ▸ hO2534), (Or.inr (⟨(by first | done | with_reducible assumption | omega), (by (try rw [c2537]); first | done | with_reducible assumption | omega), (by (try rw [c2540]); first | done | with_reducible assumption | omega), (by (try rw [c2542]); first | done | with_reducible assumption | omega), trivial⟩)), trivial⟩
  · skip
    obtain ⟨v2558, c2559⟩ : ∃ v, I68 a0 9 = v := ⟨_, rfl⟩
    have b2560 := iv15_9 hS76.1 ta0 c2559
    rw [c2559] at p96
    obtain ⟨v2561, c2562⟩ : ∃ v, I68 a0 13 = v := ⟨_, rfl⟩
    rw [c2562] at p97
    obtain ⟨v2563, c2564⟩ : ∃ v, I68 a0 14 = v := ⟨_, rfl⟩
    rw [c2564] at p98
    have p2565 := p61
    unfold Q7M at p2565
    replace hF := hF.neg (by omega)
    replace hP := hP.neg (by omega)
    replace hF := hF.pos (by omega)
    replace hP := hP.pos (by omega)
    clear p2565
    refine tr_aload_n dX12_readCall_13 rfl ?_
    refine q_callVi hE (M' := mX12_isName) (as := []) dX12_readCall_14 lk12_197 inX12_isName seX12_isName myX12_isName (by decide) ⟨by decide, by decide⟩ rfl (kR15 hS76.1 ta0) (Nat.le_of_ble_eq_true rfl) rfl rfl (by decide) (by decide) (k_X12_isName hS76.1 ta0) ?_
    rintro v2570 cn' K' N' I2566 R2567 L2568 ⟨rfl, rfl, rfl, rfl, rfl, rfl, h2571, -⟩
    refine q_if_ne 25 dX12_readCall_17 (by decide) (fun h2572 => ?_) (fun h2572 => ?_)
    · skip
      refine tr_aload_n dX12_readCall_25 rfl ?_
      refine tr_getR dX12_readCall_26 fl12_188 (kR15 hS76.1 ta0) d2 ?_
      refine tr_aload_n dX12_readCall_29 rfl ?_
      have p2573 := p17 (by omega)
      obtain ⟨y2574, c2575⟩ : ∃ v, L70 a0 15 = v := ⟨_, rfl⟩
      refine q_getLE dX12_readCall_30 fl12_118 (kR15 hS76.1 ta0) c2575 ?_
      refine q_callVi hE (M' := mX11_find) (as := [_]) dX12_readCall_33 lk12_201 inX11_find seX11_find myX11_find (by decide) ⟨by decide, by decide⟩ rfl (kR14 hS76.1 ta1) (Nat.le_of_ble_eq_true rfl) rfl rfl (by decide) (by decide) (k_X11_find hS76.1 ta1) ?_
      rintro v2580 cn' K' N' I2576 R2577 L2578 ⟨rfl, rfl, rfl, rfl, rfl, rfl, h2581, -⟩
      refine tr_istore_n dX12_readCall_36 (by decide) (by decide) ?_
      refine tr_iload_n dX12_readCall_37 rfl ?_
      refine q_iconst dX12_readCall_38 (by decide) ?_
      intro v2582 h2583
      refine q_icmp_eq 55 dX12_readCall_39 (by decide) (fun h2584 => ?_) (fun h2584 => ?_)
      · skip
        refine tr_aload_n dX12_readCall_55 rfl ?_
        refine q_iconst dX12_readCall_56 (by decide) ?_
        intro v2585 h2586
        obtain ⟨v2587, c2588⟩ : ∃ v, I68 a0 8 = v := ⟨_, rfl⟩
        have b2589 := iv15_8 hS76.1 ta0 c2588
        refine q_callVv hE (M' := mX12_flaw) (as := [_]) dX12_readCall_57 lk12_145 inX12_flaw seX12_flaw myX12_flaw (by decide) ⟨by decide, by decide⟩ rfl (kR15 hS76.1 ta0) (Nat.le_of_ble_eq_true rfl) rfl rfl (by decide) (by decide) (k_X12_flaw hS76.1 ta0 (by omega)) ?_
        rintro cn' K' N' I2590 R2591 L2592 ⟨rfl, rfl, rfl, rfl, rfl, g2593, p2595, p2596, w2597, -⟩
        have hS2598 := hS76.tr g2593 (by decide +kernel) (by decide +kernel)
        have c2599 : I2590 a1 5 = v49 := (g2593.cell ta1 (by decide +kernel)).trans c77
        have c2600 : I2590 a0 8 = v2587 := (g2593.cell ta0 (by decide +kernel)).trans c2588
        obtain ⟨v2601, c2602⟩ : ∃ v, I2590 a0 9 = v := ⟨_, rfl⟩
        have b2603 := iv15_9 hS2598.1 ta0 c2602
        rw [c2602] at p2595
        rw [c2600] at p2596
        rw [c2588] at p2596
        have hO2604 : FrO 14 a1 T I0 I2590 := hO78.st g2593 (by decide +kernel)
        have ov2605 := w2597.over (by rw [c2559]; omega)
        obtain ⟨v2606, c2607⟩ : ∃ v, I2590 a0 9 = v := ⟨_, rfl⟩
        have b2608 := iv15_9 hS2598.1 ta0 c2607
        obtain ⟨v2609, c2610⟩ : ∃ v, I2590 a0 13 = v := ⟨_, rfl⟩
        obtain ⟨v2611, c2612⟩ : ∃ v, I2590 a0 14 = v := ⟨_, rfl⟩
        (try rw [c2607] at ov2605)
        (try rw [c2610] at ov2605)
        (try rw [c2612] at ov2605)
        (try rw [c2559] at ov2605)
        (try rw [c2562] at ov2605)
        (try rw [c2564] at ov2605)
        refine tr_aload_n dX12_readCall_60 rfl ?_
        refine q_getI dX12_readCall_61 fl12_99 (kR15 hS2598.1 ta0) c2607 ?_
        refine q_iconst dX12_readCall_64 (by decide) ?_
        intro v2613 h2614
        refine q_icmp_ne 72 dX12_readCall_65 (by decide) (fun h2615 => ?_) (fun h2615 => ?_)
        · skip
          exfalso; omega
        · skip
          refine q_iconst dX12_readCall_68 (by decide) ?_
          intro v2616 h2617
          refine tr_goto 81 dX12_readCall_69 (by decide) ?_
          refine tr_istore_n dX12_readCall_81 (by decide) (by decide) ?_
          refine tr_aload_n dX12_readCall_82 rfl ?_
          refine q_callVv hE (M' := mX12_goesOn) (as := []) dX12_readCall_83 lk12_142 inX12_goesOn seX12_goesOn myX12_goesOn (by decide) ⟨by decide, by decide⟩ rfl (kR15 hS2598.1 ta0) (Nat.le_of_ble_eq_true rfl) rfl rfl (by decide) (by decide) (k_X12_goesOn hS2598.1 ta0) ?_
          rintro cn' K' N' I2618 R2619 L2620 ⟨rfl, rfl, rfl, rfl, g2621, p2623, p2624, p2625, w2626, -⟩
          have hS2627 := hS2598.tr g2621 (by decide +kernel) (by decide +kernel)
          have c2628 : I2618 a1 5 = v49 := (g2621.cell ta1 (by decide +kernel)).trans c2599
          have c2629 : I2618 a0 13 = v2609 := (g2621.cell ta0 (by decide +kernel)).trans c2610
          have c2630 : I2618 a0 14 = v2611 := (g2621.cell ta0 (by decide +kernel)).trans c2612
          obtain ⟨v2631, c2632⟩ : ∃ v, I2618 a0 9 = v := ⟨_, rfl⟩
          have b2633 := iv15_9 hS2627.1 ta0 c2632
          rw [c2607] at p2623
          rw [c2632] at p2623
          rw [c2607] at p2624
          rw [c2632] at p2624
          obtain ⟨v2634, c2635⟩ : ∃ v, I2618 a0 8 = v := ⟨_, rfl⟩
          have b2636 := iv15_8 hS2627.1 ta0 c2635
          rw [c2635] at p2625
          rw [c2600] at p2625
          rw [c2629] at p2625
          rw [c2610] at p2625
          have hO2637 : FrO 14 a1 T I0 I2618 := hO2604.st g2621 (by decide +kernel)
          have ov2638 := w2626.over (by rw [c2607]; omega)
          obtain ⟨v2639, c2640⟩ : ∃ v, I2618 a0 9 = v := ⟨_, rfl⟩
          have b2641 := iv15_9 hS2627.1 ta0 c2640
          obtain ⟨v2642, c2643⟩ : ∃ v, I2618 a0 13 = v := ⟨_, rfl⟩
          obtain ⟨v2644, c2645⟩ : ∃ v, I2618 a0 14 = v := ⟨_, rfl⟩
          (try rw [c2640] at ov2638)
          (try rw [c2643] at ov2638)
          (try rw [c2645] at ov2638)
          (try rw [c2607] at ov2638)
          (try rw [c2610] at ov2638)
          (try rw [c2612] at ov2638)
          refine tr_aload_n dX12_readCall_86 rfl ?_
          refine tr_ldcwS dX12_readCall_87 ld12_352 ?_
          refine q_iconst dX12_readCall_90 (by decide) ?_
          intro v2646 h2647
          refine tr_aload_n dX12_readCall_91 rfl ?_
          refine tr_getR dX12_readCall_92 fl12_188 (kR15 hS2627.1 ta0) d2 ?_
          refine q_getI dX12_readCall_95 fl12_192 (kR14 hS2627.1 ta1) ((hS2627.cell ta1 (by decide +kernel)).trans c30) ?_
          refine q_iconst dX12_readCall_98 (by decide) ?_
          intro v2648 h2649
          refine q_isubE dX12_readCall_99 (by intros; omega) ?_
          intro v2650 h2651
          refine q_callVi hE (M' := mX12_readPart) (as := [_, _, _]) dX12_readCall_100 lk12_249 inX12_readPart seX12_readPart myX12_readPart (by decide) ⟨by decide, by decide⟩ rfl (kR15 hS2627.1 ta0) (Nat.le_of_ble_eq_true rfl) rfl rfl (by decide) (by decide) (k_X12_readPart hS2627.1 ta0 (by decide)) ?_
          rintro v2656 cn' K' N' I2652 R2653 L2654 ⟨rfl, rfl, rfl, rfl, g2655, p2657, w2658, -⟩
          have hS2659 := hS2627.tr g2655 (by decide +kernel) (by decide +kernel)
          have c2660 : I2652 a1 5 = v49 := (g2655.cell ta1 (by decide +kernel)).trans c2628
          have b2661 : 0 ≤ v2656.toInt ∧ v2656.toInt ≤ 0 := by omega
          clear p2657
          have hO2662 : FrO 14 a1 T I0 I2652 := hO2637.st g2655 (by decide +kernel)
          have ov2663 := w2658.over (by rw [c2640]; omega)
          obtain ⟨v2664, c2665⟩ : ∃ v, I2652 a0 9 = v := ⟨_, rfl⟩
          have b2666 := iv15_9 hS2659.1 ta0 c2665
          obtain ⟨v2667, c2668⟩ : ∃ v, I2652 a0 13 = v := ⟨_, rfl⟩
          obtain ⟨v2669, c2670⟩ : ∃ v, I2652 a0 14 = v := ⟨_, rfl⟩
          (try rw [c2665] at ov2663)
          (try rw [c2668] at ov2663)
          (try rw [c2670] at ov2663)
          (try rw [c2640] at ov2663)
          (try rw [c2643] at ov2663)
          (try rw [c2645] at ov2663)
          refine tr_istore_n dX12_readCall_103 (by decide) (by decide) ?_
          refine tr_aload_n dX12_readCall_104 rfl ?_
          refine tr_ldcwS dX12_readCall_105 ld12_354 ?_
          refine q_iconst dX12_readCall_108 (by decide) ?_
          intro v2671 h2672
          refine q_bipush dX12_readCall_109 (by decide +kernel) ?_
          intro v2673 h2674
          refine q_callVi hE (M' := mX12_readPart) (as := [_, _, _]) dX12_readCall_111 lk12_249 inX12_readPart seX12_readPart myX12_readPart (by decide) ⟨by decide, by decide⟩ rfl (kR15 hS2659.1 ta0) (Nat.le_of_ble_eq_true rfl) rfl rfl (by decide) (by decide) (k_X12_readPart hS2659.1 ta0 (by decide)) ?_
          rintro v2679 cn' K' N' I2675 R2676 L2677 ⟨rfl, rfl, rfl, rfl, g2678, p2680, w2681, -⟩
          have hS2682 := hS2659.tr g2678 (by decide +kernel) (by decide +kernel)
          have c2683 : I2675 a1 5 = v49 := (g2678.cell ta1 (by decide +kernel)).trans c2660
          have b2684 : 1 ≤ v2679.toInt ∧ v2679.toInt ≤ 60 := by omega
          clear p2680
          have hO2685 : FrO 14 a1 T I0 I2675 := hO2662.st g2678 (by decide +kernel)
          have ov2686 := w2681.over (by rw [c2665]; omega)
          obtain ⟨v2687, c2688⟩ : ∃ v, I2675 a0 9 = v := ⟨_, rfl⟩
          have b2689 := iv15_9 hS2682.1 ta0 c2688
          obtain ⟨v2690, c2691⟩ : ∃ v, I2675 a0 13 = v := ⟨_, rfl⟩
          obtain ⟨v2692, c2693⟩ : ∃ v, I2675 a0 14 = v := ⟨_, rfl⟩
          (try rw [c2688] at ov2686)
          (try rw [c2691] at ov2686)
          (try rw [c2693] at ov2686)
          (try rw [c2665] at ov2686)
          (try rw [c2668] at ov2686)
          (try rw [c2670] at ov2686)
          refine tr_istore dX12_readCall_114 (by decide) (by decide) ?_
          refine tr_aload_n dX12_readCall_116 rfl ?_
          refine tr_ldcwS dX12_readCall_117 ld12_356 ?_
          refine q_iconst dX12_readCall_120 (by decide) ?_
          intro v2694 h2695
          refine q_bipush dX12_readCall_121 (by decide +kernel) ?_
          intro v2696 h2697
          refine q_callVi hE (M' := mX12_readPart) (as := [_, _, _]) dX12_readCall_123 lk12_249 inX12_readPart seX12_readPart myX12_readPart (by decide) ⟨by decide, by decide⟩ rfl (kR15 hS2682.1 ta0) (Nat.le_of_ble_eq_true rfl) rfl rfl (by decide) (by decide) (k_X12_readPart hS2682.1 ta0 (by decide)) ?_
          rintro v2702 cn' K' N' I2698 R2699 L2700 ⟨rfl, rfl, rfl, rfl, g2701, p2703, w2704, -⟩
          have hS2705 := hS2682.tr g2701 (by decide +kernel) (by decide +kernel)
          have c2706 : I2698 a1 5 = v49 := (g2701.cell ta1 (by decide +kernel)).trans c2683
          have b2707 : 0 ≤ v2702.toInt ∧ v2702.toInt ≤ 99 := by omega
          clear p2703
          have hO2708 : FrO 14 a1 T I0 I2698 := hO2685.st g2701 (by decide +kernel)
          have ov2709 := w2704.over (by rw [c2688]; omega)
          obtain ⟨v2710, c2711⟩ : ∃ v, I2698 a0 9 = v := ⟨_, rfl⟩
          have b2712 := iv15_9 hS2705.1 ta0 c2711
          obtain ⟨v2713, c2714⟩ : ∃ v, I2698 a0 13 = v := ⟨_, rfl⟩
          obtain ⟨v2715, c2716⟩ : ∃ v, I2698 a0 14 = v := ⟨_, rfl⟩
          (try rw [c2711] at ov2709)
          (try rw [c2714] at ov2709)
          (try rw [c2716] at ov2709)
          (try rw [c2688] at ov2709)
          (try rw [c2691] at ov2709)
          (try rw [c2693] at ov2709)
          refine tr_istore dX12_readCall_126 (by decide) (by decide) ?_
          refine tr_aload_n dX12_readCall_128 rfl ?_
          refine q_getI dX12_readCall_129 fl12_99 (kR15 hS2705.1 ta0) c2711 ?_
          refine q_iconst dX12_readCall_132 (by decide) ?_
          intro v2717 h2718
          refine q_icmp_ne 137 dX12_readCall_133 (by decide) (fun h2719 => ?_) (fun h2719 => ?_)
          · skip
            exfalso; omega
          · skip
            have eF := hF.eq
            have eP := hP.eq
            obtain ⟨v2720, c2721⟩ : ∃ v, I2698 a0 10 = v := ⟨_, rfl⟩
            have b2722 := iv15_10 hS2705.1 ta0 c2721
            obtain ⟨v2723, c2724⟩ : ∃ v, I2698 a0 11 = v := ⟨_, rfl⟩
            obtain ⟨y2725, c2726⟩ : ∃ v, L2700 a0 15 = v := ⟨_, rfl⟩
            obtain ⟨v2727, c2728⟩ : ∃ v, I2698 a0 12 = v := ⟨_, rfl⟩
            obtain ⟨v2729, c2730⟩ : ∃ v, I2698 a0 8 = v := ⟨_, rfl⟩
            have b2731 := iv15_8 hS2705.1 ta0 c2730
            exact tr_vret hZ dX12_readCall_136 rfl (by decide) (by decide) ⟨rfl, rfl, rfl, rfl, rfl, hS2705, (fun dr hd => (Option.some.inj (d2.symm.trans hd)) ▸ hO2708), (Or.inr (⟨(by first | done | with_reducible assumption | omega), (by (try rw [c2711]); first | done | with_reducible assumption | omega), (by (try rw [c2714]); first | done | with_reducible assumption | omega), (by (try rw [c2716]); first | done | with_reducible assumption | omega), trivial⟩)), trivial⟩
      · skip
        refine tr_aload_n dX12_readCall_42 rfl ?_
        refine tr_getR dX12_readCall_43 fl12_188 (kR15 hS76.1 ta0) d2 ?_
        obtain ⟨a2732, d2733, ta2732⟩ := rf14_31 hW0 ta1
        refine tr_getR dX12_readCall_46 fl12_212 (kR14 hS76.1 ta1) d2733 ?_
        refine tr_iload_n dX12_readCall_49 rfl ?_
        refine q_iald dX12_readCall_50 (kR74 hS76.1 ta2732) (ti_in (nR74 hS76.1 ta2732) (by omega) (by omega)) ?_
        intro v2734 c2735
        refine q_iconst dX12_readCall_51 (by decide) ?_
        intro v2736 h2737
        refine q_icmp_eq 60 dX12_readCall_52 (by decide) (fun h2738 => ?_) (fun h2738 => ?_)
        · skip
          refine tr_aload_n dX12_readCall_60 rfl ?_
          refine q_getI dX12_readCall_61 fl12_99 (kR15 hS76.1 ta0) c2559 ?_
          refine q_iconst dX12_readCall_64 (by decide) ?_
          intro v2739 h2740
          refine q_icmp_ne 72 dX12_readCall_65 (by decide) (fun h2741 => ?_) (fun h2741 => ?_)
          · skip
            exfalso; omega
          · skip
            refine q_iconst dX12_readCall_68 (by decide) ?_
            intro v2742 h2743
            refine tr_goto 81 dX12_readCall_69 (by decide) ?_
            refine tr_istore_n dX12_readCall_81 (by decide) (by decide) ?_
            refine tr_aload_n dX12_readCall_82 rfl ?_
            obtain ⟨v2744, c2745⟩ : ∃ v, I68 a0 8 = v := ⟨_, rfl⟩
            have b2746 := iv15_8 hS76.1 ta0 c2745
            refine q_callVv hE (M' := mX12_goesOn) (as := []) dX12_readCall_83 lk12_142 inX12_goesOn seX12_goesOn myX12_goesOn (by decide) ⟨by decide, by decide⟩ rfl (kR15 hS76.1 ta0) (Nat.le_of_ble_eq_true rfl) rfl rfl (by decide) (by decide) (k_X12_goesOn hS76.1 ta0) ?_
            rintro cn' K' N' I2747 R2748 L2749 ⟨rfl, rfl, rfl, rfl, g2750, p2752, p2753, p2754, w2755, -⟩
            have hS2756 := hS76.tr g2750 (by decide +kernel) (by decide +kernel)
            have c2757 : I2747 a1 5 = v49 := (g2750.cell ta1 (by decide +kernel)).trans c77
            have c2758 : I2747 a0 13 = v2561 := (g2750.cell ta0 (by decide +kernel)).trans c2562
            have c2759 : I2747 a0 14 = v2563 := (g2750.cell ta0 (by decide +kernel)).trans c2564
            obtain ⟨v2760, c2761⟩ : ∃ v, I2747 a0 9 = v := ⟨_, rfl⟩
            have b2762 := iv15_9 hS2756.1 ta0 c2761
            rw [c2559] at p2752
            rw [c2761] at p2752
            rw [c2559] at p2753
            rw [c2761] at p2753
            obtain ⟨v2763, c2764⟩ : ∃ v, I2747 a0 8 = v := ⟨_, rfl⟩
            have b2765 := iv15_8 hS2756.1 ta0 c2764
            rw [c2764] at p2754
            rw [c2745] at p2754
            rw [c2758] at p2754
            rw [c2562] at p2754
            have hO2766 : FrO 14 a1 T I0 I2747 := hO78.st g2750 (by decide +kernel)
            have ov2767 := w2755.over (by rw [c2559]; omega)
            obtain ⟨v2768, c2769⟩ : ∃ v, I2747 a0 9 = v := ⟨_, rfl⟩
            have b2770 := iv15_9 hS2756.1 ta0 c2769
            obtain ⟨v2771, c2772⟩ : ∃ v, I2747 a0 13 = v := ⟨_, rfl⟩
            obtain ⟨v2773, c2774⟩ : ∃ v, I2747 a0 14 = v := ⟨_, rfl⟩
            (try rw [c2769] at ov2767)
            (try rw [c2772] at ov2767)
            (try rw [c2774] at ov2767)
            (try rw [c2559] at ov2767)
            (try rw [c2562] at ov2767)
            (try rw [c2564] at ov2767)
            refine tr_aload_n dX12_readCall_86 rfl ?_
            refine tr_ldcwS dX12_readCall_87 ld12_352 ?_
            refine q_iconst dX12_readCall_90 (by decide) ?_
            intro v2775 h2776
            refine tr_aload_n dX12_readCall_91 rfl ?_
            refine tr_getR dX12_readCall_92 fl12_188 (kR15 hS2756.1 ta0) d2 ?_
            refine q_getI dX12_readCall_95 fl12_192 (kR14 hS2756.1 ta1) ((hS2756.cell ta1 (by decide +kernel)).trans c30) ?_
            refine q_iconst dX12_readCall_98 (by decide) ?_
            intro v2777 h2778
            refine q_isubE dX12_readCall_99 (by intros; omega) ?_
            intro v2779 h2780
            refine q_callVi hE (M' := mX12_readPart) (as := [_, _, _]) dX12_readCall_100 lk12_249 inX12_readPart seX12_readPart myX12_readPart (by decide) ⟨by decide, by decide⟩ rfl (kR15 hS2756.1 ta0) (Nat.le_of_ble_eq_true rfl) rfl rfl (by decide) (by decide) (k_X12_readPart hS2756.1 ta0 (by decide)) ?_
            rintro v2785 cn' K' N' I2781 R2782 L2783 ⟨rfl, rfl, rfl, rfl, g2784, p2786, w2787, -⟩
            have hS2788 := hS2756.tr g2784 (by decide +kernel) (by decide +kernel)
            have c2789 : I2781 a1 5 = v49 := (g2784.cell ta1 (by decide +kernel)).trans c2757
            have b2790 : 0 ≤ v2785.toInt ∧ v2785.toInt ≤ 0 := by omega
            clear p2786
            have hO2791 : FrO 14 a1 T I0 I2781 := hO2766.st g2784 (by decide +kernel)
            have ov2792 := w2787.over (by rw [c2769]; omega)
            obtain ⟨v2793, c2794⟩ : ∃ v, I2781 a0 9 = v := ⟨_, rfl⟩
            have b2795 := iv15_9 hS2788.1 ta0 c2794
            obtain ⟨v2796, c2797⟩ : ∃ v, I2781 a0 13 = v := ⟨_, rfl⟩
            obtain ⟨v2798, c2799⟩ : ∃ v, I2781 a0 14 = v := ⟨_, rfl⟩
            (try rw [c2794] at ov2792)
            (try rw [c2797] at ov2792)
            (try rw [c2799] at ov2792)
            (try rw [c2769] at ov2792)
            (try rw [c2772] at ov2792)
            (try rw [c2774] at ov2792)
            refine tr_istore_n dX12_readCall_103 (by decide) (by decide) ?_
            refine tr_aload_n dX12_readCall_104 rfl ?_
            refine tr_ldcwS dX12_readCall_105 ld12_354 ?_
            refine q_iconst dX12_readCall_108 (by decide) ?_
            intro v2800 h2801
            refine q_bipush dX12_readCall_109 (by decide +kernel) ?_
            intro v2802 h2803
            refine q_callVi hE (M' := mX12_readPart) (as := [_, _, _]) dX12_readCall_111 lk12_249 inX12_readPart seX12_readPart myX12_readPart (by decide) ⟨by decide, by decide⟩ rfl (kR15 hS2788.1 ta0) (Nat.le_of_ble_eq_true rfl) rfl rfl (by decide) (by decide) (k_X12_readPart hS2788.1 ta0 (by decide)) ?_
            rintro v2808 cn' K' N' I2804 R2805 L2806 ⟨rfl, rfl, rfl, rfl, g2807, p2809, w2810, -⟩
            have hS2811 := hS2788.tr g2807 (by decide +kernel) (by decide +kernel)
            have c2812 : I2804 a1 5 = v49 := (g2807.cell ta1 (by decide +kernel)).trans c2789
            have b2813 : 1 ≤ v2808.toInt ∧ v2808.toInt ≤ 60 := by omega
            clear p2809
            have hO2814 : FrO 14 a1 T I0 I2804 := hO2791.st g2807 (by decide +kernel)
            have ov2815 := w2810.over (by rw [c2794]; omega)
            obtain ⟨v2816, c2817⟩ : ∃ v, I2804 a0 9 = v := ⟨_, rfl⟩
            have b2818 := iv15_9 hS2811.1 ta0 c2817
            obtain ⟨v2819, c2820⟩ : ∃ v, I2804 a0 13 = v := ⟨_, rfl⟩
            obtain ⟨v2821, c2822⟩ : ∃ v, I2804 a0 14 = v := ⟨_, rfl⟩
            (try rw [c2817] at ov2815)
            (try rw [c2820] at ov2815)
            (try rw [c2822] at ov2815)
            (try rw [c2794] at ov2815)
            (try rw [c2797] at ov2815)
            (try rw [c2799] at ov2815)
            refine tr_istore dX12_readCall_114 (by decide) (by decide) ?_
            refine tr_aload_n dX12_readCall_116 rfl ?_
            refine tr_ldcwS dX12_readCall_117 ld12_356 ?_
            refine q_iconst dX12_readCall_120 (by decide) ?_
            intro v2823 h2824
            refine q_bipush dX12_readCall_121 (by decide +kernel) ?_
            intro v2825 h2826
            refine q_callVi hE (M' := mX12_readPart) (as := [_, _, _]) dX12_readCall_123 lk12_249 inX12_readPart seX12_readPart myX12_readPart (by decide) ⟨by decide, by decide⟩ rfl (kR15 hS2811.1 ta0) (Nat.le_of_ble_eq_true rfl) rfl rfl (by decide) (by decide) (k_X12_readPart hS2811.1 ta0 (by decide)) ?_
            rintro v2831 cn' K' N' I2827 R2828 L2829 ⟨rfl, rfl, rfl, rfl, g2830, p2832, w2833, -⟩
            have hS2834 := hS2811.tr g2830 (by decide +kernel) (by decide +kernel)
            have c2835 : I2827 a1 5 = v49 := (g2830.cell ta1 (by decide +kernel)).trans c2812
            have b2836 : 0 ≤ v2831.toInt ∧ v2831.toInt ≤ 99 := by omega
            clear p2832
            have hO2837 : FrO 14 a1 T I0 I2827 := hO2814.st g2830 (by decide +kernel)
            have ov2838 := w2833.over (by rw [c2817]; omega)
            obtain ⟨v2839, c2840⟩ : ∃ v, I2827 a0 9 = v := ⟨_, rfl⟩
            have b2841 := iv15_9 hS2834.1 ta0 c2840
            obtain ⟨v2842, c2843⟩ : ∃ v, I2827 a0 13 = v := ⟨_, rfl⟩
            obtain ⟨v2844, c2845⟩ : ∃ v, I2827 a0 14 = v := ⟨_, rfl⟩
            (try rw [c2840] at ov2838)
            (try rw [c2843] at ov2838)
            (try rw [c2845] at ov2838)
            (try rw [c2817] at ov2838)
            (try rw [c2820] at ov2838)
            (try rw [c2822] at ov2838)
            refine tr_istore dX12_readCall_126 (by decide) (by decide) ?_
            refine tr_aload_n dX12_readCall_128 rfl ?_
            refine q_getI dX12_readCall_129 fl12_99 (kR15 hS2834.1 ta0) c2840 ?_
            refine q_iconst dX12_readCall_132 (by decide) ?_
            intro v2846 h2847
            refine q_icmp_ne 137 dX12_readCall_133 (by decide) (fun h2848 => ?_) (fun h2848 => ?_)
            · skip
              exfalso; omega
            · skip
              have eF := hF.eq
              have eP := hP.eq
              obtain ⟨v2849, c2850⟩ : ∃ v, I2827 a0 10 = v := ⟨_, rfl⟩
              have b2851 := iv15_10 hS2834.1 ta0 c2850
              obtain ⟨v2852, c2853⟩ : ∃ v, I2827 a0 11 = v := ⟨_, rfl⟩
              obtain ⟨y2854, c2855⟩ : ∃ v, L2829 a0 15 = v := ⟨_, rfl⟩
              obtain ⟨v2856, c2857⟩ : ∃ v, I2827 a0 12 = v := ⟨_, rfl⟩
              obtain ⟨v2858, c2859⟩ : ∃ v, I2827 a0 8 = v := ⟨_, rfl⟩
              have b2860 := iv15_8 hS2834.1 ta0 c2859
              exact tr_vret hZ dX12_readCall_136 rfl (by decide) (by decide) ⟨rfl, rfl, rfl, rfl, rfl, hS2834, (fun dr hd => (Option.some.inj (d2.symm.trans hd)) ▸ hO2837), (Or.inr (⟨(by first | done | with_reducible assumption | omega), (by (try rw [c2840]); first | done | with_reducible assumption | omega), (by (try rw [c2843]); first | done | with_reducible assumption | omega), (by (try rw [c2845]); first | done | with_reducible assumption | omega), trivial⟩)), trivial⟩
        · skip
          refine tr_aload_n dX12_readCall_55 rfl ?_
          refine q_iconst dX12_readCall_56 (by decide) ?_
          intro v2861 h2862
          obtain ⟨v2863, c2864⟩ : ∃ v, I68 a0 8 = v := ⟨_, rfl⟩
          have b2865 := iv15_8 hS76.1 ta0 c2864
          refine q_callVv hE (M' := mX12_flaw) (as := [_]) dX12_readCall_57 lk12_145 inX12_flaw seX12_flaw myX12_flaw (by decide) ⟨by decide, by decide⟩ rfl (kR15 hS76.1 ta0) (Nat.le_of_ble_eq_true rfl) rfl rfl (by decide) (by decide) (k_X12_flaw hS76.1 ta0 (by omega)) ?_
          rintro cn' K' N' I2866 R2867 L2868 ⟨rfl, rfl, rfl, rfl, rfl, g2869, p2871, p2872, w2873, -⟩
          have hS2874 := hS76.tr g2869 (by decide +kernel) (by decide +kernel)
          have c2875 : I2866 a1 5 = v49 := (g2869.cell ta1 (by decide +kernel)).trans c77
          have c2876 : I2866 a0 8 = v2863 := (g2869.cell ta0 (by decide +kernel)).trans c2864
          obtain ⟨v2877, c2878⟩ : ∃ v, I2866 a0 9 = v := ⟨_, rfl⟩
          have b2879 := iv15_9 hS2874.1 ta0 c2878
          rw [c2878] at p2871
          rw [c2876] at p2872
          rw [c2864] at p2872
          have hO2880 : FrO 14 a1 T I0 I2866 := hO78.st g2869 (by decide +kernel)
          have ov2881 := w2873.over (by rw [c2559]; omega)
          obtain ⟨v2882, c2883⟩ : ∃ v, I2866 a0 9 = v := ⟨_, rfl⟩
          have b2884 := iv15_9 hS2874.1 ta0 c2883
          obtain ⟨v2885, c2886⟩ : ∃ v, I2866 a0 13 = v := ⟨_, rfl⟩
          obtain ⟨v2887, c2888⟩ : ∃ v, I2866 a0 14 = v := ⟨_, rfl⟩
          (try rw [c2883] at ov2881)
          (try rw [c2886] at ov2881)
          (try rw [c2888] at ov2881)
          (try rw [c2559] at ov2881)
          (try rw [c2562] at ov2881)
          (try rw [c2564] at ov2881)
          refine tr_aload_n dX12_readCall_60 rfl ?_
          refine q_getI dX12_readCall_61 fl12_99 (kR15 hS2874.1 ta0) c2883 ?_
          refine q_iconst dX12_readCall_64 (by decide) ?_
          intro v2889 h2890
          refine q_icmp_ne 72 dX12_readCall_65 (by decide) (fun h2891 => ?_) (fun h2891 => ?_)
          · skip
            exfalso; omega
          · skip
            refine q_iconst dX12_readCall_68 (by decide) ?_
            intro v2892 h2893
            refine tr_goto 81 dX12_readCall_69 (by decide) ?_
            refine tr_istore_n dX12_readCall_81 (by decide) (by decide) ?_
            refine tr_aload_n dX12_readCall_82 rfl ?_
            refine q_callVv hE (M' := mX12_goesOn) (as := []) dX12_readCall_83 lk12_142 inX12_goesOn seX12_goesOn myX12_goesOn (by decide) ⟨by decide, by decide⟩ rfl (kR15 hS2874.1 ta0) (Nat.le_of_ble_eq_true rfl) rfl rfl (by decide) (by decide) (k_X12_goesOn hS2874.1 ta0) ?_
            rintro cn' K' N' I2894 R2895 L2896 ⟨rfl, rfl, rfl, rfl, g2897, p2899, p2900, p2901, w2902, -⟩
            have hS2903 := hS2874.tr g2897 (by decide +kernel) (by decide +kernel)
            have c2904 : I2894 a1 5 = v49 := (g2897.cell ta1 (by decide +kernel)).trans c2875
            have c2905 : I2894 a0 13 = v2885 := (g2897.cell ta0 (by decide +kernel)).trans c2886
            have c2906 : I2894 a0 14 = v2887 := (g2897.cell ta0 (by decide +kernel)).trans c2888
            obtain ⟨v2907, c2908⟩ : ∃ v, I2894 a0 9 = v := ⟨_, rfl⟩
            have b2909 := iv15_9 hS2903.1 ta0 c2908
            rw [c2883] at p2899
            rw [c2908] at p2899
            rw [c2883] at p2900
            rw [c2908] at p2900
            obtain ⟨v2910, c2911⟩ : ∃ v, I2894 a0 8 = v := ⟨_, rfl⟩
            have b2912 := iv15_8 hS2903.1 ta0 c2911
            rw [c2911] at p2901
            rw [c2876] at p2901
            rw [c2905] at p2901
            rw [c2886] at p2901
            have hO2913 : FrO 14 a1 T I0 I2894 := hO2880.st g2897 (by decide +kernel)
            have ov2914 := w2902.over (by rw [c2883]; omega)
            obtain ⟨v2915, c2916⟩ : ∃ v, I2894 a0 9 = v := ⟨_, rfl⟩
            have b2917 := iv15_9 hS2903.1 ta0 c2916
            obtain ⟨v2918, c2919⟩ : ∃ v, I2894 a0 13 = v := ⟨_, rfl⟩
            obtain ⟨v2920, c2921⟩ : ∃ v, I2894 a0 14 = v := ⟨_, rfl⟩
            (try rw [c2916] at ov2914)
            (try rw [c2919] at ov2914)
            (try rw [c2921] at ov2914)
            (try rw [c2883] at ov2914)
            (try rw [c2886] at ov2914)
            (try rw [c2888] at ov2914)
            refine tr_aload_n dX12_readCall_86 rfl ?_
            refine tr_ldcwS dX12_readCall_87 ld12_352 ?_
            refine q_iconst dX12_readCall_90 (by decide) ?_
            intro v2922 h2923
            refine tr_aload_n dX12_readCall_91 rfl ?_
            refine tr_getR dX12_readCall_92 fl12_188 (kR15 hS2903.1 ta0) d2 ?_
            refine q_getI dX12_readCall_95 fl12_192 (kR14 hS2903.1 ta1) ((hS2903.cell ta1 (by decide +kernel)).trans c30) ?_
            refine q_iconst dX12_readCall_98 (by decide) ?_
            intro v2924 h2925
            refine q_isubE dX12_readCall_99 (by intros; omega) ?_
            intro v2926 h2927
            refine q_callVi hE (M' := mX12_readPart) (as := [_, _, _]) dX12_readCall_100 lk12_249 inX12_readPart seX12_readPart myX12_readPart (by decide) ⟨by decide, by decide⟩ rfl (kR15 hS2903.1 ta0) (Nat.le_of_ble_eq_true rfl) rfl rfl (by decide) (by decide) (k_X12_readPart hS2903.1 ta0 (by decide)) ?_
            rintro v2932 cn' K' N' I2928 R2929 L2930 ⟨rfl, rfl, rfl, rfl, g2931, p2933, w2934, -⟩
            have hS2935 := hS2903.tr g2931 (by decide +kernel) (by decide +kernel)
            have c2936 : I2928 a1 5 = v49 := (g2931.cell ta1 (by decide +kernel)).trans c2904
            have b2937 : 0 ≤ v2932.toInt ∧ v2932.toInt ≤ 0 := by omega
            clear p2933
            have hO2938 : FrO 14 a1 T I0 I2928 := hO2913.st g2931 (by decide +kernel)
            have ov2939 := w2934.over (by rw [c2916]; omega)
            obtain ⟨v2940, c2941⟩ : ∃ v, I2928 a0 9 = v := ⟨_, rfl⟩
            have b2942 := iv15_9 hS2935.1 ta0 c2941
            obtain ⟨v2943, c2944⟩ : ∃ v, I2928 a0 13 = v := ⟨_, rfl⟩
            obtain ⟨v2945, c2946⟩ : ∃ v, I2928 a0 14 = v := ⟨_, rfl⟩
            (try rw [c2941] at ov2939)
            (try rw [c2944] at ov2939)
            (try rw [c2946] at ov2939)
            (try rw [c2916] at ov2939)
            (try rw [c2919] at ov2939)
            (try rw [c2921] at ov2939)
            refine tr_istore_n dX12_readCall_103 (by decide) (by decide) ?_
            refine tr_aload_n dX12_readCall_104 rfl ?_
            refine tr_ldcwS dX12_readCall_105 ld12_354 ?_
            refine q_iconst dX12_readCall_108 (by decide) ?_
            intro v2947 h2948
            refine q_bipush dX12_readCall_109 (by decide +kernel) ?_
            intro v2949 h2950
            refine q_callVi hE (M' := mX12_readPart) (as := [_, _, _]) dX12_readCall_111 lk12_249 inX12_readPart seX12_readPart myX12_readPart (by decide) ⟨by decide, by decide⟩ rfl (kR15 hS2935.1 ta0) (Nat.le_of_ble_eq_true rfl) rfl rfl (by decide) (by decide) (k_X12_readPart hS2935.1 ta0 (by decide)) ?_
            rintro v2955 cn' K' N' I2951 R2952 L2953 ⟨rfl, rfl, rfl, rfl, g2954, p2956, w2957, -⟩
            have hS2958 := hS2935.tr g2954 (by decide +kernel) (by decide +kernel)
            have c2959 : I2951 a1 5 = v49 := (g2954.cell ta1 (by decide +kernel)).trans c2936
            have b2960 : 1 ≤ v2955.toInt ∧ v2955.toInt ≤ 60 := by omega
            clear p2956
            have hO2961 : FrO 14 a1 T I0 I2951 := hO2938.st g2954 (by decide +kernel)
            have ov2962 := w2957.over (by rw [c2941]; omega)
            obtain ⟨v2963, c2964⟩ : ∃ v, I2951 a0 9 = v := ⟨_, rfl⟩
            have b2965 := iv15_9 hS2958.1 ta0 c2964
            obtain ⟨v2966, c2967⟩ : ∃ v, I2951 a0 13 = v := ⟨_, rfl⟩
            obtain ⟨v2968, c2969⟩ : ∃ v, I2951 a0 14 = v := ⟨_, rfl⟩
            (try rw [c2964] at ov2962)
            (try rw [c2967] at ov2962)
            (try rw [c2969] at ov2962)
            (try rw [c2941] at ov2962)
            (try rw [c2944] at ov2962)
            (try rw [c2946] at ov2962)
            refine tr_istore dX12_readCall_114 (by decide) (by decide) ?_
            refine tr_aload_n dX12_readCall_116 rfl ?_
            refine tr_ldcwS dX12_readCall_117 ld12_356 ?_
            refine q_iconst dX12_readCall_120 (by decide) ?_
            intro v2970 h2971
            refine q_bipush dX12_readCall_121 (by decide +kernel) ?_
            intro v2972 h2973
            refine q_callVi hE (M' := mX12_readPart) (as := [_, _, _]) dX12_readCall_123 lk12_249 inX12_readPart seX12_readPart myX12_readPart (by decide) ⟨by decide, by decide⟩ rfl (kR15 hS2958.1 ta0) (Nat.le_of_ble_eq_true rfl) rfl rfl (by decide) (by decide) (k_X12_readPart hS2958.1 ta0 (by decide)) ?_
            rintro v2978 cn' K' N' I2974 R2975 L2976 ⟨rfl, rfl, rfl, rfl, g2977, p2979, w2980, -⟩
            have hS2981 := hS2958.tr g2977 (by decide +kernel) (by decide +kernel)
            have c2982 : I2974 a1 5 = v49 := (g2977.cell ta1 (by decide +kernel)).trans c2959
            have b2983 : 0 ≤ v2978.toInt ∧ v2978.toInt ≤ 99 := by omega
            clear p2979
            have hO2984 : FrO 14 a1 T I0 I2974 := hO2961.st g2977 (by decide +kernel)
            have ov2985 := w2980.over (by rw [c2964]; omega)
            obtain ⟨v2986, c2987⟩ : ∃ v, I2974 a0 9 = v := ⟨_, rfl⟩
            have b2988 := iv15_9 hS2981.1 ta0 c2987
            obtain ⟨v2989, c2990⟩ : ∃ v, I2974 a0 13 = v := ⟨_, rfl⟩
            obtain ⟨v2991, c2992⟩ : ∃ v, I2974 a0 14 = v := ⟨_, rfl⟩
            (try rw [c2987] at ov2985)
            (try rw [c2990] at ov2985)
            (try rw [c2992] at ov2985)
            (try rw [c2964] at ov2985)
            (try rw [c2967] at ov2985)
            (try rw [c2969] at ov2985)
            refine tr_istore dX12_readCall_126 (by decide) (by decide) ?_
            refine tr_aload_n dX12_readCall_128 rfl ?_
            refine q_getI dX12_readCall_129 fl12_99 (kR15 hS2981.1 ta0) c2987 ?_
            refine q_iconst dX12_readCall_132 (by decide) ?_
            intro v2993 h2994
            refine q_icmp_ne 137 dX12_readCall_133 (by decide) (fun h2995 => ?_) (fun h2995 => ?_)
            · skip
              exfalso; omega
            · skip
              have eF := hF.eq
              have eP := hP.eq
              obtain ⟨v2996, c2997⟩ : ∃ v, I2974 a0 10 = v := ⟨_, rfl⟩
              have b2998 := iv15_10 hS2981.1 ta0 c2997
              obtain ⟨v2999, c3000⟩ : ∃ v, I2974 a0 11 = v := ⟨_, rfl⟩
              obtain ⟨y3001, c3002⟩ : ∃ v, L2976 a0 15 = v := ⟨_, rfl⟩
              obtain ⟨v3003, c3004⟩ : ∃ v, I2974 a0 12 = v := ⟨_, rfl⟩
              obtain ⟨v3005, c3006⟩ : ∃ v, I2974 a0 8 = v := ⟨_, rfl⟩
              have b3007 := iv15_8 hS2981.1 ta0 c3006
              exact tr_vret hZ dX12_readCall_136 rfl (by decide) (by decide) ⟨rfl, rfl, rfl, rfl, rfl, hS2981, (fun dr hd => (Option.some.inj (d2.symm.trans hd)) ▸ hO2984), (Or.inr (⟨(by first | done | with_reducible assumption | omega), (by (try rw [c2987]); first | done | with_reducible assumption | omega), (by (try rw [c2990]); first | done | with_reducible assumption | omega), (by (try rw [c2992]); first | done | with_reducible assumption | omega), trivial⟩)), trivial⟩
    · skip
      refine tr_aload_n dX12_readCall_20 rfl ?_
      refine q_iconst dX12_readCall_21 (by decide) ?_
      intro v3008 h3009
      obtain ⟨v3010, c3011⟩ : ∃ v, I68 a0 8 = v := ⟨_, rfl⟩
      have b3012 := iv15_8 hS76.1 ta0 c3011
      refine q_callVv hE (M' := mX12_flaw) (as := [_]) dX12_readCall_22 lk12_145 inX12_flaw seX12_flaw myX12_flaw (by decide) ⟨by decide, by decide⟩ rfl (kR15 hS76.1 ta0) (Nat.le_of_ble_eq_true rfl) rfl rfl (by decide) (by decide) (k_X12_flaw hS76.1 ta0 (by omega)) ?_
      rintro cn' K' N' I3013 R3014 L3015 ⟨rfl, rfl, rfl, rfl, rfl, g3016, p3018, p3019, w3020, -⟩
      have hS3021 := hS76.tr g3016 (by decide +kernel) (by decide +kernel)
      have c3022 : I3013 a1 5 = v49 := (g3016.cell ta1 (by decide +kernel)).trans c77
      have c3023 : I3013 a0 8 = v3010 := (g3016.cell ta0 (by decide +kernel)).trans c3011
      obtain ⟨v3024, c3025⟩ : ∃ v, I3013 a0 9 = v := ⟨_, rfl⟩
      have b3026 := iv15_9 hS3021.1 ta0 c3025
      rw [c3025] at p3018
      rw [c3023] at p3019
      rw [c3011] at p3019
      have hO3027 : FrO 14 a1 T I0 I3013 := hO78.st g3016 (by decide +kernel)
      have ov3028 := w3020.over (by rw [c2559]; omega)
      obtain ⟨v3029, c3030⟩ : ∃ v, I3013 a0 9 = v := ⟨_, rfl⟩
      have b3031 := iv15_9 hS3021.1 ta0 c3030
      obtain ⟨v3032, c3033⟩ : ∃ v, I3013 a0 13 = v := ⟨_, rfl⟩
      obtain ⟨v3034, c3035⟩ : ∃ v, I3013 a0 14 = v := ⟨_, rfl⟩
      (try rw [c3030] at ov3028)
      (try rw [c3033] at ov3028)
      (try rw [c3035] at ov3028)
      (try rw [c2559] at ov3028)
      (try rw [c2562] at ov3028)
      (try rw [c2564] at ov3028)
      refine tr_aload_n dX12_readCall_25 rfl ?_
      refine tr_getR dX12_readCall_26 fl12_188 (kR15 hS3021.1 ta0) d2 ?_
      refine tr_aload_n dX12_readCall_29 rfl ?_
      have p3036 := p17 (by omega)
      obtain ⟨y3037, c3038⟩ : ∃ v, L70 a0 15 = v := ⟨_, rfl⟩
      refine q_getLE dX12_readCall_30 fl12_118 (kR15 hS3021.1 ta0) c3038 ?_
      refine q_callVi hE (M' := mX11_find) (as := [_]) dX12_readCall_33 lk12_201 inX11_find seX11_find myX11_find (by decide) ⟨by decide, by decide⟩ rfl (kR14 hS3021.1 ta1) (Nat.le_of_ble_eq_true rfl) rfl rfl (by decide) (by decide) (k_X11_find hS3021.1 ta1) ?_
      rintro v3043 cn' K' N' I3039 R3040 L3041 ⟨rfl, rfl, rfl, rfl, rfl, rfl, h3044, -⟩
      refine tr_istore_n dX12_readCall_36 (by decide) (by decide) ?_
      refine tr_iload_n dX12_readCall_37 rfl ?_
      refine q_iconst dX12_readCall_38 (by decide) ?_
      intro v3045 h3046
      refine q_icmp_eq 55 dX12_readCall_39 (by decide) (fun h3047 => ?_) (fun h3047 => ?_)
      · skip
        refine tr_aload_n dX12_readCall_55 rfl ?_
        refine q_iconst dX12_readCall_56 (by decide) ?_
        intro v3048 h3049
        refine q_callVv hE (M' := mX12_flaw) (as := [_]) dX12_readCall_57 lk12_145 inX12_flaw seX12_flaw myX12_flaw (by decide) ⟨by decide, by decide⟩ rfl (kR15 hS3021.1 ta0) (Nat.le_of_ble_eq_true rfl) rfl rfl (by decide) (by decide) (k_X12_flaw hS3021.1 ta0 (by omega)) ?_
        rintro cn' K' N' I3050 R3051 L3052 ⟨rfl, rfl, rfl, rfl, rfl, g3053, p3055, p3056, w3057, -⟩
        have hS3058 := hS3021.tr g3053 (by decide +kernel) (by decide +kernel)
        have c3059 : I3050 a1 5 = v49 := (g3053.cell ta1 (by decide +kernel)).trans c3022
        have c3060 : I3050 a0 8 = v3010 := (g3053.cell ta0 (by decide +kernel)).trans c3023
        obtain ⟨v3061, c3062⟩ : ∃ v, I3050 a0 9 = v := ⟨_, rfl⟩
        have b3063 := iv15_9 hS3058.1 ta0 c3062
        rw [c3062] at p3055
        rw [c3060] at p3056
        rw [c3023] at p3056
        have hO3064 : FrO 14 a1 T I0 I3050 := hO3027.st g3053 (by decide +kernel)
        have ov3065 := w3057.over (by rw [c3030]; omega)
        obtain ⟨v3066, c3067⟩ : ∃ v, I3050 a0 9 = v := ⟨_, rfl⟩
        have b3068 := iv15_9 hS3058.1 ta0 c3067
        obtain ⟨v3069, c3070⟩ : ∃ v, I3050 a0 13 = v := ⟨_, rfl⟩
        obtain ⟨v3071, c3072⟩ : ∃ v, I3050 a0 14 = v := ⟨_, rfl⟩
        (try rw [c3067] at ov3065)
        (try rw [c3070] at ov3065)
        (try rw [c3072] at ov3065)
        (try rw [c3030] at ov3065)
        (try rw [c3033] at ov3065)
        (try rw [c3035] at ov3065)
        refine tr_aload_n dX12_readCall_60 rfl ?_
        refine q_getI dX12_readCall_61 fl12_99 (kR15 hS3058.1 ta0) c3067 ?_
        refine q_iconst dX12_readCall_64 (by decide) ?_
        intro v3073 h3074
        refine q_icmp_ne 72 dX12_readCall_65 (by decide) (fun h3075 => ?_) (fun h3075 => ?_)
        · skip
          exfalso; omega
        · skip
          refine q_iconst dX12_readCall_68 (by decide) ?_
          intro v3076 h3077
          refine tr_goto 81 dX12_readCall_69 (by decide) ?_
          refine tr_istore_n dX12_readCall_81 (by decide) (by decide) ?_
          refine tr_aload_n dX12_readCall_82 rfl ?_
          refine q_callVv hE (M' := mX12_goesOn) (as := []) dX12_readCall_83 lk12_142 inX12_goesOn seX12_goesOn myX12_goesOn (by decide) ⟨by decide, by decide⟩ rfl (kR15 hS3058.1 ta0) (Nat.le_of_ble_eq_true rfl) rfl rfl (by decide) (by decide) (k_X12_goesOn hS3058.1 ta0) ?_
          rintro cn' K' N' I3078 R3079 L3080 ⟨rfl, rfl, rfl, rfl, g3081, p3083, p3084, p3085, w3086, -⟩
          have hS3087 := hS3058.tr g3081 (by decide +kernel) (by decide +kernel)
          have c3088 : I3078 a1 5 = v49 := (g3081.cell ta1 (by decide +kernel)).trans c3059
          have c3089 : I3078 a0 13 = v3069 := (g3081.cell ta0 (by decide +kernel)).trans c3070
          have c3090 : I3078 a0 14 = v3071 := (g3081.cell ta0 (by decide +kernel)).trans c3072
          obtain ⟨v3091, c3092⟩ : ∃ v, I3078 a0 9 = v := ⟨_, rfl⟩
          have b3093 := iv15_9 hS3087.1 ta0 c3092
          rw [c3067] at p3083
          rw [c3092] at p3083
          rw [c3067] at p3084
          rw [c3092] at p3084
          obtain ⟨v3094, c3095⟩ : ∃ v, I3078 a0 8 = v := ⟨_, rfl⟩
          have b3096 := iv15_8 hS3087.1 ta0 c3095
          rw [c3095] at p3085
          rw [c3060] at p3085
          rw [c3089] at p3085
          rw [c3070] at p3085
          have hO3097 : FrO 14 a1 T I0 I3078 := hO3064.st g3081 (by decide +kernel)
          have ov3098 := w3086.over (by rw [c3067]; omega)
          obtain ⟨v3099, c3100⟩ : ∃ v, I3078 a0 9 = v := ⟨_, rfl⟩
          have b3101 := iv15_9 hS3087.1 ta0 c3100
          obtain ⟨v3102, c3103⟩ : ∃ v, I3078 a0 13 = v := ⟨_, rfl⟩
          obtain ⟨v3104, c3105⟩ : ∃ v, I3078 a0 14 = v := ⟨_, rfl⟩
          (try rw [c3100] at ov3098)
          (try rw [c3103] at ov3098)
          (try rw [c3105] at ov3098)
          (try rw [c3067] at ov3098)
          (try rw [c3070] at ov3098)
          (try rw [c3072] at ov3098)
          refine tr_aload_n dX12_readCall_86 rfl ?_
          refine tr_ldcwS dX12_readCall_87 ld12_352 ?_
          refine q_iconst dX12_readCall_90 (by decide) ?_
          intro v3106 h3107
          refine tr_aload_n dX12_readCall_91 rfl ?_
          refine tr_getR dX12_readCall_92 fl12_188 (kR15 hS3087.1 ta0) d2 ?_
          refine q_getI dX12_readCall_95 fl12_192 (kR14 hS3087.1 ta1) ((hS3087.cell ta1 (by decide +kernel)).trans c30) ?_
          refine q_iconst dX12_readCall_98 (by decide) ?_
          intro v3108 h3109
          refine q_isubE dX12_readCall_99 (by intros; omega) ?_
          intro v3110 h3111
          refine q_callVi hE (M' := mX12_readPart) (as := [_, _, _]) dX12_readCall_100 lk12_249 inX12_readPart seX12_readPart myX12_readPart (by decide) ⟨by decide, by decide⟩ rfl (kR15 hS3087.1 ta0) (Nat.le_of_ble_eq_true rfl) rfl rfl (by decide) (by decide) (k_X12_readPart hS3087.1 ta0 (by decide)) ?_
          rintro v3116 cn' K' N' I3112 R3113 L3114 ⟨rfl, rfl, rfl, rfl, g3115, p3117, w3118, -⟩
          have hS3119 := hS3087.tr g3115 (by decide +kernel) (by decide +kernel)
          have c3120 : I3112 a1 5 = v49 := (g3115.cell ta1 (by decide +kernel)).trans c3088
          have b3121 : 0 ≤ v3116.toInt ∧ v3116.toInt ≤ 0 := by omega
          clear p3117
          have hO3122 : FrO 14 a1 T I0 I3112 := hO3097.st g3115 (by decide +kernel)
          have ov3123 := w3118.over (by rw [c3100]; omega)
          obtain ⟨v3124, c3125⟩ : ∃ v, I3112 a0 9 = v := ⟨_, rfl⟩
          have b3126 := iv15_9 hS3119.1 ta0 c3125
          obtain ⟨v3127, c3128⟩ : ∃ v, I3112 a0 13 = v := ⟨_, rfl⟩
          obtain ⟨v3129, c3130⟩ : ∃ v, I3112 a0 14 = v := ⟨_, rfl⟩
          (try rw [c3125] at ov3123)
          (try rw [c3128] at ov3123)
          (try rw [c3130] at ov3123)
          (try rw [c3100] at ov3123)
          (try rw [c3103] at ov3123)
          (try rw [c3105] at ov3123)
          refine tr_istore_n dX12_readCall_103 (by decide) (by decide) ?_
          refine tr_aload_n dX12_readCall_104 rfl ?_
          refine tr_ldcwS dX12_readCall_105 ld12_354 ?_
          refine q_iconst dX12_readCall_108 (by decide) ?_
          intro v3131 h3132
          refine q_bipush dX12_readCall_109 (by decide +kernel) ?_
          intro v3133 h3134
          refine q_callVi hE (M' := mX12_readPart) (as := [_, _, _]) dX12_readCall_111 lk12_249 inX12_readPart seX12_readPart myX12_readPart (by decide) ⟨by decide, by decide⟩ rfl (kR15 hS3119.1 ta0) (Nat.le_of_ble_eq_true rfl) rfl rfl (by decide) (by decide) (k_X12_readPart hS3119.1 ta0 (by decide)) ?_
          rintro v3139 cn' K' N' I3135 R3136 L3137 ⟨rfl, rfl, rfl, rfl, g3138, p3140, w3141, -⟩
          have hS3142 := hS3119.tr g3138 (by decide +kernel) (by decide +kernel)
          have c3143 : I3135 a1 5 = v49 := (g3138.cell ta1 (by decide +kernel)).trans c3120
          have b3144 : 1 ≤ v3139.toInt ∧ v3139.toInt ≤ 60 := by omega
          clear p3140
          have hO3145 : FrO 14 a1 T I0 I3135 := hO3122.st g3138 (by decide +kernel)
          have ov3146 := w3141.over (by rw [c3125]; omega)
          obtain ⟨v3147, c3148⟩ : ∃ v, I3135 a0 9 = v := ⟨_, rfl⟩
          have b3149 := iv15_9 hS3142.1 ta0 c3148
          obtain ⟨v3150, c3151⟩ : ∃ v, I3135 a0 13 = v := ⟨_, rfl⟩
          obtain ⟨v3152, c3153⟩ : ∃ v, I3135 a0 14 = v := ⟨_, rfl⟩
          (try rw [c3148] at ov3146)
          (try rw [c3151] at ov3146)
          (try rw [c3153] at ov3146)
          (try rw [c3125] at ov3146)
          (try rw [c3128] at ov3146)
          (try rw [c3130] at ov3146)
          refine tr_istore dX12_readCall_114 (by decide) (by decide) ?_
          refine tr_aload_n dX12_readCall_116 rfl ?_
          refine tr_ldcwS dX12_readCall_117 ld12_356 ?_
          refine q_iconst dX12_readCall_120 (by decide) ?_
          intro v3154 h3155
          refine q_bipush dX12_readCall_121 (by decide +kernel) ?_
          intro v3156 h3157
          refine q_callVi hE (M' := mX12_readPart) (as := [_, _, _]) dX12_readCall_123 lk12_249 inX12_readPart seX12_readPart myX12_readPart (by decide) ⟨by decide, by decide⟩ rfl (kR15 hS3142.1 ta0) (Nat.le_of_ble_eq_true rfl) rfl rfl (by decide) (by decide) (k_X12_readPart hS3142.1 ta0 (by decide)) ?_
          rintro v3162 cn' K' N' I3158 R3159 L3160 ⟨rfl, rfl, rfl, rfl, g3161, p3163, w3164, -⟩
          have hS3165 := hS3142.tr g3161 (by decide +kernel) (by decide +kernel)
          have c3166 : I3158 a1 5 = v49 := (g3161.cell ta1 (by decide +kernel)).trans c3143
          have b3167 : 0 ≤ v3162.toInt ∧ v3162.toInt ≤ 99 := by omega
          clear p3163
          have hO3168 : FrO 14 a1 T I0 I3158 := hO3145.st g3161 (by decide +kernel)
          have ov3169 := w3164.over (by rw [c3148]; omega)
          obtain ⟨v3170, c3171⟩ : ∃ v, I3158 a0 9 = v := ⟨_, rfl⟩
          have b3172 := iv15_9 hS3165.1 ta0 c3171
          obtain ⟨v3173, c3174⟩ : ∃ v, I3158 a0 13 = v := ⟨_, rfl⟩
          obtain ⟨v3175, c3176⟩ : ∃ v, I3158 a0 14 = v := ⟨_, rfl⟩
          (try rw [c3171] at ov3169)
          (try rw [c3174] at ov3169)
          (try rw [c3176] at ov3169)
          (try rw [c3148] at ov3169)
          (try rw [c3151] at ov3169)
          (try rw [c3153] at ov3169)
          refine tr_istore dX12_readCall_126 (by decide) (by decide) ?_
          refine tr_aload_n dX12_readCall_128 rfl ?_
          refine q_getI dX12_readCall_129 fl12_99 (kR15 hS3165.1 ta0) c3171 ?_
          refine q_iconst dX12_readCall_132 (by decide) ?_
          intro v3177 h3178
          refine q_icmp_ne 137 dX12_readCall_133 (by decide) (fun h3179 => ?_) (fun h3179 => ?_)
          · skip
            exfalso; omega
          · skip
            have eF := hF.eq
            have eP := hP.eq
            obtain ⟨v3180, c3181⟩ : ∃ v, I3158 a0 10 = v := ⟨_, rfl⟩
            have b3182 := iv15_10 hS3165.1 ta0 c3181
            obtain ⟨v3183, c3184⟩ : ∃ v, I3158 a0 11 = v := ⟨_, rfl⟩
            obtain ⟨y3185, c3186⟩ : ∃ v, L3160 a0 15 = v := ⟨_, rfl⟩
            obtain ⟨v3187, c3188⟩ : ∃ v, I3158 a0 12 = v := ⟨_, rfl⟩
            obtain ⟨v3189, c3190⟩ : ∃ v, I3158 a0 8 = v := ⟨_, rfl⟩
            have b3191 := iv15_8 hS3165.1 ta0 c3190
            exact tr_vret hZ dX12_readCall_136 rfl (by decide) (by decide) ⟨rfl, rfl, rfl, rfl, rfl, hS3165, (fun dr hd => (Option.some.inj (d2.symm.trans hd)) ▸ hO3168), (Or.inr (⟨(by first | done | with_reducible assumption | omega), (by (try rw [c3171]); first | done | with_reducible assumption | omega), (by (try rw [c3174]); first | done | with_reducible assumption | omega), (by (try rw [c3176]); first | done | with_reducible assumption | omega), trivial⟩)), trivial⟩
      · skip
        refine tr_aload_n dX12_readCall_42 rfl ?_
        refine tr_getR dX12_readCall_43 fl12_188 (kR15 hS3021.1 ta0) d2 ?_
        obtain ⟨a3192, d3193, ta3192⟩ := rf14_31 hW0 ta1
        refine tr_getR dX12_readCall_46 fl12_212 (kR14 hS3021.1 ta1) d3193 ?_
        refine tr_iload_n dX12_readCall_49 rfl ?_
        refine q_iald dX12_readCall_50 (kR74 hS3021.1 ta3192) (ti_in (nR74 hS3021.1 ta3192) (by omega) (by omega)) ?_
        intro v3194 c3195
        refine q_iconst dX12_readCall_51 (by decide) ?_
        intro v3196 h3197
        refine q_icmp_eq 60 dX12_readCall_52 (by decide) (fun h3198 => ?_) (fun h3198 => ?_)
        · skip
          refine tr_aload_n dX12_readCall_60 rfl ?_
          refine q_getI dX12_readCall_61 fl12_99 (kR15 hS3021.1 ta0) c3030 ?_
          refine q_iconst dX12_readCall_64 (by decide) ?_
          intro v3199 h3200
          refine q_icmp_ne 72 dX12_readCall_65 (by decide) (fun h3201 => ?_) (fun h3201 => ?_)
          · skip
            exfalso; omega
          · skip
            refine q_iconst dX12_readCall_68 (by decide) ?_
            intro v3202 h3203
            refine tr_goto 81 dX12_readCall_69 (by decide) ?_
            refine tr_istore_n dX12_readCall_81 (by decide) (by decide) ?_
            refine tr_aload_n dX12_readCall_82 rfl ?_
            refine q_callVv hE (M' := mX12_goesOn) (as := []) dX12_readCall_83 lk12_142 inX12_goesOn seX12_goesOn myX12_goesOn (by decide) ⟨by decide, by decide⟩ rfl (kR15 hS3021.1 ta0) (Nat.le_of_ble_eq_true rfl) rfl rfl (by decide) (by decide) (k_X12_goesOn hS3021.1 ta0) ?_
            rintro cn' K' N' I3204 R3205 L3206 ⟨rfl, rfl, rfl, rfl, g3207, p3209, p3210, p3211, w3212, -⟩
            have hS3213 := hS3021.tr g3207 (by decide +kernel) (by decide +kernel)
            have c3214 : I3204 a1 5 = v49 := (g3207.cell ta1 (by decide +kernel)).trans c3022
            have c3215 : I3204 a0 13 = v3032 := (g3207.cell ta0 (by decide +kernel)).trans c3033
            have c3216 : I3204 a0 14 = v3034 := (g3207.cell ta0 (by decide +kernel)).trans c3035
            obtain ⟨v3217, c3218⟩ : ∃ v, I3204 a0 9 = v := ⟨_, rfl⟩
            have b3219 := iv15_9 hS3213.1 ta0 c3218
            rw [c3030] at p3209
            rw [c3218] at p3209
            rw [c3030] at p3210
            rw [c3218] at p3210
            obtain ⟨v3220, c3221⟩ : ∃ v, I3204 a0 8 = v := ⟨_, rfl⟩
            have b3222 := iv15_8 hS3213.1 ta0 c3221
            rw [c3221] at p3211
            rw [c3023] at p3211
            rw [c3215] at p3211
            rw [c3033] at p3211
            have hO3223 : FrO 14 a1 T I0 I3204 := hO3027.st g3207 (by decide +kernel)
            have ov3224 := w3212.over (by rw [c3030]; omega)
            obtain ⟨v3225, c3226⟩ : ∃ v, I3204 a0 9 = v := ⟨_, rfl⟩
            have b3227 := iv15_9 hS3213.1 ta0 c3226
            obtain ⟨v3228, c3229⟩ : ∃ v, I3204 a0 13 = v := ⟨_, rfl⟩
            obtain ⟨v3230, c3231⟩ : ∃ v, I3204 a0 14 = v := ⟨_, rfl⟩
            (try rw [c3226] at ov3224)
            (try rw [c3229] at ov3224)
            (try rw [c3231] at ov3224)
            (try rw [c3030] at ov3224)
            (try rw [c3033] at ov3224)
            (try rw [c3035] at ov3224)
            refine tr_aload_n dX12_readCall_86 rfl ?_
            refine tr_ldcwS dX12_readCall_87 ld12_352 ?_
            refine q_iconst dX12_readCall_90 (by decide) ?_
            intro v3232 h3233
            refine tr_aload_n dX12_readCall_91 rfl ?_
            refine tr_getR dX12_readCall_92 fl12_188 (kR15 hS3213.1 ta0) d2 ?_
            refine q_getI dX12_readCall_95 fl12_192 (kR14 hS3213.1 ta1) ((hS3213.cell ta1 (by decide +kernel)).trans c30) ?_
            refine q_iconst dX12_readCall_98 (by decide) ?_
            intro v3234 h3235
            refine q_isubE dX12_readCall_99 (by intros; omega) ?_
            intro v3236 h3237
            refine q_callVi hE (M' := mX12_readPart) (as := [_, _, _]) dX12_readCall_100 lk12_249 inX12_readPart seX12_readPart myX12_readPart (by decide) ⟨by decide, by decide⟩ rfl (kR15 hS3213.1 ta0) (Nat.le_of_ble_eq_true rfl) rfl rfl (by decide) (by decide) (k_X12_readPart hS3213.1 ta0 (by decide)) ?_
            rintro v3242 cn' K' N' I3238 R3239 L3240 ⟨rfl, rfl, rfl, rfl, g3241, p3243, w3244, -⟩
            have hS3245 := hS3213.tr g3241 (by decide +kernel) (by decide +kernel)
            have c3246 : I3238 a1 5 = v49 := (g3241.cell ta1 (by decide +kernel)).trans c3214
            have b3247 : 0 ≤ v3242.toInt ∧ v3242.toInt ≤ 0 := by omega
            clear p3243
            have hO3248 : FrO 14 a1 T I0 I3238 := hO3223.st g3241 (by decide +kernel)
            have ov3249 := w3244.over (by rw [c3226]; omega)
            obtain ⟨v3250, c3251⟩ : ∃ v, I3238 a0 9 = v := ⟨_, rfl⟩
            have b3252 := iv15_9 hS3245.1 ta0 c3251
            obtain ⟨v3253, c3254⟩ : ∃ v, I3238 a0 13 = v := ⟨_, rfl⟩
            obtain ⟨v3255, c3256⟩ : ∃ v, I3238 a0 14 = v := ⟨_, rfl⟩
            (try rw [c3251] at ov3249)
            (try rw [c3254] at ov3249)
            (try rw [c3256] at ov3249)
            (try rw [c3226] at ov3249)
            (try rw [c3229] at ov3249)
            (try rw [c3231] at ov3249)
            refine tr_istore_n dX12_readCall_103 (by decide) (by decide) ?_
            refine tr_aload_n dX12_readCall_104 rfl ?_
            refine tr_ldcwS dX12_readCall_105 ld12_354 ?_
            refine q_iconst dX12_readCall_108 (by decide) ?_
            intro v3257 h3258
            refine q_bipush dX12_readCall_109 (by decide +kernel) ?_
            intro v3259 h3260
            refine q_callVi hE (M' := mX12_readPart) (as := [_, _, _]) dX12_readCall_111 lk12_249 inX12_readPart seX12_readPart myX12_readPart (by decide) ⟨by decide, by decide⟩ rfl (kR15 hS3245.1 ta0) (Nat.le_of_ble_eq_true rfl) rfl rfl (by decide) (by decide) (k_X12_readPart hS3245.1 ta0 (by decide)) ?_
            rintro v3265 cn' K' N' I3261 R3262 L3263 ⟨rfl, rfl, rfl, rfl, g3264, p3266, w3267, -⟩
            have hS3268 := hS3245.tr g3264 (by decide +kernel) (by decide +kernel)
            have c3269 : I3261 a1 5 = v49 := (g3264.cell ta1 (by decide +kernel)).trans c3246
            have b3270 : 1 ≤ v3265.toInt ∧ v3265.toInt ≤ 60 := by omega
            clear p3266
            have hO3271 : FrO 14 a1 T I0 I3261 := hO3248.st g3264 (by decide +kernel)
            have ov3272 := w3267.over (by rw [c3251]; omega)
            obtain ⟨v3273, c3274⟩ : ∃ v, I3261 a0 9 = v := ⟨_, rfl⟩
            have b3275 := iv15_9 hS3268.1 ta0 c3274
            obtain ⟨v3276, c3277⟩ : ∃ v, I3261 a0 13 = v := ⟨_, rfl⟩
            obtain ⟨v3278, c3279⟩ : ∃ v, I3261 a0 14 = v := ⟨_, rfl⟩
            (try rw [c3274] at ov3272)
            (try rw [c3277] at ov3272)
            (try rw [c3279] at ov3272)
            (try rw [c3251] at ov3272)
            (try rw [c3254] at ov3272)
            (try rw [c3256] at ov3272)
            refine tr_istore dX12_readCall_114 (by decide) (by decide) ?_
            refine tr_aload_n dX12_readCall_116 rfl ?_
            refine tr_ldcwS dX12_readCall_117 ld12_356 ?_
            refine q_iconst dX12_readCall_120 (by decide) ?_
            intro v3280 h3281
            refine q_bipush dX12_readCall_121 (by decide +kernel) ?_
            intro v3282 h3283
            refine q_callVi hE (M' := mX12_readPart) (as := [_, _, _]) dX12_readCall_123 lk12_249 inX12_readPart seX12_readPart myX12_readPart (by decide) ⟨by decide, by decide⟩ rfl (kR15 hS3268.1 ta0) (Nat.le_of_ble_eq_true rfl) rfl rfl (by decide) (by decide) (k_X12_readPart hS3268.1 ta0 (by decide)) ?_
            rintro v3288 cn' K' N' I3284 R3285 L3286 ⟨rfl, rfl, rfl, rfl, g3287, p3289, w3290, -⟩
            have hS3291 := hS3268.tr g3287 (by decide +kernel) (by decide +kernel)
            have c3292 : I3284 a1 5 = v49 := (g3287.cell ta1 (by decide +kernel)).trans c3269
            have b3293 : 0 ≤ v3288.toInt ∧ v3288.toInt ≤ 99 := by omega
            clear p3289
            have hO3294 : FrO 14 a1 T I0 I3284 := hO3271.st g3287 (by decide +kernel)
            have ov3295 := w3290.over (by rw [c3274]; omega)
            obtain ⟨v3296, c3297⟩ : ∃ v, I3284 a0 9 = v := ⟨_, rfl⟩
            have b3298 := iv15_9 hS3291.1 ta0 c3297
            obtain ⟨v3299, c3300⟩ : ∃ v, I3284 a0 13 = v := ⟨_, rfl⟩
            obtain ⟨v3301, c3302⟩ : ∃ v, I3284 a0 14 = v := ⟨_, rfl⟩
            (try rw [c3297] at ov3295)
            (try rw [c3300] at ov3295)
            (try rw [c3302] at ov3295)
            (try rw [c3274] at ov3295)
            (try rw [c3277] at ov3295)
            (try rw [c3279] at ov3295)
            refine tr_istore dX12_readCall_126 (by decide) (by decide) ?_
            refine tr_aload_n dX12_readCall_128 rfl ?_
            refine q_getI dX12_readCall_129 fl12_99 (kR15 hS3291.1 ta0) c3297 ?_
            refine q_iconst dX12_readCall_132 (by decide) ?_
            intro v3303 h3304
            refine q_icmp_ne 137 dX12_readCall_133 (by decide) (fun h3305 => ?_) (fun h3305 => ?_)
            · skip
              exfalso; omega
            · skip
              have eF := hF.eq
              have eP := hP.eq
              obtain ⟨v3306, c3307⟩ : ∃ v, I3284 a0 10 = v := ⟨_, rfl⟩
              have b3308 := iv15_10 hS3291.1 ta0 c3307
              obtain ⟨v3309, c3310⟩ : ∃ v, I3284 a0 11 = v := ⟨_, rfl⟩
              obtain ⟨y3311, c3312⟩ : ∃ v, L3286 a0 15 = v := ⟨_, rfl⟩
              obtain ⟨v3313, c3314⟩ : ∃ v, I3284 a0 12 = v := ⟨_, rfl⟩
              obtain ⟨v3315, c3316⟩ : ∃ v, I3284 a0 8 = v := ⟨_, rfl⟩
              have b3317 := iv15_8 hS3291.1 ta0 c3316
              exact tr_vret hZ dX12_readCall_136 rfl (by decide) (by decide) ⟨rfl, rfl, rfl, rfl, rfl, hS3291, (fun dr hd => (Option.some.inj (d2.symm.trans hd)) ▸ hO3294), (Or.inr (⟨(by first | done | with_reducible assumption | omega), (by (try rw [c3297]); first | done | with_reducible assumption | omega), (by (try rw [c3300]); first | done | with_reducible assumption | omega), (by (try rw [c3302]); first | done | with_reducible assumption | omega), trivial⟩)), trivial⟩
        · skip
          refine tr_aload_n dX12_readCall_55 rfl ?_
          refine q_iconst dX12_readCall_56 (by decide) ?_
          intro v3318 h3319
          refine q_callVv hE (M' := mX12_flaw) (as := [_]) dX12_readCall_57 lk12_145 inX12_flaw seX12_flaw myX12_flaw (by decide) ⟨by decide, by decide⟩ rfl (kR15 hS3021.1 ta0) (Nat.le_of_ble_eq_true rfl) rfl rfl (by decide) (by decide) (k_X12_flaw hS3021.1 ta0 (by omega)) ?_
          rintro cn' K' N' I3320 R3321 L3322 ⟨rfl, rfl, rfl, rfl, rfl, g3323, p3325, p3326, w3327, -⟩
          have hS3328 := hS3021.tr g3323 (by decide +kernel) (by decide +kernel)
          have c3329 : I3320 a1 5 = v49 := (g3323.cell ta1 (by decide +kernel)).trans c3022
          have c3330 : I3320 a0 8 = v3010 := (g3323.cell ta0 (by decide +kernel)).trans c3023
          obtain ⟨v3331, c3332⟩ : ∃ v, I3320 a0 9 = v := ⟨_, rfl⟩
          have b3333 := iv15_9 hS3328.1 ta0 c3332
          rw [c3332] at p3325
          rw [c3330] at p3326
          rw [c3023] at p3326
          have hO3334 : FrO 14 a1 T I0 I3320 := hO3027.st g3323 (by decide +kernel)
          have ov3335 := w3327.over (by rw [c3030]; omega)
          obtain ⟨v3336, c3337⟩ : ∃ v, I3320 a0 9 = v := ⟨_, rfl⟩
          have b3338 := iv15_9 hS3328.1 ta0 c3337
          obtain ⟨v3339, c3340⟩ : ∃ v, I3320 a0 13 = v := ⟨_, rfl⟩
          obtain ⟨v3341, c3342⟩ : ∃ v, I3320 a0 14 = v := ⟨_, rfl⟩
          (try rw [c3337] at ov3335)
          (try rw [c3340] at ov3335)
          (try rw [c3342] at ov3335)
          (try rw [c3030] at ov3335)
          (try rw [c3033] at ov3335)
          (try rw [c3035] at ov3335)
          refine tr_aload_n dX12_readCall_60 rfl ?_
          refine q_getI dX12_readCall_61 fl12_99 (kR15 hS3328.1 ta0) c3337 ?_
          refine q_iconst dX12_readCall_64 (by decide) ?_
          intro v3343 h3344
          refine q_icmp_ne 72 dX12_readCall_65 (by decide) (fun h3345 => ?_) (fun h3345 => ?_)
          · skip
            exfalso; omega
          · skip
            refine q_iconst dX12_readCall_68 (by decide) ?_
            intro v3346 h3347
            refine tr_goto 81 dX12_readCall_69 (by decide) ?_
            refine tr_istore_n dX12_readCall_81 (by decide) (by decide) ?_
            refine tr_aload_n dX12_readCall_82 rfl ?_
            refine q_callVv hE (M' := mX12_goesOn) (as := []) dX12_readCall_83 lk12_142 inX12_goesOn seX12_goesOn myX12_goesOn (by decide) ⟨by decide, by decide⟩ rfl (kR15 hS3328.1 ta0) (Nat.le_of_ble_eq_true rfl) rfl rfl (by decide) (by decide) (k_X12_goesOn hS3328.1 ta0) ?_
            rintro cn' K' N' I3348 R3349 L3350 ⟨rfl, rfl, rfl, rfl, g3351, p3353, p3354, p3355, w3356, -⟩
            have hS3357 := hS3328.tr g3351 (by decide +kernel) (by decide +kernel)
            have c3358 : I3348 a1 5 = v49 := (g3351.cell ta1 (by decide +kernel)).trans c3329
            have c3359 : I3348 a0 13 = v3339 := (g3351.cell ta0 (by decide +kernel)).trans c3340
            have c3360 : I3348 a0 14 = v3341 := (g3351.cell ta0 (by decide +kernel)).trans c3342
            obtain ⟨v3361, c3362⟩ : ∃ v, I3348 a0 9 = v := ⟨_, rfl⟩
            have b3363 := iv15_9 hS3357.1 ta0 c3362
            rw [c3337] at p3353
            rw [c3362] at p3353
            rw [c3337] at p3354
            rw [c3362] at p3354
            obtain ⟨v3364, c3365⟩ : ∃ v, I3348 a0 8 = v := ⟨_, rfl⟩
            have b3366 := iv15_8 hS3357.1 ta0 c3365
            rw [c3365] at p3355
            rw [c3330] at p3355
            rw [c3359] at p3355
            rw [c3340] at p3355
            have hO3367 : FrO 14 a1 T I0 I3348 := hO3334.st g3351 (by decide +kernel)
            have ov3368 := w3356.over (by rw [c3337]; omega)
            obtain ⟨v3369, c3370⟩ : ∃ v, I3348 a0 9 = v := ⟨_, rfl⟩
            have b3371 := iv15_9 hS3357.1 ta0 c3370
            obtain ⟨v3372, c3373⟩ : ∃ v, I3348 a0 13 = v := ⟨_, rfl⟩
            obtain ⟨v3374, c3375⟩ : ∃ v, I3348 a0 14 = v := ⟨_, rfl⟩
            (try rw [c3370] at ov3368)
            (try rw [c3373] at ov3368)
            (try rw [c3375] at ov3368)
            (try rw [c3337] at ov3368)
            (try rw [c3340] at ov3368)
            (try rw [c3342] at ov3368)
            refine tr_aload_n dX12_readCall_86 rfl ?_
            refine tr_ldcwS dX12_readCall_87 ld12_352 ?_
            refine q_iconst dX12_readCall_90 (by decide) ?_
            intro v3376 h3377
            refine tr_aload_n dX12_readCall_91 rfl ?_
            refine tr_getR dX12_readCall_92 fl12_188 (kR15 hS3357.1 ta0) d2 ?_
            refine q_getI dX12_readCall_95 fl12_192 (kR14 hS3357.1 ta1) ((hS3357.cell ta1 (by decide +kernel)).trans c30) ?_
            refine q_iconst dX12_readCall_98 (by decide) ?_
            intro v3378 h3379
            refine q_isubE dX12_readCall_99 (by intros; omega) ?_
            intro v3380 h3381
            refine q_callVi hE (M' := mX12_readPart) (as := [_, _, _]) dX12_readCall_100 lk12_249 inX12_readPart seX12_readPart myX12_readPart (by decide) ⟨by decide, by decide⟩ rfl (kR15 hS3357.1 ta0) (Nat.le_of_ble_eq_true rfl) rfl rfl (by decide) (by decide) (k_X12_readPart hS3357.1 ta0 (by decide)) ?_
            rintro v3386 cn' K' N' I3382 R3383 L3384 ⟨rfl, rfl, rfl, rfl, g3385, p3387, w3388, -⟩
            have hS3389 := hS3357.tr g3385 (by decide +kernel) (by decide +kernel)
            have c3390 : I3382 a1 5 = v49 := (g3385.cell ta1 (by decide +kernel)).trans c3358
            have b3391 : 0 ≤ v3386.toInt ∧ v3386.toInt ≤ 0 := by omega
            clear p3387
            have hO3392 : FrO 14 a1 T I0 I3382 := hO3367.st g3385 (by decide +kernel)
            have ov3393 := w3388.over (by rw [c3370]; omega)
            obtain ⟨v3394, c3395⟩ : ∃ v, I3382 a0 9 = v := ⟨_, rfl⟩
            have b3396 := iv15_9 hS3389.1 ta0 c3395
            obtain ⟨v3397, c3398⟩ : ∃ v, I3382 a0 13 = v := ⟨_, rfl⟩
            obtain ⟨v3399, c3400⟩ : ∃ v, I3382 a0 14 = v := ⟨_, rfl⟩
            (try rw [c3395] at ov3393)
            (try rw [c3398] at ov3393)
            (try rw [c3400] at ov3393)
            (try rw [c3370] at ov3393)
            (try rw [c3373] at ov3393)
            (try rw [c3375] at ov3393)
            refine tr_istore_n dX12_readCall_103 (by decide) (by decide) ?_
            refine tr_aload_n dX12_readCall_104 rfl ?_
            refine tr_ldcwS dX12_readCall_105 ld12_354 ?_
            refine q_iconst dX12_readCall_108 (by decide) ?_
            intro v3401 h3402
            refine q_bipush dX12_readCall_109 (by decide +kernel) ?_
            intro v3403 h3404
            refine q_callVi hE (M' := mX12_readPart) (as := [_, _, _]) dX12_readCall_111 lk12_249 inX12_readPart seX12_readPart myX12_readPart (by decide) ⟨by decide, by decide⟩ rfl (kR15 hS3389.1 ta0) (Nat.le_of_ble_eq_true rfl) rfl rfl (by decide) (by decide) (k_X12_readPart hS3389.1 ta0 (by decide)) ?_
            rintro v3409 cn' K' N' I3405 R3406 L3407 ⟨rfl, rfl, rfl, rfl, g3408, p3410, w3411, -⟩
            have hS3412 := hS3389.tr g3408 (by decide +kernel) (by decide +kernel)
            have c3413 : I3405 a1 5 = v49 := (g3408.cell ta1 (by decide +kernel)).trans c3390
            have b3414 : 1 ≤ v3409.toInt ∧ v3409.toInt ≤ 60 := by omega
            clear p3410
            have hO3415 : FrO 14 a1 T I0 I3405 := hO3392.st g3408 (by decide +kernel)
            have ov3416 := w3411.over (by rw [c3395]; omega)
            obtain ⟨v3417, c3418⟩ : ∃ v, I3405 a0 9 = v := ⟨_, rfl⟩
            have b3419 := iv15_9 hS3412.1 ta0 c3418
            obtain ⟨v3420, c3421⟩ : ∃ v, I3405 a0 13 = v := ⟨_, rfl⟩
            obtain ⟨v3422, c3423⟩ : ∃ v, I3405 a0 14 = v := ⟨_, rfl⟩
            (try rw [c3418] at ov3416)
            (try rw [c3421] at ov3416)
            (try rw [c3423] at ov3416)
            (try rw [c3395] at ov3416)
            (try rw [c3398] at ov3416)
            (try rw [c3400] at ov3416)
            refine tr_istore dX12_readCall_114 (by decide) (by decide) ?_
            refine tr_aload_n dX12_readCall_116 rfl ?_
            refine tr_ldcwS dX12_readCall_117 ld12_356 ?_
            refine q_iconst dX12_readCall_120 (by decide) ?_
            intro v3424 h3425
            refine q_bipush dX12_readCall_121 (by decide +kernel) ?_
            intro v3426 h3427
            refine q_callVi hE (M' := mX12_readPart) (as := [_, _, _]) dX12_readCall_123 lk12_249 inX12_readPart seX12_readPart myX12_readPart (by decide) ⟨by decide, by decide⟩ rfl (kR15 hS3412.1 ta0) (Nat.le_of_ble_eq_true rfl) rfl rfl (by decide) (by decide) (k_X12_readPart hS3412.1 ta0 (by decide)) ?_
            rintro v3432 cn' K' N' I3428 R3429 L3430 ⟨rfl, rfl, rfl, rfl, g3431, p3433, w3434, -⟩
            have hS3435 := hS3412.tr g3431 (by decide +kernel) (by decide +kernel)
            have c3436 : I3428 a1 5 = v49 := (g3431.cell ta1 (by decide +kernel)).trans c3413
            have b3437 : 0 ≤ v3432.toInt ∧ v3432.toInt ≤ 99 := by omega
            clear p3433
            have hO3438 : FrO 14 a1 T I0 I3428 := hO3415.st g3431 (by decide +kernel)
            have ov3439 := w3434.over (by rw [c3418]; omega)
            obtain ⟨v3440, c3441⟩ : ∃ v, I3428 a0 9 = v := ⟨_, rfl⟩
            have b3442 := iv15_9 hS3435.1 ta0 c3441
            obtain ⟨v3443, c3444⟩ : ∃ v, I3428 a0 13 = v := ⟨_, rfl⟩
            obtain ⟨v3445, c3446⟩ : ∃ v, I3428 a0 14 = v := ⟨_, rfl⟩
            (try rw [c3441] at ov3439)
            (try rw [c3444] at ov3439)
            (try rw [c3446] at ov3439)
            (try rw [c3418] at ov3439)
            (try rw [c3421] at ov3439)
            (try rw [c3423] at ov3439)
            refine tr_istore dX12_readCall_126 (by decide) (by decide) ?_
            refine tr_aload_n dX12_readCall_128 rfl ?_
            refine q_getI dX12_readCall_129 fl12_99 (kR15 hS3435.1 ta0) c3441 ?_
            refine q_iconst dX12_readCall_132 (by decide) ?_
            intro v3447 h3448
            refine q_icmp_ne 137 dX12_readCall_133 (by decide) (fun h3449 => ?_) (fun h3449 => ?_)
            · skip
              exfalso; omega
            · skip
              have eF := hF.eq
              have eP := hP.eq
              obtain ⟨v3450, c3451⟩ : ∃ v, I3428 a0 10 = v := ⟨_, rfl⟩
              have b3452 := iv15_10 hS3435.1 ta0 c3451
              obtain ⟨v3453, c3454⟩ : ∃ v, I3428 a0 11 = v := ⟨_, rfl⟩
              obtain ⟨y3455, c3456⟩ : ∃ v, L3430 a0 15 = v := ⟨_, rfl⟩
              obtain ⟨v3457, c3458⟩ : ∃ v, I3428 a0 12 = v := ⟨_, rfl⟩
              obtain ⟨v3459, c3460⟩ : ∃ v, I3428 a0 8 = v := ⟨_, rfl⟩
              have b3461 := iv15_8 hS3435.1 ta0 c3460
              exact tr_vret hZ dX12_readCall_136 rfl (by decide) (by decide) ⟨rfl, rfl, rfl, rfl, rfl, hS3435, (fun dr hd => (Option.some.inj (d2.symm.trans hd)) ▸ hO3438), (Or.inr (⟨(by first | done | with_reducible assumption | omega), (by (try rw [c3441]); first | done | with_reducible assumption | omega), (by (try rw [c3444]); first | done | with_reducible assumption | omega), (by (try rw [c3446]); first | done | with_reducible assumption | omega), trivial⟩)), trivial⟩
