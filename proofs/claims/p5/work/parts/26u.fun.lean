def wik_X12_readRising : List Nat := [968, 969, 970, 971, 972, 973, 974, 3839]
def wrk_X12_readRising : List Nat := []
def wlk_X12_readRising : List Nat := [975]
set_option maxHeartbeats 4000000 in
theorem fk_X12_readRising {l : Launch} {T : Nat → Nat} {cn : Nat} {K N : Nat → Nat} {I0 : cz_I} {R0 : cz_R} {L0 : cz_L} (hW0 : Wf T cn K N I0 R0 0) (gB : cz_B) (gs : Int) (gQ : Nat → Int) {a0 : Nat} (ta0 : T a0 = 15) {a1 : Nat} (ta1 : T a1 = 59) {x2 : Int32} (hx2 : 0 ≤ x2.toInt ∧ x2.toInt ≤ 0) {x3 : Int32} (hx3 : 8 ≤ x3.toInt ∧ x3.toInt ≤ 8) (hT : ∀ t, R0 a0 5 = some t → Tx I0 t gB) (pre0 : (I0 a0 9).toInt = (tkM gB gs)) (pre1 : (I0 a0 9).toInt ≤ 4) (pre2 : (I0 a0 10).toInt = (tkS gB gs)) (pre3 : (I0 a0 11).toInt = (tkG gB gs)) (pre4 : (AtW ((tkK gB gs)) ((L0 a0 15).toInt) ((tkW gB gs)))) (pre5 : (AtV ((tkK gB gs)) ((I0 a0 12).toInt) ((tkV gB gs)))) (pre6 : (AtN ((tkK gB gs)) ((I0 a0 8).toInt) ((tkN gB gs)))) (pre7 : (I0 a0 7).toInt = (gB.2)) (pre8 : ∀ b1, R0 a0 4 = some b1 → (I0 b1 0).toInt = (gQ 0)) (pre9 : (gQ 0) ≥ 1) (nn4 : ∃ b, R0 a0 4 = some b) : ConE l mX12_readRising [.ref a0, .ref a1, .int x2, .int x3] cn K N I0 R0 L0 (ca_i (fun v cn' K' N' I' R' L' => cn = cn' ∧ K = K' ∧ N = N' ∧ R0 = R' ∧ St T cn K N 0 wik_X12_readRising wrk_X12_readRising I0 R0 I' R0 ∧ (0 ≤ v.toInt ∧ v.toInt ≤ 8) ∧ ((((riF gB gQ 8 0 gs) = 0) ∧ ((I' a0 13).toInt = (I0 a0 13).toInt) ∧ ((I' a0 9).toInt = (tkM gB (riS gB gQ 8 0 gs))) ∧ ((I' a0 9).toInt ≤ 4) ∧ ((I' a0 10).toInt = (tkS gB (riS gB gQ 8 0 gs))) ∧ ((I' a0 11).toInt = (tkG gB (riS gB gQ 8 0 gs))) ∧ ((AtW ((tkK gB (riS gB gQ 8 0 gs))) ((L' a0 15).toInt) ((tkW gB (riS gB gQ 8 0 gs))))) ∧ ((AtV ((tkK gB (riS gB gQ 8 0 gs))) ((I' a0 12).toInt) ((tkV gB (riS gB gQ 8 0 gs))))) ∧ ((AtN ((tkK gB (riS gB gQ 8 0 gs))) ((I' a0 8).toInt) ((tkN gB (riS gB gQ 8 0 gs))))) ∧ LgS T wlk_X12_readRising L0 L' ∧ True) ∨ (((riF gB gQ 8 0 gs) ≠ 0) ∧ ((I' a0 9).toInt = 5) ∧ ((I' a0 13).toInt = (riF gB gQ 8 0 gs)) ∧ ((I' a0 14).toInt = (riP gB gQ 8 0 gs)) ∧ True)) ∧ True)) := by
  refine ConE.of (by decide +kernel) rfl (Nat.le_of_ble_eq_true rfl) rfl (fun X hX hZ hE => ?_)
  subst hX
  have hS0 : St T cn K N 0 wik_X12_readRising wrk_X12_readRising I0 R0 I0 R0 := St.rf0 hW0
  have hL0 : LgS T wlk_X12_readRising L0 L0 := LgS.rf0
  obtain ⟨a11, d12⟩ := nn4
  have ta11 : T a11 = 14 := hW0.rsN ta0 rfl d12
  obtain ⟨v13, c14⟩ : ∃ v, I0 a0 9 = v := ⟨_, rfl⟩
  have b15 := iv15_9 hS0.1 ta0 c14
  have p16 := pre0
  rw [c14] at p16
  have p17 := pre1
  rw [c14] at p17
  obtain ⟨v18, c19⟩ : ∃ v, I0 a0 10 = v := ⟨_, rfl⟩
  have b20 := iv15_10 hS0.1 ta0 c19
  have p21 := pre2
  rw [c19] at p21
  obtain ⟨v22, c23⟩ : ∃ v, I0 a0 11 = v := ⟨_, rfl⟩
  have p24 := pre3
  rw [c23] at p24
  obtain ⟨y25, c26⟩ : ∃ v, L0 a0 15 = v := ⟨_, rfl⟩
  have p27 := pre4
  rw [c26] at p27
  obtain ⟨v28, c29⟩ : ∃ v, I0 a0 12 = v := ⟨_, rfl⟩
  have p30 := pre5
  rw [c29] at p30
  obtain ⟨v31, c32⟩ : ∃ v, I0 a0 8 = v := ⟨_, rfl⟩
  have b33 := iv15_8 hS0.1 ta0 c32
  have p34 := pre6
  rw [c32] at p34
  obtain ⟨v35, c36⟩ : ∃ v, I0 a0 7 = v := ⟨_, rfl⟩
  have b37 := iv15_7 hW0 ta0 c36
  have p38 := pre7
  rw [c36] at p38
  obtain ⟨v39, c40⟩ : ∃ v, I0 a11 0 = v := ⟨_, rfl⟩
  have b41 := iv14_0 hW0 ta11 c40
  have p42 := pre8 _ d12
  rw [c40] at p42
  have p43 := pre9
  obtain ⟨v44, c45⟩ : ∃ v, I0 a0 13 = v := ⟨_, rfl⟩
  refine q_iconst dX12_readRising_0 (by decide) ?_
  intro v46 h47
  refine tr_istore dX12_readRising_1 (by decide) (by decide) ?_
  refine q_iconst dX12_readRising_3 (by decide) ?_
  intro v48 h49
  refine tr_istore dX12_readRising_4 (by decide) (by decide) ?_
  refine q_iconst dX12_readRising_6 (by decide) ?_
  intro v50 h51
  refine tr_istore dX12_readRising_7 (by decide) (by decide) ?_
  have lp99 : ∀ (fu : Nat) (ls : Nat → Option Value) (v52 : Int32) (v53 : Int32) (v54 : Int32) (I62 : cz_I) (L63 : cz_L) (gs64 : Int) (gr65 : Nat) (v68 : Int32) (v70 : Int32) (v72 : Int32) (v74 : Int32) (y76 : Int64) (v78 : Int32) (v80 : Int32), ls 0 = some (.ref a0) → ls 1 = some (.ref a1) → ls 2 = some (.int x2) → ls 3 = some (.int x3) → ls 4 = some (.int v52) → ls 5 = some (.int v53) → ls 6 = some (.int v54) → St T cn K N 0 wik_X12_readRising wrk_X12_readRising I0 R0 I62 R0 → LgS T wlk_X12_readRising L0 L63 → I62 a0 13 = v68 → I62 a0 9 = v70 → I62 a0 10 = v72 → I62 a0 11 = v74 → L63 a0 15 = y76 → I62 a0 12 = v78 → I62 a0 8 = v80 → (riF gB gQ gr65 v53.toInt gs64) = (riF gB gQ 8 0 gs) → (riP gB gQ gr65 v53.toInt gs64) = (riP gB gQ 8 0 gs) → (riS gB gQ gr65 v53.toInt gs64) = (riS gB gQ 8 0 gs) → v54.toInt = 1 → 0 ≤ v53.toInt → v53.toInt ≤ 240 → 0 ≤ v52.toInt → v52.toInt ≤ 8 → ((gr65 : Int)) = -v52.toInt + 8 → v68.toInt = v44.toInt → v70.toInt = (tkM gB gs64) → v70.toInt ≤ 4 → v72.toInt = (tkS gB gs64) → v74.toInt = (tkG gB gs64) → (AtW ((tkK gB gs64)) (y76.toInt) ((tkW gB gs64))) → (AtV ((tkK gB gs64)) (v78.toInt) ((tkV gB gs64))) → (AtN ((tkK gB gs64)) (v80.toInt) ((tkN gB gs64))) → (-v52.toInt + 9).toNat < fu → Tr X mX12_readRising 9 ls [] cn K N I62 R0 L63 0 0 := by
    intro fu
    induction fu with
    | zero => intros; rename_i hz; exact absurd hz (Nat.not_lt_zero _)
    | succ fu ih99 =>
      intro ls v52 v53 v54 I62 L63 gs64 gr65 v68 v70 v72 v74 y76 v78 v80 hl55 hl56 hl57 hl58 hl59 hl60 hl61 hS66 hL67 c69 c71 c73 c75 c77 c79 c81 g82 g83 g84 g85 g86 g87 g88 g89 g90 g91 g92 g93 g94 g95 g96 g97 g98 hm99
      have b101 := iv15_9 hS66.1 ta0 c71
      have b102 := iv15_10 hS66.1 ta0 c73
      have b103 := iv15_8 hS66.1 ta0 c81
      rcases Nat.eq_zero_or_pos gr65 with hz104 | hz104
      · skip
        subst hz104
        refine tr_iload dX12_readRising_9 hl61 ?_
        refine q_if_eq 92 dX12_readRising_11 (by decide) (fun h106 => ?_) (fun h106 => ?_)
        · skip
          exfalso; omega
        · skip
          refine tr_aload_n dX12_readRising_14 hl55 ?_
          refine q_getI dX12_readRising_15 fl12_99 (kR15 hS66.1 ta0) c71 ?_
          refine q_iconst dX12_readRising_18 (by decide) ?_
          intro v107 h108
          refine q_icmp_eq 92 dX12_readRising_19 (by decide) (fun h109 => ?_) (fun h109 => ?_)
          · skip
            exfalso; omega
          · skip
            refine tr_aload_n dX12_readRising_22 hl55 ?_
            refine tr_iload dX12_readRising_23 hl60 ?_
            refine tr_aload_n dX12_readRising_25 hl55 ?_
            refine tr_getR dX12_readRising_26 fl12_188 (kR15 hS66.1 ta0) d12 ?_
            refine q_getI dX12_readRising_29 fl12_192 (kR14 hS66.1 ta11) ((hS66.cell ta11 (by decide +kernel)).trans c40) ?_
            refine q_iconst dX12_readRising_32 (by decide) ?_
            intro v110 h111
            refine q_isubE dX12_readRising_33 (by intros; omega) ?_
            intro v112 h113
            refine q_callVi hE (M' := mX12_bounded) (as := [_, _]) dX12_readRising_34 lk12_153 inX12_bounded seX12_bounded myX12_bounded (by decide) ⟨by decide, by decide⟩ rfl (kR15 hS66.1 ta0) (Nat.le_of_ble_eq_true rfl) rfl rfl (by decide) (by decide) (fk_X12_bounded hS66.1 (gB) (gs64) ta0 (by (try rw [c71]); first | done | omega) (by (try rw [c71]); first | done | omega) (by (try rw [c73]); first | done | omega) (by (try rw [c75]); first | done | omega) (by (try rw [c77]); first | done | assumption) (by (try rw [c79]); first | done | assumption) (by (try rw [c81]); first | done | assumption)) ?_
            rintro v119 cn' K' N' I114 R115 L116 ⟨rfl, rfl, rfl, rfl, rfl, g117, dj120, -⟩
            have hS121 := hS66.tr g117 (by decide +kernel) (by decide +kernel)
            have c122 : I114 a0 10 = v72 := (g117.cell ta0 (by decide +kernel)).trans c73
            have c123 : I114 a0 11 = v74 := (g117.cell ta0 (by decide +kernel)).trans c75
            have c124 : I114 a0 12 = v78 := (g117.cell ta0 (by decide +kernel)).trans c79
            have c125 : I114 a0 8 = v80 := (g117.cell ta0 (by decide +kernel)).trans c81
            rcases dj120 with ⟨p126, p127, p128, p129, p130, p131, p132, p133, p134, p135, p136, p137, -⟩ | ⟨p138, p139, p140, p141, p142, -⟩ | ⟨p143, p144, p145, p146, p147, p148, -⟩
            · skip
              obtain ⟨v149, c150⟩ : ∃ v, I114 a0 13 = v := ⟨_, rfl⟩
              rw [c150] at p130
              rw [c69] at p130
              obtain ⟨v151, c152⟩ : ∃ v, I114 a0 9 = v := ⟨_, rfl⟩
              have b153 := iv15_9 hS121.1 ta0 c152
              rw [c152] at p131
              rw [c152] at p132
              rw [c122] at p133
              rw [c123] at p134
              rw [c77] at p135
              rw [c124] at p136
              rw [c125] at p137
              refine tr_istore dX12_readRising_37 (by decide) (by decide) ?_
              refine tr_iload dX12_readRising_39 hl59 ?_
              refine tr_iload_n dX12_readRising_41 hl58 ?_
              refine q_icmp_ne 50 dX12_readRising_42 (by decide) (fun h154 => ?_) (fun h154 => ?_)
              · skip
                exfalso; omega
              · skip
                refine tr_aload_n dX12_readRising_45 hl55 ?_
                refine q_iconst dX12_readRising_46 (by decide) ?_
                intro v155 h156
                refine q_callVv hE (M' := mX12_flaw) (as := [_]) dX12_readRising_47 lk12_145 inX12_flaw seX12_flaw myX12_flaw (by decide) ⟨by decide, by decide⟩ rfl (kR15 hS121.1 ta0) (Nat.le_of_ble_eq_true rfl) rfl rfl (by decide) (by decide) (fk_X12_flaw hS121.1  ta0 (by omega) (by (try rw [c152]); first | done | omega)) ?_
                rintro cn' K' N' I157 R158 L159 ⟨rfl, rfl, rfl, rfl, rfl, g160, p163, p164, p165, -⟩
                have hS166 := hS121.tr g160 (by decide +kernel) (by decide +kernel)
                have c167 : I157 a0 10 = v72 := (g160.cell ta0 (by decide +kernel)).trans c122
                have c168 : I157 a0 11 = v74 := (g160.cell ta0 (by decide +kernel)).trans c123
                have c169 : I157 a0 12 = v78 := (g160.cell ta0 (by decide +kernel)).trans c124
                have c170 : I157 a0 8 = v80 := (g160.cell ta0 (by decide +kernel)).trans c125
                obtain ⟨v171, c172⟩ : ∃ v, I157 a0 9 = v := ⟨_, rfl⟩
                have b173 := iv15_9 hS166.1 ta0 c172
                rw [c172] at p163
                obtain ⟨v174, c175⟩ : ∃ v, I157 a0 13 = v := ⟨_, rfl⟩
                rw [c175] at p164
                obtain ⟨v176, c177⟩ : ∃ v, I157 a0 14 = v := ⟨_, rfl⟩
                rw [c177] at p165
                rw [c122] at p165
                refine tr_aload_n dX12_readRising_50 hl55 ?_
                refine q_callVv hE (M' := mX12_goesOn) (as := []) dX12_readRising_51 lk12_142 inX12_goesOn seX12_goesOn myX12_goesOn (by decide) ⟨by decide, by decide⟩ rfl (kR15 hS166.1 ta0) (Nat.le_of_ble_eq_true rfl) rfl rfl (by decide) (by decide) (k_X12_goesOn hS166.1 ta0) ?_
                rintro cn' K' N' I178 R179 L180 ⟨rfl, rfl, rfl, rfl, g181, p183, p184, p185, w186, -⟩
                have hS187 := hS166.tr g181 (by decide +kernel) (by decide +kernel)
                have c188 : I178 a0 13 = v174 := (g181.cell ta0 (by decide +kernel)).trans c175
                have c189 : I178 a0 14 = v176 := (g181.cell ta0 (by decide +kernel)).trans c177
                obtain ⟨v190, c191⟩ : ∃ v, I178 a0 9 = v := ⟨_, rfl⟩
                have b192 := iv15_9 hS187.1 ta0 c191
                rw [c172] at p183
                rw [c191] at p183
                rw [c172] at p184
                rw [c191] at p184
                obtain ⟨v193, c194⟩ : ∃ v, I178 a0 8 = v := ⟨_, rfl⟩
                have b195 := iv15_8 hS187.1 ta0 c194
                rw [c194] at p185
                rw [c170] at p185
                rw [c188] at p185
                rw [c175] at p185
                have ov196 := w186.over (by rw [c172]; omega)
                obtain ⟨v197, c198⟩ : ∃ v, I178 a0 9 = v := ⟨_, rfl⟩
                have b199 := iv15_9 hS187.1 ta0 c198
                obtain ⟨v200, c201⟩ : ∃ v, I178 a0 13 = v := ⟨_, rfl⟩
                obtain ⟨v202, c203⟩ : ∃ v, I178 a0 14 = v := ⟨_, rfl⟩
                (try rw [c198] at ov196)
                (try rw [c201] at ov196)
                (try rw [c203] at ov196)
                (try rw [c172] at ov196)
                (try rw [c175] at ov196)
                (try rw [c177] at ov196)
                refine tr_aload_n dX12_readRising_54 hl55 ?_
                refine q_getI dX12_readRising_55 fl12_99 (kR15 hS187.1 ta0) c198 ?_
                refine q_iconst dX12_readRising_58 (by decide) ?_
                intro v204 h205
                refine q_icmp_ne 64 dX12_readRising_59 (by decide) (fun h206 => ?_) (fun h206 => ?_)
                · skip
                  exfalso; omega
                · skip
                  refine q_iconst dX12_readRising_62 (by decide) ?_
                  intro v207 h208
                  obtain ⟨v209, c210⟩ : ∃ v, I178 a0 10 = v := ⟨_, rfl⟩
                  have b211 := iv15_10 hS187.1 ta0 c210
                  obtain ⟨v212, c213⟩ : ∃ v, I178 a0 11 = v := ⟨_, rfl⟩
                  obtain ⟨y214, c215⟩ : ∃ v, L180 a0 15 = v := ⟨_, rfl⟩
                  obtain ⟨v216, c217⟩ : ∃ v, I178 a0 12 = v := ⟨_, rfl⟩
                  exact tr_iret hZ dX12_readRising_63 rfl (by decide) (by decide) ⟨v207, rfl, rfl, rfl, rfl, rfl, hS187, (by omega), (Or.inr (⟨(by rw [← g82]; simp only [riF, ↓reduceIte]; repeat' (first | split | omega)), (by (try rw [c198]); first | done | omega), (by (try rw [c201]); rw [← g82]; simp only [riF, ↓reduceIte]; repeat' (first | split | omega)), (by (try rw [c203]); rw [← g83]; simp only [riP, ↓reduceIte]; repeat' (first | split | omega)), trivial⟩)), trivial⟩
            · skip
              obtain ⟨v218, c219⟩ : ∃ v, I114 a0 9 = v := ⟨_, rfl⟩
              have b220 := iv15_9 hS121.1 ta0 c219
              rw [c219] at p140
              obtain ⟨v221, c222⟩ : ∃ v, I114 a0 13 = v := ⟨_, rfl⟩
              rw [c222] at p141
              obtain ⟨v223, c224⟩ : ∃ v, I114 a0 14 = v := ⟨_, rfl⟩
              rw [c224] at p142
              refine tr_istore dX12_readRising_37 (by decide) (by decide) ?_
              refine tr_iload dX12_readRising_39 hl59 ?_
              refine tr_iload_n dX12_readRising_41 hl58 ?_
              refine q_icmp_ne 50 dX12_readRising_42 (by decide) (fun h225 => ?_) (fun h225 => ?_)
              · skip
                exfalso; omega
              · skip
                refine tr_aload_n dX12_readRising_45 hl55 ?_
                refine q_iconst dX12_readRising_46 (by decide) ?_
                intro v226 h227
                refine q_callVv hE (M' := mX12_flaw) (as := [_]) dX12_readRising_47 lk12_145 inX12_flaw seX12_flaw myX12_flaw (by decide) ⟨by decide, by decide⟩ rfl (kR15 hS121.1 ta0) (Nat.le_of_ble_eq_true rfl) rfl rfl (by decide) (by decide) (k_X12_flaw hS121.1 ta0 (by omega)) ?_
                rintro cn' K' N' I228 R229 L230 ⟨rfl, rfl, rfl, rfl, rfl, g231, p233, p234, w235, -⟩
                have hS236 := hS121.tr g231 (by decide +kernel) (by decide +kernel)
                have c237 : I228 a0 10 = v72 := (g231.cell ta0 (by decide +kernel)).trans c122
                have c238 : I228 a0 11 = v74 := (g231.cell ta0 (by decide +kernel)).trans c123
                have c239 : I228 a0 12 = v78 := (g231.cell ta0 (by decide +kernel)).trans c124
                have c240 : I228 a0 8 = v80 := (g231.cell ta0 (by decide +kernel)).trans c125
                obtain ⟨v241, c242⟩ : ∃ v, I228 a0 9 = v := ⟨_, rfl⟩
                have b243 := iv15_9 hS236.1 ta0 c242
                rw [c242] at p233
                rw [c240] at p234
                rw [c125] at p234
                have ov244 := w235.over (by rw [c219]; omega)
                obtain ⟨v245, c246⟩ : ∃ v, I228 a0 9 = v := ⟨_, rfl⟩
                have b247 := iv15_9 hS236.1 ta0 c246
                obtain ⟨v248, c249⟩ : ∃ v, I228 a0 13 = v := ⟨_, rfl⟩
                obtain ⟨v250, c251⟩ : ∃ v, I228 a0 14 = v := ⟨_, rfl⟩
                (try rw [c246] at ov244)
                (try rw [c249] at ov244)
                (try rw [c251] at ov244)
                (try rw [c219] at ov244)
                (try rw [c222] at ov244)
                (try rw [c224] at ov244)
                refine tr_aload_n dX12_readRising_50 hl55 ?_
                refine q_callVv hE (M' := mX12_goesOn) (as := []) dX12_readRising_51 lk12_142 inX12_goesOn seX12_goesOn myX12_goesOn (by decide) ⟨by decide, by decide⟩ rfl (kR15 hS236.1 ta0) (Nat.le_of_ble_eq_true rfl) rfl rfl (by decide) (by decide) (k_X12_goesOn hS236.1 ta0) ?_
                rintro cn' K' N' I252 R253 L254 ⟨rfl, rfl, rfl, rfl, g255, p257, p258, p259, w260, -⟩
                have hS261 := hS236.tr g255 (by decide +kernel) (by decide +kernel)
                have c262 : I252 a0 13 = v248 := (g255.cell ta0 (by decide +kernel)).trans c249
                have c263 : I252 a0 14 = v250 := (g255.cell ta0 (by decide +kernel)).trans c251
                obtain ⟨v264, c265⟩ : ∃ v, I252 a0 9 = v := ⟨_, rfl⟩
                have b266 := iv15_9 hS261.1 ta0 c265
                rw [c246] at p257
                rw [c265] at p257
                rw [c246] at p258
                rw [c265] at p258
                obtain ⟨v267, c268⟩ : ∃ v, I252 a0 8 = v := ⟨_, rfl⟩
                have b269 := iv15_8 hS261.1 ta0 c268
                rw [c268] at p259
                rw [c240] at p259
                rw [c262] at p259
                rw [c249] at p259
                have ov270 := w260.over (by rw [c246]; omega)
                obtain ⟨v271, c272⟩ : ∃ v, I252 a0 9 = v := ⟨_, rfl⟩
                have b273 := iv15_9 hS261.1 ta0 c272
                obtain ⟨v274, c275⟩ : ∃ v, I252 a0 13 = v := ⟨_, rfl⟩
                obtain ⟨v276, c277⟩ : ∃ v, I252 a0 14 = v := ⟨_, rfl⟩
                (try rw [c272] at ov270)
                (try rw [c275] at ov270)
                (try rw [c277] at ov270)
                (try rw [c246] at ov270)
                (try rw [c249] at ov270)
                (try rw [c251] at ov270)
                refine tr_aload_n dX12_readRising_54 hl55 ?_
                refine q_getI dX12_readRising_55 fl12_99 (kR15 hS261.1 ta0) c272 ?_
                refine q_iconst dX12_readRising_58 (by decide) ?_
                intro v278 h279
                refine q_icmp_ne 64 dX12_readRising_59 (by decide) (fun h280 => ?_) (fun h280 => ?_)
                · skip
                  exfalso; omega
                · skip
                  refine q_iconst dX12_readRising_62 (by decide) ?_
                  intro v281 h282
                  obtain ⟨v283, c284⟩ : ∃ v, I252 a0 10 = v := ⟨_, rfl⟩
                  have b285 := iv15_10 hS261.1 ta0 c284
                  obtain ⟨v286, c287⟩ : ∃ v, I252 a0 11 = v := ⟨_, rfl⟩
                  obtain ⟨y288, c289⟩ : ∃ v, L254 a0 15 = v := ⟨_, rfl⟩
                  obtain ⟨v290, c291⟩ : ∃ v, I252 a0 12 = v := ⟨_, rfl⟩
                  exact tr_iret hZ dX12_readRising_63 rfl (by decide) (by decide) ⟨v281, rfl, rfl, rfl, rfl, rfl, hS261, (by omega), (Or.inr (⟨(by rw [← g82]; simp only [riF, ↓reduceIte]; repeat' (first | split | omega)), (by (try rw [c272]); first | done | omega), (by (try rw [c275]); rw [← g82]; simp only [riF, ↓reduceIte]; repeat' (first | split | omega)), (by (try rw [c277]); rw [← g83]; simp only [riP, ↓reduceIte]; repeat' (first | split | omega)), trivial⟩)), trivial⟩
            · skip
              obtain ⟨v292, c293⟩ : ∃ v, I114 a0 9 = v := ⟨_, rfl⟩
              have b294 := iv15_9 hS121.1 ta0 c293
              rw [c293] at p146
              obtain ⟨v295, c296⟩ : ∃ v, I114 a0 13 = v := ⟨_, rfl⟩
              rw [c296] at p147
              obtain ⟨v297, c298⟩ : ∃ v, I114 a0 14 = v := ⟨_, rfl⟩
              rw [c298] at p148
              refine tr_istore dX12_readRising_37 (by decide) (by decide) ?_
              refine tr_iload dX12_readRising_39 hl59 ?_
              refine tr_iload_n dX12_readRising_41 hl58 ?_
              refine q_icmp_ne 50 dX12_readRising_42 (by decide) (fun h299 => ?_) (fun h299 => ?_)
              · skip
                exfalso; omega
              · skip
                refine tr_aload_n dX12_readRising_45 hl55 ?_
                refine q_iconst dX12_readRising_46 (by decide) ?_
                intro v300 h301
                refine q_callVv hE (M' := mX12_flaw) (as := [_]) dX12_readRising_47 lk12_145 inX12_flaw seX12_flaw myX12_flaw (by decide) ⟨by decide, by decide⟩ rfl (kR15 hS121.1 ta0) (Nat.le_of_ble_eq_true rfl) rfl rfl (by decide) (by decide) (k_X12_flaw hS121.1 ta0 (by omega)) ?_
                rintro cn' K' N' I302 R303 L304 ⟨rfl, rfl, rfl, rfl, rfl, g305, p307, p308, w309, -⟩
                have hS310 := hS121.tr g305 (by decide +kernel) (by decide +kernel)
                have c311 : I302 a0 10 = v72 := (g305.cell ta0 (by decide +kernel)).trans c122
                have c312 : I302 a0 11 = v74 := (g305.cell ta0 (by decide +kernel)).trans c123
                have c313 : I302 a0 12 = v78 := (g305.cell ta0 (by decide +kernel)).trans c124
                have c314 : I302 a0 8 = v80 := (g305.cell ta0 (by decide +kernel)).trans c125
                obtain ⟨v315, c316⟩ : ∃ v, I302 a0 9 = v := ⟨_, rfl⟩
                have b317 := iv15_9 hS310.1 ta0 c316
                rw [c316] at p307
                rw [c314] at p308
                rw [c125] at p308
                have ov318 := w309.over (by rw [c293]; omega)
                obtain ⟨v319, c320⟩ : ∃ v, I302 a0 9 = v := ⟨_, rfl⟩
                have b321 := iv15_9 hS310.1 ta0 c320
                obtain ⟨v322, c323⟩ : ∃ v, I302 a0 13 = v := ⟨_, rfl⟩
                obtain ⟨v324, c325⟩ : ∃ v, I302 a0 14 = v := ⟨_, rfl⟩
                (try rw [c320] at ov318)
                (try rw [c323] at ov318)
                (try rw [c325] at ov318)
                (try rw [c293] at ov318)
                (try rw [c296] at ov318)
                (try rw [c298] at ov318)
                refine tr_aload_n dX12_readRising_50 hl55 ?_
                refine q_callVv hE (M' := mX12_goesOn) (as := []) dX12_readRising_51 lk12_142 inX12_goesOn seX12_goesOn myX12_goesOn (by decide) ⟨by decide, by decide⟩ rfl (kR15 hS310.1 ta0) (Nat.le_of_ble_eq_true rfl) rfl rfl (by decide) (by decide) (k_X12_goesOn hS310.1 ta0) ?_
                rintro cn' K' N' I326 R327 L328 ⟨rfl, rfl, rfl, rfl, g329, p331, p332, p333, w334, -⟩
                have hS335 := hS310.tr g329 (by decide +kernel) (by decide +kernel)
                have c336 : I326 a0 13 = v322 := (g329.cell ta0 (by decide +kernel)).trans c323
                have c337 : I326 a0 14 = v324 := (g329.cell ta0 (by decide +kernel)).trans c325
                obtain ⟨v338, c339⟩ : ∃ v, I326 a0 9 = v := ⟨_, rfl⟩
                have b340 := iv15_9 hS335.1 ta0 c339
                rw [c320] at p331
                rw [c339] at p331
                rw [c320] at p332
                rw [c339] at p332
                obtain ⟨v341, c342⟩ : ∃ v, I326 a0 8 = v := ⟨_, rfl⟩
                have b343 := iv15_8 hS335.1 ta0 c342
                rw [c342] at p333
                rw [c314] at p333
                rw [c336] at p333
                rw [c323] at p333
                have ov344 := w334.over (by rw [c320]; omega)
                obtain ⟨v345, c346⟩ : ∃ v, I326 a0 9 = v := ⟨_, rfl⟩
                have b347 := iv15_9 hS335.1 ta0 c346
                obtain ⟨v348, c349⟩ : ∃ v, I326 a0 13 = v := ⟨_, rfl⟩
                obtain ⟨v350, c351⟩ : ∃ v, I326 a0 14 = v := ⟨_, rfl⟩
                (try rw [c346] at ov344)
                (try rw [c349] at ov344)
                (try rw [c351] at ov344)
                (try rw [c320] at ov344)
                (try rw [c323] at ov344)
                (try rw [c325] at ov344)
                refine tr_aload_n dX12_readRising_54 hl55 ?_
                refine q_getI dX12_readRising_55 fl12_99 (kR15 hS335.1 ta0) c346 ?_
                refine q_iconst dX12_readRising_58 (by decide) ?_
                intro v352 h353
                refine q_icmp_ne 64 dX12_readRising_59 (by decide) (fun h354 => ?_) (fun h354 => ?_)
                · skip
                  exfalso; omega
                · skip
                  refine q_iconst dX12_readRising_62 (by decide) ?_
                  intro v355 h356
                  obtain ⟨v357, c358⟩ : ∃ v, I326 a0 10 = v := ⟨_, rfl⟩
                  have b359 := iv15_10 hS335.1 ta0 c358
                  obtain ⟨v360, c361⟩ : ∃ v, I326 a0 11 = v := ⟨_, rfl⟩
                  obtain ⟨y362, c363⟩ : ∃ v, L328 a0 15 = v := ⟨_, rfl⟩
                  obtain ⟨v364, c365⟩ : ∃ v, I326 a0 12 = v := ⟨_, rfl⟩
                  exact tr_iret hZ dX12_readRising_63 rfl (by decide) (by decide) ⟨v355, rfl, rfl, rfl, rfl, rfl, hS335, (by omega), (Or.inr (⟨(by rw [← g82]; simp only [riF, ↓reduceIte]; repeat' (first | split | omega)), (by (try rw [c346]); first | done | omega), (by (try rw [c349]); rw [← g82]; simp only [riF, ↓reduceIte]; repeat' (first | split | omega)), (by (try rw [c351]); rw [← g83]; simp only [riP, ↓reduceIte]; repeat' (first | split | omega)), trivial⟩)), trivial⟩
      · skip
        obtain ⟨gk105, rfl⟩ : ∃ k, gr65 = k + 1 := ⟨gr65 - 1, by omega⟩
        refine tr_iload dX12_readRising_9 hl61 ?_
        refine q_if_eq 92 dX12_readRising_11 (by decide) (fun h366 => ?_) (fun h366 => ?_)
        · skip
          exfalso; omega
        · skip
          refine tr_aload_n dX12_readRising_14 hl55 ?_
          refine q_getI dX12_readRising_15 fl12_99 (kR15 hS66.1 ta0) c71 ?_
          refine q_iconst dX12_readRising_18 (by decide) ?_
          intro v367 h368
          refine q_icmp_eq 92 dX12_readRising_19 (by decide) (fun h369 => ?_) (fun h369 => ?_)
          · skip
            exfalso; omega
          · skip
            refine tr_aload_n dX12_readRising_22 hl55 ?_
            refine tr_iload dX12_readRising_23 hl60 ?_
            refine tr_aload_n dX12_readRising_25 hl55 ?_
            refine tr_getR dX12_readRising_26 fl12_188 (kR15 hS66.1 ta0) d12 ?_
            refine q_getI dX12_readRising_29 fl12_192 (kR14 hS66.1 ta11) ((hS66.cell ta11 (by decide +kernel)).trans c40) ?_
            refine q_iconst dX12_readRising_32 (by decide) ?_
            intro v370 h371
            refine q_isubE dX12_readRising_33 (by intros; omega) ?_
            intro v372 h373
            refine q_callVi hE (M' := mX12_bounded) (as := [_, _]) dX12_readRising_34 lk12_153 inX12_bounded seX12_bounded myX12_bounded (by decide) ⟨by decide, by decide⟩ rfl (kR15 hS66.1 ta0) (Nat.le_of_ble_eq_true rfl) rfl rfl (by decide) (by decide) (fk_X12_bounded hS66.1 (gB) (gs64) ta0 (by (try rw [c71]); first | done | omega) (by (try rw [c71]); first | done | omega) (by (try rw [c73]); first | done | omega) (by (try rw [c75]); first | done | omega) (by (try rw [c77]); first | done | assumption) (by (try rw [c79]); first | done | assumption) (by (try rw [c81]); first | done | assumption)) ?_
            rintro v379 cn' K' N' I374 R375 L376 ⟨rfl, rfl, rfl, rfl, rfl, g377, dj380, -⟩
            have hS381 := hS66.tr g377 (by decide +kernel) (by decide +kernel)
            have c382 : I374 a0 10 = v72 := (g377.cell ta0 (by decide +kernel)).trans c73
            have c383 : I374 a0 11 = v74 := (g377.cell ta0 (by decide +kernel)).trans c75
            have c384 : I374 a0 12 = v78 := (g377.cell ta0 (by decide +kernel)).trans c79
            have c385 : I374 a0 8 = v80 := (g377.cell ta0 (by decide +kernel)).trans c81
            rcases dj380 with ⟨p386, p387, p388, p389, p390, p391, p392, p393, p394, p395, p396, p397, -⟩ | ⟨p398, p399, p400, p401, p402, -⟩ | ⟨p403, p404, p405, p406, p407, p408, -⟩
            · skip
              obtain ⟨v409, c410⟩ : ∃ v, I374 a0 13 = v := ⟨_, rfl⟩
              rw [c410] at p390
              rw [c69] at p390
              obtain ⟨v411, c412⟩ : ∃ v, I374 a0 9 = v := ⟨_, rfl⟩
              have b413 := iv15_9 hS381.1 ta0 c412
              rw [c412] at p391
              rw [c412] at p392
              rw [c382] at p393
              rw [c383] at p394
              rw [c77] at p395
              rw [c384] at p396
              rw [c385] at p397
              refine tr_istore dX12_readRising_37 (by decide) (by decide) ?_
              refine tr_iload dX12_readRising_39 hl59 ?_
              refine tr_iload_n dX12_readRising_41 hl58 ?_
              refine q_icmp_ne 50 dX12_readRising_42 (by decide) (fun h414 => ?_) (fun h414 => ?_)
              · skip
                refine tr_aload_n dX12_readRising_50 hl55 ?_
                have p415 := p397 (by omega)
                refine q_callVv hE (M' := mX12_goesOn) (as := []) dX12_readRising_51 lk12_142 inX12_goesOn seX12_goesOn myX12_goesOn (by decide) ⟨by decide, by decide⟩ rfl (kR15 hS381.1 ta0) (Nat.le_of_ble_eq_true rfl) rfl rfl (by decide) (by decide) (fk_X12_goesOn hS381.1 (gB) ((tkN gB gs64)) ta0 (TxA.kp hT hS381 ta0 rfl rfl rfl (by decide +kernel) (by decide +kernel)) (by (try rw [c385]); first | done | omega) (by (try rw [((hS381.cell ta0 (by decide +kernel)).trans c36)]); first | done | omega) (by (try rw [c412]); first | done | omega)) ?_
                rintro cn' K' N' I416 R417 L418 ⟨rfl, rfl, rfl, rfl, g419, gl420, p422, p423, p424, p425, p426, p427, p428, -⟩
                have hS429 := hS381.tr g419 (by decide +kernel) (by decide +kernel)
                have c430 : I416 a0 13 = v409 := (g419.cell ta0 (by decide +kernel)).trans c410
                have hL431 := hL67.tr gl420 (by decide +kernel)
                obtain ⟨v432, c433⟩ : ∃ v, I416 a0 9 = v := ⟨_, rfl⟩
                have b434 := iv15_9 hS429.1 ta0 c433
                rw [c433] at p422
                rw [c433] at p423
                obtain ⟨v435, c436⟩ : ∃ v, I416 a0 10 = v := ⟨_, rfl⟩
                have b437 := iv15_10 hS429.1 ta0 c436
                rw [c436] at p424
                obtain ⟨v438, c439⟩ : ∃ v, I416 a0 11 = v := ⟨_, rfl⟩
                rw [c439] at p425
                obtain ⟨y440, c441⟩ : ∃ v, L418 a0 15 = v := ⟨_, rfl⟩
                rw [c441] at p426
                obtain ⟨v442, c443⟩ : ∃ v, I416 a0 12 = v := ⟨_, rfl⟩
                rw [c443] at p427
                obtain ⟨v444, c445⟩ : ∃ v, I416 a0 8 = v := ⟨_, rfl⟩
                have b446 := iv15_8 hS429.1 ta0 c445
                rw [c445] at p428
                refine tr_aload_n dX12_readRising_54 hl55 ?_
                refine q_getI dX12_readRising_55 fl12_99 (kR15 hS429.1 ta0) c433 ?_
                refine q_iconst dX12_readRising_58 (by decide) ?_
                intro v447 h448
                refine q_icmp_ne 64 dX12_readRising_59 (by decide) (fun h449 => ?_) (fun h449 => ?_)
                · skip
                  refine tr_aload_n dX12_readRising_64 hl56 ?_
                  refine tr_iload_n dX12_readRising_65 hl57 ?_
                  refine tr_iload dX12_readRising_66 hl59 ?_
                  refine q_iaddE dX12_readRising_68 (by intros; omega) ?_
                  intro v450 h451
                  refine tr_iload dX12_readRising_69 rfl ?_
                  refine q_iast dX12_readRising_71 (kR59 hS429.1 ta1) (ti_in (nR59 hS429.1 ta1) (by omega) (by omega)) hS429 ta1 (by show (0 : Int) ≤ v379.toInt ∧ v379.toInt ≤ (239 : Int); omega) rfl (by rfl) ?_
                  intro I452 hS453 e455 f454
                  have c456 : I452 a0 13 = v409 := (f454 _ _ (fun q => by have z := ta0; rw [q.1, ta1] at z; exact absurd z (by decide))).trans c430
                  have c457 : I452 a0 9 = v432 := (f454 _ _ (fun q => by have z := ta0; rw [q.1, ta1] at z; exact absurd z (by decide))).trans c433
                  have c458 : I452 a0 10 = v435 := (f454 _ _ (fun q => by have z := ta0; rw [q.1, ta1] at z; exact absurd z (by decide))).trans c436
                  have c459 : I452 a0 11 = v438 := (f454 _ _ (fun q => by have z := ta0; rw [q.1, ta1] at z; exact absurd z (by decide))).trans c439
                  have c460 : I452 a0 12 = v442 := (f454 _ _ (fun q => by have z := ta0; rw [q.1, ta1] at z; exact absurd z (by decide))).trans c443
                  have c461 : I452 a0 8 = v444 := (f454 _ _ (fun q => by have z := ta0; rw [q.1, ta1] at z; exact absurd z (by decide))).trans c445
                  refine q_iincE dX12_readRising_72 hl59 (by decide) (by decide) (by intros; omega) ?_
                  intro v462 h463
                  refine tr_iload dX12_readRising_75 rfl ?_
                  refine q_iconst dX12_readRising_77 (by decide) ?_
                  intro v464 h465
                  refine q_iaddE dX12_readRising_78 (by intros; omega) ?_
                  intro v466 h467
                  refine tr_istore dX12_readRising_79 (by decide) (by decide) ?_
                  refine tr_aload_n dX12_readRising_81 hl55 ?_
                  refine q_bipush dX12_readRising_82 (by decide +kernel) ?_
                  intro v468 h469
                  refine q_callVi hE (M' := mX12_eatsSign) (as := [_]) dX12_readRising_84 lk12_221 inX12_eatsSign seX12_eatsSign myX12_eatsSign (by decide) ⟨by decide, by decide⟩ rfl (kR15 hS453.1 ta0) (Nat.le_of_ble_eq_true rfl) rfl rfl (by decide) (by decide) (fk_X12_eatsSign hS453.1 (gB) ((tkN gB gs64)) ta0 (TxA.kp hT hS453 ta0 rfl rfl rfl (by decide +kernel) (by decide +kernel)) (by (try rw [c457]); first | done | omega) (by (try rw [c457]); first | done | omega) (by (try rw [c458]); first | done | omega) (by (try rw [c459]); first | done | omega) (by (try rw [c441]); first | done | assumption) (by (try rw [c460]); first | done | assumption) (by (try rw [c461]); first | done | assumption) (by (try rw [((hS453.cell ta0 (by decide +kernel)).trans c36)]); first | done | omega) (by first | done | omega)) ?_
                  rintro v475 cn' K' N' I470 R471 L472 ⟨rfl, rfl, rfl, rfl, g473, gl474, h476, dj477, -⟩
                  have hS478 := hS453.tr g473 (by decide +kernel) (by decide +kernel)
                  have c479 : I470 a0 13 = v409 := (g473.cell ta0 (by decide +kernel)).trans c456
                  have hL480 := hL431.tr gl474 (by decide +kernel)
                  rcases dj477 with ⟨p481, p482, p483, p484, p485, p486, p487, p488, p489, p490, -⟩ | ⟨p491, p492, p493, p494, p495, p496, p497, p498, p499, p500, -⟩
                  · skip
                    rw [c479] at p483
                    rw [c456] at p483
                    obtain ⟨v501, c502⟩ : ∃ v, I470 a0 9 = v := ⟨_, rfl⟩
                    have b503 := iv15_9 hS478.1 ta0 c502
                    rw [c502] at p484
                    rw [c502] at p485
                    obtain ⟨v504, c505⟩ : ∃ v, I470 a0 10 = v := ⟨_, rfl⟩
                    have b506 := iv15_10 hS478.1 ta0 c505
                    rw [c505] at p486
                    obtain ⟨v507, c508⟩ : ∃ v, I470 a0 11 = v := ⟨_, rfl⟩
                    rw [c508] at p487
                    obtain ⟨y509, c510⟩ : ∃ v, L472 a0 15 = v := ⟨_, rfl⟩
                    rw [c510] at p488
                    obtain ⟨v511, c512⟩ : ∃ v, I470 a0 12 = v := ⟨_, rfl⟩
                    rw [c512] at p489
                    obtain ⟨v513, c514⟩ : ∃ v, I470 a0 8 = v := ⟨_, rfl⟩
                    have b515 := iv15_8 hS478.1 ta0 c514
                    rw [c514] at p490
                    refine tr_istore dX12_readRising_87 (by decide) (by decide) ?_
                    refine tr_goto 9 dX12_readRising_89 (by decide) ?_
                    exact ih99 _ v462 v466 v475 I470 L472 ((tkN gB (tkN gB gs64))) (gk105) v409 v501 v504 v507 y509 v511 v513 hl55 hl56 hl57 hl58 rfl rfl rfl hS478 hL480 c479 c502 c505 c508 c510 c512 c514 (by rw [← g82]; simp only [riF, ↓reduceIte]; rw [show v466.toInt = tkV gB gs64 + 1 by omega]; repeat' (first | split | omega)) (by rw [← g83]; simp only [riP, ↓reduceIte]; rw [show v466.toInt = tkV gB gs64 + 1 by omega]; repeat' (first | split | omega)) (by rw [← g84]; simp only [riS, ↓reduceIte]; rw [show v466.toInt = tkV gB gs64 + 1 by omega]; repeat' (first | split | omega)) (by omega) (by omega) (by omega) (by omega) (by omega) (by omega) (by omega) (by omega) (by omega) (by omega) (by omega) (by assumption) (by assumption) (by assumption) (by omega)
                  · skip
                    rw [c479] at p493
                    rw [c456] at p493
                    obtain ⟨v516, c517⟩ : ∃ v, I470 a0 9 = v := ⟨_, rfl⟩
                    have b518 := iv15_9 hS478.1 ta0 c517
                    rw [c517] at p494
                    rw [c517] at p495
                    obtain ⟨v519, c520⟩ : ∃ v, I470 a0 10 = v := ⟨_, rfl⟩
                    have b521 := iv15_10 hS478.1 ta0 c520
                    rw [c520] at p496
                    obtain ⟨v522, c523⟩ : ∃ v, I470 a0 11 = v := ⟨_, rfl⟩
                    rw [c523] at p497
                    obtain ⟨y524, c525⟩ : ∃ v, L472 a0 15 = v := ⟨_, rfl⟩
                    rw [c525] at p498
                    obtain ⟨v526, c527⟩ : ∃ v, I470 a0 12 = v := ⟨_, rfl⟩
                    rw [c527] at p499
                    obtain ⟨v528, c529⟩ : ∃ v, I470 a0 8 = v := ⟨_, rfl⟩
                    have b530 := iv15_8 hS478.1 ta0 c529
                    rw [c529] at p500
                    refine tr_istore dX12_readRising_87 (by decide) (by decide) ?_
                    refine tr_goto 9 dX12_readRising_89 (by decide) ?_
                    refine tr_iload dX12_readRising_9 rfl ?_
                    refine q_if_eq 92 dX12_readRising_11 (by decide) (fun h531 => ?_) (fun h531 => ?_)
                    · skip
                      refine tr_iload dX12_readRising_92 rfl ?_
                      have es532 : riS gB gQ 8 0 gs = (tkN gB gs64) := by rw [← g84]; simp only [riS, ↓reduceIte]; repeat' (first | split | omega)
                      obtain ⟨v533, c534⟩ : ∃ v, I470 a0 14 = v := ⟨_, rfl⟩
                      exact tr_iret hZ dX12_readRising_94 rfl (by decide) (by decide) ⟨v462, rfl, rfl, rfl, rfl, rfl, hS478, (by omega), (Or.inl ⟨(by rw [← g82]; simp only [riF, ↓reduceIte]; repeat' (first | split | omega)), (by (try rw [es532]); (try rw [c479]); (try rw [c45]); first | done | omega), (by (try rw [es532]); (try rw [c517]); first | done | omega), (by (try rw [es532]); (try rw [c517]); first | done | omega), (by (try rw [es532]); (try rw [c520]); first | done | omega), (by (try rw [es532]); (try rw [c523]); first | done | omega), (by (try rw [es532]); (try rw [c525]); first | done | assumption), (by (try rw [es532]); (try rw [c527]); first | done | assumption), (by (try rw [es532]); (try rw [c529]); first | done | assumption), hL480, trivial⟩), trivial⟩
                    · skip
                      exfalso; omega
                · skip
                  exfalso; omega
              · skip
                exfalso; omega
            · skip
              obtain ⟨v535, c536⟩ : ∃ v, I374 a0 9 = v := ⟨_, rfl⟩
              have b537 := iv15_9 hS381.1 ta0 c536
              rw [c536] at p400
              obtain ⟨v538, c539⟩ : ∃ v, I374 a0 13 = v := ⟨_, rfl⟩
              rw [c539] at p401
              obtain ⟨v540, c541⟩ : ∃ v, I374 a0 14 = v := ⟨_, rfl⟩
              rw [c541] at p402
              refine tr_istore dX12_readRising_37 (by decide) (by decide) ?_
              refine tr_iload dX12_readRising_39 hl59 ?_
              refine tr_iload_n dX12_readRising_41 hl58 ?_
              refine q_icmp_ne 50 dX12_readRising_42 (by decide) (fun h542 => ?_) (fun h542 => ?_)
              · skip
                refine tr_aload_n dX12_readRising_50 hl55 ?_
                refine q_callVv hE (M' := mX12_goesOn) (as := []) dX12_readRising_51 lk12_142 inX12_goesOn seX12_goesOn myX12_goesOn (by decide) ⟨by decide, by decide⟩ rfl (kR15 hS381.1 ta0) (Nat.le_of_ble_eq_true rfl) rfl rfl (by decide) (by decide) (k_X12_goesOn hS381.1 ta0) ?_
                rintro cn' K' N' I543 R544 L545 ⟨rfl, rfl, rfl, rfl, g546, p548, p549, p550, w551, -⟩
                have hS552 := hS381.tr g546 (by decide +kernel) (by decide +kernel)
                have c553 : I543 a0 13 = v538 := (g546.cell ta0 (by decide +kernel)).trans c539
                have c554 : I543 a0 14 = v540 := (g546.cell ta0 (by decide +kernel)).trans c541
                obtain ⟨v555, c556⟩ : ∃ v, I543 a0 9 = v := ⟨_, rfl⟩
                have b557 := iv15_9 hS552.1 ta0 c556
                rw [c536] at p548
                rw [c556] at p548
                rw [c536] at p549
                rw [c556] at p549
                obtain ⟨v558, c559⟩ : ∃ v, I543 a0 8 = v := ⟨_, rfl⟩
                have b560 := iv15_8 hS552.1 ta0 c559
                rw [c559] at p550
                rw [c385] at p550
                rw [c553] at p550
                rw [c539] at p550
                have ov561 := w551.over (by rw [c536]; omega)
                obtain ⟨v562, c563⟩ : ∃ v, I543 a0 9 = v := ⟨_, rfl⟩
                have b564 := iv15_9 hS552.1 ta0 c563
                obtain ⟨v565, c566⟩ : ∃ v, I543 a0 13 = v := ⟨_, rfl⟩
                obtain ⟨v567, c568⟩ : ∃ v, I543 a0 14 = v := ⟨_, rfl⟩
                (try rw [c563] at ov561)
                (try rw [c566] at ov561)
                (try rw [c568] at ov561)
                (try rw [c536] at ov561)
                (try rw [c539] at ov561)
                (try rw [c541] at ov561)
                refine tr_aload_n dX12_readRising_54 hl55 ?_
                refine q_getI dX12_readRising_55 fl12_99 (kR15 hS552.1 ta0) c563 ?_
                refine q_iconst dX12_readRising_58 (by decide) ?_
                intro v569 h570
                refine q_icmp_ne 64 dX12_readRising_59 (by decide) (fun h571 => ?_) (fun h571 => ?_)
                · skip
                  exfalso; omega
                · skip
                  refine q_iconst dX12_readRising_62 (by decide) ?_
                  intro v572 h573
                  obtain ⟨v574, c575⟩ : ∃ v, I543 a0 10 = v := ⟨_, rfl⟩
                  have b576 := iv15_10 hS552.1 ta0 c575
                  obtain ⟨v577, c578⟩ : ∃ v, I543 a0 11 = v := ⟨_, rfl⟩
                  obtain ⟨y579, c580⟩ : ∃ v, L545 a0 15 = v := ⟨_, rfl⟩
                  obtain ⟨v581, c582⟩ : ∃ v, I543 a0 12 = v := ⟨_, rfl⟩
                  exact tr_iret hZ dX12_readRising_63 rfl (by decide) (by decide) ⟨v572, rfl, rfl, rfl, rfl, rfl, hS552, (by omega), (Or.inr (⟨(by rw [← g82]; simp only [riF, ↓reduceIte]; repeat' (first | split | omega)), (by (try rw [c563]); first | done | omega), (by (try rw [c566]); rw [← g82]; simp only [riF, ↓reduceIte]; repeat' (first | split | omega)), (by (try rw [c568]); rw [← g83]; simp only [riP, ↓reduceIte]; repeat' (first | split | omega)), trivial⟩)), trivial⟩
              · skip
                exfalso; omega
            · skip
              obtain ⟨v583, c584⟩ : ∃ v, I374 a0 9 = v := ⟨_, rfl⟩
              have b585 := iv15_9 hS381.1 ta0 c584
              rw [c584] at p406
              obtain ⟨v586, c587⟩ : ∃ v, I374 a0 13 = v := ⟨_, rfl⟩
              rw [c587] at p407
              obtain ⟨v588, c589⟩ : ∃ v, I374 a0 14 = v := ⟨_, rfl⟩
              rw [c589] at p408
              refine tr_istore dX12_readRising_37 (by decide) (by decide) ?_
              refine tr_iload dX12_readRising_39 hl59 ?_
              refine tr_iload_n dX12_readRising_41 hl58 ?_
              refine q_icmp_ne 50 dX12_readRising_42 (by decide) (fun h590 => ?_) (fun h590 => ?_)
              · skip
                refine tr_aload_n dX12_readRising_50 hl55 ?_
                refine q_callVv hE (M' := mX12_goesOn) (as := []) dX12_readRising_51 lk12_142 inX12_goesOn seX12_goesOn myX12_goesOn (by decide) ⟨by decide, by decide⟩ rfl (kR15 hS381.1 ta0) (Nat.le_of_ble_eq_true rfl) rfl rfl (by decide) (by decide) (k_X12_goesOn hS381.1 ta0) ?_
                rintro cn' K' N' I591 R592 L593 ⟨rfl, rfl, rfl, rfl, g594, p596, p597, p598, w599, -⟩
                have hS600 := hS381.tr g594 (by decide +kernel) (by decide +kernel)
                have c601 : I591 a0 13 = v586 := (g594.cell ta0 (by decide +kernel)).trans c587
                have c602 : I591 a0 14 = v588 := (g594.cell ta0 (by decide +kernel)).trans c589
                obtain ⟨v603, c604⟩ : ∃ v, I591 a0 9 = v := ⟨_, rfl⟩
                have b605 := iv15_9 hS600.1 ta0 c604
                rw [c584] at p596
                rw [c604] at p596
                rw [c584] at p597
                rw [c604] at p597
                obtain ⟨v606, c607⟩ : ∃ v, I591 a0 8 = v := ⟨_, rfl⟩
                have b608 := iv15_8 hS600.1 ta0 c607
                rw [c607] at p598
                rw [c385] at p598
                rw [c601] at p598
                rw [c587] at p598
                have ov609 := w599.over (by rw [c584]; omega)
                obtain ⟨v610, c611⟩ : ∃ v, I591 a0 9 = v := ⟨_, rfl⟩
                have b612 := iv15_9 hS600.1 ta0 c611
                obtain ⟨v613, c614⟩ : ∃ v, I591 a0 13 = v := ⟨_, rfl⟩
                obtain ⟨v615, c616⟩ : ∃ v, I591 a0 14 = v := ⟨_, rfl⟩
                (try rw [c611] at ov609)
                (try rw [c614] at ov609)
                (try rw [c616] at ov609)
                (try rw [c584] at ov609)
                (try rw [c587] at ov609)
                (try rw [c589] at ov609)
                refine tr_aload_n dX12_readRising_54 hl55 ?_
                refine q_getI dX12_readRising_55 fl12_99 (kR15 hS600.1 ta0) c611 ?_
                refine q_iconst dX12_readRising_58 (by decide) ?_
                intro v617 h618
                refine q_icmp_ne 64 dX12_readRising_59 (by decide) (fun h619 => ?_) (fun h619 => ?_)
                · skip
                  exfalso; omega
                · skip
                  refine q_iconst dX12_readRising_62 (by decide) ?_
                  intro v620 h621
                  obtain ⟨v622, c623⟩ : ∃ v, I591 a0 10 = v := ⟨_, rfl⟩
                  have b624 := iv15_10 hS600.1 ta0 c623
                  obtain ⟨v625, c626⟩ : ∃ v, I591 a0 11 = v := ⟨_, rfl⟩
                  obtain ⟨y627, c628⟩ : ∃ v, L593 a0 15 = v := ⟨_, rfl⟩
                  obtain ⟨v629, c630⟩ : ∃ v, I591 a0 12 = v := ⟨_, rfl⟩
                  exact tr_iret hZ dX12_readRising_63 rfl (by decide) (by decide) ⟨v620, rfl, rfl, rfl, rfl, rfl, hS600, (by omega), (Or.inr (⟨(by rw [← g82]; simp only [riF, ↓reduceIte]; repeat' (first | split | omega)), (by (try rw [c611]); first | done | omega), (by (try rw [c614]); rw [← g82]; simp only [riF, ↓reduceIte]; repeat' (first | split | omega)), (by (try rw [c616]); rw [← g83]; simp only [riP, ↓reduceIte]; repeat' (first | split | omega)), trivial⟩)), trivial⟩
              · skip
                exfalso; omega
  exact lp99 _ _ v46 v48 v50 I0 L0 (gs) (8) v44 v13 v18 v22 y25 v28 v31 rfl rfl rfl rfl rfl rfl rfl hS0 hL0 c45 c14 c19 c23 c26 c29 c32 (by first | rfl | (congr 1; omega) | (congr 2 <;> omega)) (by first | rfl | (congr 1; omega) | (congr 2 <;> omega)) (by first | rfl | (congr 1; omega) | (congr 2 <;> omega)) (by omega) (by omega) (by omega) (by omega) (by omega) (by omega) (by omega) (by omega) (by omega) (by omega) (by omega) (by assumption) (by assumption) (by assumption) (Nat.lt_succ_self _)
def wik_X12_readAlmanac : List Nat := [904, 905, 968, 969, 970, 971, 972, 973, 974, 3839]
def wrk_X12_readAlmanac : List Nat := []
def wlk_X12_readAlmanac : List Nat := [975]
set_option maxHeartbeats 4000000 in
theorem fk_X12_readAlmanac {l : Launch} {T : Nat → Nat} {cn : Nat} {K N : Nat → Nat} {I0 : cz_I} {R0 : cz_R} {L0 : cz_L} (hW0 : Wf T cn K N I0 R0 0) (gB : cz_B) (gs : Int) (gQ : Nat → Int) {a0 : Nat} (ta0 : T a0 = 15) (hT : ∀ t, R0 a0 5 = some t → Tx I0 t gB) (hN : ∀ b, R0 a0 4 = some b → NmM I0 R0 L0 b gQ) (pre0 : (I0 a0 9).toInt = (tkM gB gs)) (pre1 : (I0 a0 9).toInt ≤ 4) (pre2 : (I0 a0 10).toInt = (tkS gB gs)) (pre3 : (I0 a0 11).toInt = (tkG gB gs)) (pre4 : (AtW ((tkK gB gs)) ((L0 a0 15).toInt) ((tkW gB gs)))) (pre5 : (AtV ((tkK gB gs)) ((I0 a0 12).toInt) ((tkV gB gs)))) (pre6 : (AtN ((tkK gB gs)) ((I0 a0 8).toInt) ((tkN gB gs)))) (pre7 : (I0 a0 7).toInt = (gB.2)) (pre8 : ∀ b1, R0 a0 4 = some b1 → (I0 b1 0).toInt = (gQ 0)) (pre9 : ∀ b1, R0 a0 4 = some b1 → (I0 b1 1).toInt = (gQ 1)) (pre10 : ∀ b1, R0 a0 4 = some b1 → (I0 b1 2).toInt = (gQ 2)) (pre11 : ∀ b1, R0 a0 4 = some b1 → (I0 b1 3).toInt = (gQ 3)) (pre12 : ∀ b1, R0 a0 4 = some b1 → (I0 b1 4).toInt = (gQ 4)) (pre13 : ∀ b1, R0 a0 4 = some b1 → (I0 b1 5).toInt = (gQ 5)) (pre14 : ∀ b1, R0 a0 4 = some b1 → (I0 b1 6).toInt = (gQ 6)) (pre15 : ∀ b1, R0 a0 4 = some b1 → (I0 b1 9).toInt = (gQ 8)) (pre16 : (Q7M ((gQ 0)) ((gQ 7)))) (pre17 : (tkK gB gs) = 1) (pre18 : (srt gB gs) = 6) (nn4 : ∃ b, R0 a0 4 = some b) : ConE l mX12_readAlmanac [.ref a0] cn K N I0 R0 L0 (ca_v (fun cn' K' N' I' R' L' => cn = cn' ∧ K = K' ∧ N = N' ∧ R0 = R' ∧ St T cn K N 0 wik_X12_readAlmanac wrk_X12_readAlmanac I0 R0 I' R0 ∧ ((((lnF gB gQ gs) = 0) ∧ (∀ b1, R0 a0 4 = some b1 → (I' b1 0).toInt = (lnQ gB gQ gs 0)) ∧ (∀ b1, R0 a0 4 = some b1 → (I' b1 1).toInt = (lnQ gB gQ gs 1)) ∧ (∀ b1, R0 a0 4 = some b1 → (I' b1 2).toInt = (lnQ gB gQ gs 2)) ∧ (∀ b1, R0 a0 4 = some b1 → (I' b1 3).toInt = (lnQ gB gQ gs 3)) ∧ (∀ b1, R0 a0 4 = some b1 → (I' b1 4).toInt = (lnQ gB gQ gs 4)) ∧ (∀ b1, R0 a0 4 = some b1 → (I' b1 5).toInt = (lnQ gB gQ gs 5)) ∧ (∀ b1, R0 a0 4 = some b1 → (I' b1 6).toInt = (lnQ gB gQ gs 6)) ∧ (∀ b1, R0 a0 4 = some b1 → (I' b1 9).toInt = (lnQ gB gQ gs 8)) ∧ ((I' a0 13).toInt = (I0 a0 13).toInt) ∧ ((I' a0 9).toInt = (tkM gB (lnS gB gQ gs))) ∧ ((I' a0 9).toInt ≤ 4) ∧ ((I' a0 10).toInt = (tkS gB (lnS gB gQ gs))) ∧ ((I' a0 11).toInt = (tkG gB (lnS gB gQ gs))) ∧ ((AtW ((tkK gB (lnS gB gQ gs))) ((L' a0 15).toInt) ((tkW gB (lnS gB gQ gs))))) ∧ ((AtV ((tkK gB (lnS gB gQ gs))) ((I' a0 12).toInt) ((tkV gB (lnS gB gQ gs))))) ∧ ((AtN ((tkK gB (lnS gB gQ gs))) ((I' a0 8).toInt) ((tkN gB (lnS gB gQ gs))))) ∧ LgS T wlk_X12_readAlmanac L0 L' ∧ (∀ b, R0 a0 4 = some b → NmM I' R0 L' b (lnQ gB gQ gs)) ∧ True) ∨ (((lnF gB gQ gs) ≠ 0) ∧ ((I' a0 9).toInt = 5) ∧ ((I' a0 13).toInt = (lnF gB gQ gs)) ∧ ((I' a0 14).toInt = (lnP gB gQ gs)) ∧ True)) ∧ True)) := by
  refine ConE.of (by decide +kernel) rfl (Nat.le_of_ble_eq_true rfl) rfl (fun X hX hZ hE => ?_)
  subst hX
  have hS0 : St T cn K N 0 wik_X12_readAlmanac wrk_X12_readAlmanac I0 R0 I0 R0 := St.rf0 hW0
  have hL0 : LgS T wlk_X12_readAlmanac L0 L0 := LgS.rf0
  obtain ⟨a1, d2⟩ := nn4
  have ta1 : T a1 = 14 := hW0.rsN ta0 rfl d2
  obtain ⟨v3, c4⟩ : ∃ v, I0 a0 9 = v := ⟨_, rfl⟩
  have b5 := iv15_9 hS0.1 ta0 c4
  have p6 := pre0
  rw [c4] at p6
  have p7 := pre1
  rw [c4] at p7
  obtain ⟨v8, c9⟩ : ∃ v, I0 a0 10 = v := ⟨_, rfl⟩
  have b10 := iv15_10 hS0.1 ta0 c9
  have p11 := pre2
  rw [c9] at p11
  obtain ⟨v12, c13⟩ : ∃ v, I0 a0 11 = v := ⟨_, rfl⟩
  have p14 := pre3
  rw [c13] at p14
  obtain ⟨y15, c16⟩ : ∃ v, L0 a0 15 = v := ⟨_, rfl⟩
  have p17 := pre4
  rw [c16] at p17
  obtain ⟨v18, c19⟩ : ∃ v, I0 a0 12 = v := ⟨_, rfl⟩
  have p20 := pre5
  rw [c19] at p20
  obtain ⟨v21, c22⟩ : ∃ v, I0 a0 8 = v := ⟨_, rfl⟩
  have b23 := iv15_8 hS0.1 ta0 c22
  have p24 := pre6
  rw [c22] at p24
  obtain ⟨v25, c26⟩ : ∃ v, I0 a0 7 = v := ⟨_, rfl⟩
  have b27 := iv15_7 hW0 ta0 c26
  have p28 := pre7
  rw [c26] at p28
  obtain ⟨v29, c30⟩ : ∃ v, I0 a1 0 = v := ⟨_, rfl⟩
  have b31 := iv14_0 hW0 ta1 c30
  have p32 := pre8 _ d2
  rw [c30] at p32
  obtain ⟨v33, c34⟩ : ∃ v, I0 a1 1 = v := ⟨_, rfl⟩
  have b35 := iv14_1 hW0 ta1 c34
  have p36 := pre9 _ d2
  rw [c34] at p36
  obtain ⟨v37, c38⟩ : ∃ v, I0 a1 2 = v := ⟨_, rfl⟩
  have b39 := iv14_2 hW0 ta1 c38
  have p40 := pre10 _ d2
  rw [c38] at p40
  obtain ⟨v41, c42⟩ : ∃ v, I0 a1 3 = v := ⟨_, rfl⟩
  have b43 := iv14_3 hW0 ta1 c42
  have p44 := pre11 _ d2
  rw [c42] at p44
  obtain ⟨v45, c46⟩ : ∃ v, I0 a1 4 = v := ⟨_, rfl⟩
  have b47 := iv14_4 hW0 ta1 c46
  have p48 := pre12 _ d2
  rw [c46] at p48
  obtain ⟨v49, c50⟩ : ∃ v, I0 a1 5 = v := ⟨_, rfl⟩
  have b51 := iv14_5 hW0 ta1 c50
  have p52 := pre13 _ d2
  rw [c50] at p52
  obtain ⟨v53, c54⟩ : ∃ v, I0 a1 6 = v := ⟨_, rfl⟩
  have b55 := iv14_6 hW0 ta1 c54
  have p56 := pre14 _ d2
  rw [c54] at p56
  obtain ⟨v57, c58⟩ : ∃ v, I0 a1 9 = v := ⟨_, rfl⟩
  have b59 := iv14_9 hS0.1 ta1 c58
  have p60 := pre15 _ d2
  rw [c58] at p60
  have p61 := pre16
  have p62 := pre17
  have p63 := pre18
  obtain ⟨v64, c65⟩ : ∃ v, I0 a0 13 = v := ⟨_, rfl⟩
  have hM0 := hN _ d2
  have hF := lnF_ch gB gQ gs
  have hP := lnP_ch gB gQ gs
  replace hF := hF.neg (by omega)
  replace hP := hP.neg (by omega)
  refine tr_aload_n dX12_readAlmanac_0 rfl ?_
  refine tr_getR dX12_readAlmanac_1 fl12_188 (kR15 hS0.1 ta0) d2 ?_
  refine q_getZ dX12_readAlmanac_4 fl12_302 (kR14 hS0.1 ta1) c58 ?_
  refine q_if_eq 15 dX12_readAlmanac_7 (by decide) (fun h66 => ?_) (fun h66 => ?_)
  · skip
    replace hF := hF.neg (by omega)
    replace hP := hP.neg (by omega)
    refine tr_aload_n dX12_readAlmanac_15 rfl ?_
    refine q_iconst dX12_readAlmanac_16 (by decide) ?_
    intro v67 h68
    refine q_iconst dX12_readAlmanac_17 (by decide) ?_
    intro v69 h70
    refine q_callVv hE (M' := mX12_begins) (as := [_, _]) dX12_readAlmanac_18 lk12_268 inX12_begins seX12_begins myX12_begins (by decide) ⟨by decide, by decide⟩ rfl (kR15 hS0.1 ta0) (Nat.le_of_ble_eq_true rfl) rfl rfl (by decide) (by decide) (fk_X12_begins hS0.1 (gB) (gs) (gQ) ta0 (TxA.kp hT hS0 ta0 rfl rfl rfl (by decide +kernel) (by decide +kernel)) (by (try rw [c4]); first | done | omega) (by (try rw [c4]); first | done | omega) (by (try rw [c9]); first | done | omega) (by (try rw [c13]); first | done | omega) (by (try rw [c16]); first | done | assumption) (by (try rw [c19]); first | done | assumption) (by (try rw [c22]); first | done | assumption) (by (try rw [c26]); first | done | omega) (fun q0 z0 => by obtain rfl := Option.some.inj ((d2).symm.trans z0); (try rw [c30]); first | done | omega) (by first | done | omega) ⟨_, d2⟩) ?_
    rintro cn' K' N' I71 R72 L73 ⟨rfl, rfl, rfl, rfl, g74, dj77, -⟩
    have hM78 : NmM I71 R0 L0 a1 gQ := NmM.kpS hM0 g74 hS0.1 ta1 (by decide +kernel) (by decide +kernel)
    have hS79 := hS0.tr g74 (by decide +kernel) (by decide +kernel)
    have c80 : I71 a1 9 = v57 := (g74.cell ta1 (by decide +kernel)).trans c58
    rcases dj77 with ⟨p81, p82, p83, p84, p85, p86, p87, p88, p89, p90, gl91, -⟩ | ⟨p92, p93, p94, p95, -⟩ | ⟨p96, p97, p98, p99, p100, -⟩
    · skip
      have hL101 := hL0.tr gl91 (by decide +kernel)
      have hM102 : NmM I71 R0 L73 a1 gQ := NmM.kpL hM78 gl91 hS79.1 ta1 (by decide +kernel)
      obtain ⟨v103, c104⟩ : ∃ v, I71 a0 13 = v := ⟨_, rfl⟩
      rw [c104] at p83
      rw [c65] at p83
      obtain ⟨v105, c106⟩ : ∃ v, I71 a0 9 = v := ⟨_, rfl⟩
      have b107 := iv15_9 hS79.1 ta0 c106
      rw [c106] at p84
      rw [c106] at p85
      obtain ⟨v108, c109⟩ : ∃ v, I71 a0 10 = v := ⟨_, rfl⟩
      have b110 := iv15_10 hS79.1 ta0 c109
      rw [c109] at p86
      obtain ⟨v111, c112⟩ : ∃ v, I71 a0 11 = v := ⟨_, rfl⟩
      rw [c112] at p87
      obtain ⟨y113, c114⟩ : ∃ v, L73 a0 15 = v := ⟨_, rfl⟩
      rw [c114] at p88
      obtain ⟨v115, c116⟩ : ∃ v, I71 a0 12 = v := ⟨_, rfl⟩
      rw [c116] at p89
      obtain ⟨v117, c118⟩ : ∃ v, I71 a0 8 = v := ⟨_, rfl⟩
      have b119 := iv15_8 hS79.1 ta0 c118
      rw [c118] at p90
      have p120 := p61
      unfold Q7M at p120
      replace hF := hF.neg (by omega)
      replace hP := hP.neg (by omega)
      replace hF := hF.neg (by omega)
      replace hP := hP.neg (by omega)
      clear p120
      obtain ⟨w121, w122, w123, w124, w125, w126, w127, w128, w129, w130, w131, w132⟩ := lnl_6 (B := gB) (Q := gQ) (s := gs) (by omega)
      replace hF := hF.to w121 (show ChE (riF gB gQ 8 0 (tkN gB gs)) (riF gB gQ 8 0 (tkN gB gs)) from rfl)
      replace hP := hP.to w122 (show ChE (riP gB gQ 8 0 (tkN gB gs)) (riP gB gQ 8 0 (tkN gB gs)) from rfl)
      refine tr_aload_n dX12_readAlmanac_21 rfl ?_
      refine tr_aload_n dX12_readAlmanac_22 rfl ?_
      refine tr_getR dX12_readAlmanac_23 fl12_188 (kR15 hS79.1 ta0) d2 ?_
      obtain ⟨a133, d134, ta133⟩ := rf14_16 hW0 ta1
      refine tr_getR dX12_readAlmanac_26 fl12_306 (kR14 hS79.1 ta1) d134 ?_
      refine q_iconst dX12_readAlmanac_29 (by decide) ?_
      intro v135 h136
      refine q_bipush dX12_readAlmanac_30 (by decide +kernel) ?_
      intro v137 h138
      refine q_callVi hE (M' := mX12_readRising) (as := [_, _, _]) dX12_readAlmanac_32 lk12_308 inX12_readRising seX12_readRising myX12_readRising (by decide) ⟨by decide, by decide⟩ rfl (kR15 hS79.1 ta0) (Nat.le_of_ble_eq_true rfl) rfl rfl (by decide) (by decide) (fk_X12_readRising hS79.1 (gB) ((tkN gB gs)) (gQ) ta0 ta133 (by omega) (by omega) (TxA.kp hT hS79 ta0 rfl rfl rfl (by decide +kernel) (by decide +kernel)) (by (try rw [c106]); first | done | omega) (by (try rw [c106]); first | done | omega) (by (try rw [c109]); first | done | omega) (by (try rw [c112]); first | done | omega) (by (try rw [c114]); first | done | assumption) (by (try rw [c116]); first | done | assumption) (by (try rw [c118]); first | done | assumption) (by (try rw [((hS79.cell ta0 (by decide +kernel)).trans c26)]); first | done | omega) (fun q0 z0 => by obtain rfl := Option.some.inj ((d2).symm.trans z0); (try rw [((hS79.cell ta1 (by decide +kernel)).trans c30)]); first | done | omega) (by first | done | omega) ⟨_, d2⟩) ?_
      rintro v144 cn' K' N' I139 R140 L141 ⟨rfl, rfl, rfl, rfl, g142, h145, dj146, -⟩
      have hM147 : NmM I139 R0 L73 a1 gQ := NmM.kpS hM102 g142 hS79.1 ta1 (by decide +kernel) (by decide +kernel)
      have hS148 := hS79.tr g142 (by decide +kernel) (by decide +kernel)
      have c149 : I139 a1 9 = v57 := (g142.cell ta1 (by decide +kernel)).trans c80
      rcases dj146 with ⟨p150, p151, p152, p153, p154, p155, p156, p157, p158, gl159, -⟩ | ⟨p160, p161, p162, p163, -⟩
      · skip
        have hL164 := hL101.tr gl159 (by decide +kernel)
        have hM165 : NmM I139 R0 L141 a1 gQ := NmM.kpL hM147 gl159 hS148.1 ta1 (by decide +kernel)
        obtain ⟨v166, c167⟩ : ∃ v, I139 a0 13 = v := ⟨_, rfl⟩
        rw [c167] at p151
        rw [c104] at p151
        obtain ⟨v168, c169⟩ : ∃ v, I139 a0 9 = v := ⟨_, rfl⟩
        have b170 := iv15_9 hS148.1 ta0 c169
        rw [c169] at p152
        rw [c169] at p153
        obtain ⟨v171, c172⟩ : ∃ v, I139 a0 10 = v := ⟨_, rfl⟩
        have b173 := iv15_10 hS148.1 ta0 c172
        rw [c172] at p154
        obtain ⟨v174, c175⟩ : ∃ v, I139 a0 11 = v := ⟨_, rfl⟩
        rw [c175] at p155
        obtain ⟨y176, c177⟩ : ∃ v, L141 a0 15 = v := ⟨_, rfl⟩
        rw [c177] at p156
        obtain ⟨v178, c179⟩ : ∃ v, I139 a0 12 = v := ⟨_, rfl⟩
        rw [c179] at p157
        obtain ⟨v180, c181⟩ : ∃ v, I139 a0 8 = v := ⟨_, rfl⟩
        have b182 := iv15_8 hS148.1 ta0 c181
        rw [c181] at p158
        refine tr_istore_n dX12_readAlmanac_35 (by decide) (by decide) ?_
        refine tr_aload_n dX12_readAlmanac_36 rfl ?_
        refine q_getI dX12_readAlmanac_37 fl12_99 (kR15 hS148.1 ta0) c169 ?_
        refine q_iconst dX12_readAlmanac_40 (by decide) ?_
        intro v183 h184
        refine q_icmp_ne 45 dX12_readAlmanac_41 (by decide) (fun h185 => ?_) (fun h185 => ?_)
        · skip
          refine tr_aload_n dX12_readAlmanac_45 rfl ?_
          refine tr_getR dX12_readAlmanac_46 fl12_188 (kR15 hS148.1 ta0) d2 ?_
          refine tr_iload_n dX12_readAlmanac_49 rfl ?_
          refine q_putI dX12_readAlmanac_50 fl12_312 (kR14 hS148.1 ta1) (Or.inl rfl) hS148 ta1 (by show (0 : Int) ≤ v144.toInt ∧ v144.toInt ≤ (8 : Int); omega) rfl (by decide +kernel) ?_
          intro I186 hS187 e188 f189
          have c190 : I186 a1 9 = v57 := (f189 _ _ (fun q => absurd q.2 (by decide))).trans c149
          have c191 : I186 a0 13 = v166 := (f189 _ _ (fun q => absurd q.2 (by decide))).trans c167
          have c192 : I186 a0 9 = v168 := (f189 _ _ (fun q => absurd q.2 (by decide))).trans c169
          have c193 : I186 a0 10 = v171 := (f189 _ _ (fun q => absurd q.2 (by decide))).trans c172
          have c194 : I186 a0 11 = v174 := (f189 _ _ (fun q => absurd q.2 (by decide))).trans c175
          have c195 : I186 a0 12 = v178 := (f189 _ _ (fun q => absurd q.2 (by decide))).trans c179
          have c196 : I186 a0 8 = v180 := (f189 _ _ (fun q => by have z := ta0; rw [q.1, ta1] at z; exact absurd z (by decide))).trans c181
          have hM197 : NmM I186 R0 L141 a1 gQ := NmM.kp1 hM165 f189 ta1 rfl rfl hS148.1 ta1
          refine tr_aload_n dX12_readAlmanac_53 rfl ?_
          refine tr_getR dX12_readAlmanac_54 fl12_188 (kR15 hS187.1 ta0) d2 ?_
          refine q_iconst dX12_readAlmanac_57 (by decide) ?_
          intro v198 h199
          refine q_putZ dX12_readAlmanac_58 fl12_302 (kR14 hS187.1 ta1) (Or.inl rfl) hS187 ta1 (by omega) (by show (0 : Int) ≤ v198.toInt ∧ v198.toInt ≤ (1 : Int); omega) rfl (by decide +kernel) ?_
          intro I200 hS201 e202 f203
          have c204 : I200 a0 13 = v166 := (f203 _ _ (fun q => absurd q.2 (by decide))).trans c191
          have c205 : I200 a0 9 = v168 := (f203 _ _ (fun q => by have z := ta0; rw [q.1, ta1] at z; exact absurd z (by decide))).trans c192
          have c206 : I200 a0 10 = v171 := (f203 _ _ (fun q => absurd q.2 (by decide))).trans c193
          have c207 : I200 a0 11 = v174 := (f203 _ _ (fun q => absurd q.2 (by decide))).trans c194
          have c208 : I200 a0 12 = v178 := (f203 _ _ (fun q => absurd q.2 (by decide))).trans c195
          have c209 : I200 a0 8 = v180 := (f203 _ _ (fun q => absurd q.2 (by decide))).trans c196
          have c210 : I200 a1 8 = v144 := (f203 _ _ (fun q => absurd q.2 (by decide))).trans e188
          have hM211 : NmM I200 R0 L141 a1 gQ := NmM.kp1 hM197 f203 ta1 rfl rfl hS187.1 ta1
          have eF := hF.eq
          have eP := hP.eq
          obtain ⟨v212, c213⟩ : ∃ v, I200 a0 14 = v := ⟨_, rfl⟩
          exact tr_vret hZ dX12_readAlmanac_61 rfl (by decide) (by decide) ⟨rfl, rfl, rfl, rfl, rfl, hS201, (Or.inl ⟨(by (try rw [w123]); first | done | omega), (fun q0 z0 => by obtain rfl := Option.some.inj ((d2).symm.trans z0); (try rw [w123]); (try rw [((hS201.cell ta1 (by decide +kernel)).trans c30)]); first | done | omega), (fun q0 z0 => by obtain rfl := Option.some.inj ((d2).symm.trans z0); (try rw [w123]); (try rw [((hS201.cell ta1 (by decide +kernel)).trans c34)]); first | done | omega), (fun q0 z0 => by obtain rfl := Option.some.inj ((d2).symm.trans z0); (try rw [w123]); (try rw [((hS201.cell ta1 (by decide +kernel)).trans c38)]); first | done | omega), (fun q0 z0 => by obtain rfl := Option.some.inj ((d2).symm.trans z0); (try rw [w123]); (try rw [((hS201.cell ta1 (by decide +kernel)).trans c42)]); first | done | omega), (fun q0 z0 => by obtain rfl := Option.some.inj ((d2).symm.trans z0); (try rw [w123]); (try rw [((hS201.cell ta1 (by decide +kernel)).trans c46)]); first | done | omega), (fun q0 z0 => by obtain rfl := Option.some.inj ((d2).symm.trans z0); (try rw [w123]); (try rw [((hS201.cell ta1 (by decide +kernel)).trans c50)]); first | done | omega), (fun q0 z0 => by obtain rfl := Option.some.inj ((d2).symm.trans z0); (try rw [w123]); (try rw [((hS201.cell ta1 (by decide +kernel)).trans c54)]); first | done | omega), (fun q0 z0 => by obtain rfl := Option.some.inj ((d2).symm.trans z0); (try rw [w123]); (try rw [e202]); first | done | omega), (by (try rw [w123]); (try rw [c204]); (try rw [c65]); first | done | omega), (by (try rw [w123]); (try rw [c205]); first | done | omega), (by (try rw [w123]); (try rw [c205]); first | done | omega), (by (try rw [w123]); (try rw [c206]); first | done | omega), (by (try rw [w123]); (try rw [c207]); first | done | omega), (by (try rw [w123]); (try rw [c177]); first | done | assumption), (by (try rw [w123]); (try rw [c208]); first | done | assumption), (by (try rw [w123]); (try rw [c209]); first | done | assumption), hL164, (fun b hb => (Option.some.inj (d2.symm.trans hb)) ▸ NmM.ln (NmM.bd (k := srt gB gs) hM211 (by omega) (by omega)) rfl), trivial⟩), trivial⟩
        · skip
          exfalso; omega
      · skip
        obtain ⟨v214, c215⟩ : ∃ v, I139 a0 9 = v := ⟨_, rfl⟩
        have b216 := iv15_9 hS148.1 ta0 c215
        rw [c215] at p161
        obtain ⟨v217, c218⟩ : ∃ v, I139 a0 13 = v := ⟨_, rfl⟩
        rw [c218] at p162
        obtain ⟨v219, c220⟩ : ∃ v, I139 a0 14 = v := ⟨_, rfl⟩
        rw [c220] at p163
        refine tr_istore_n dX12_readAlmanac_35 (by decide) (by decide) ?_
        refine tr_aload_n dX12_readAlmanac_36 rfl ?_
        refine q_getI dX12_readAlmanac_37 fl12_99 (kR15 hS148.1 ta0) c215 ?_
        refine q_iconst dX12_readAlmanac_40 (by decide) ?_
        intro v221 h222
        refine q_icmp_ne 45 dX12_readAlmanac_41 (by decide) (fun h223 => ?_) (fun h223 => ?_)
        · skip
          exfalso; omega
        · skip
          have eF := hF.eq
          have eP := hP.eq
          obtain ⟨v224, c225⟩ : ∃ v, I139 a0 10 = v := ⟨_, rfl⟩
          have b226 := iv15_10 hS148.1 ta0 c225
          obtain ⟨v227, c228⟩ : ∃ v, I139 a0 11 = v := ⟨_, rfl⟩
          obtain ⟨y229, c230⟩ : ∃ v, L141 a0 15 = v := ⟨_, rfl⟩
          obtain ⟨v231, c232⟩ : ∃ v, I139 a0 12 = v := ⟨_, rfl⟩
          obtain ⟨v233, c234⟩ : ∃ v, I139 a0 8 = v := ⟨_, rfl⟩
          have b235 := iv15_8 hS148.1 ta0 c234
          exact tr_vret hZ dX12_readAlmanac_44 rfl (by decide) (by decide) ⟨rfl, rfl, rfl, rfl, rfl, hS148, (Or.inr (⟨(by (try rw [w123]); first | done | omega), (by (try rw [w123]); (try rw [c215]); first | done | omega), (by (try rw [w123]); (try rw [c218]); first | done | omega), (by (try rw [w123]); (try rw [c220]); first | done | omega), trivial⟩)), trivial⟩
    · skip
      obtain ⟨v236, c237⟩ : ∃ v, I71 a0 9 = v := ⟨_, rfl⟩
      have b238 := iv15_9 hS79.1 ta0 c237
      rw [c237] at p93
      obtain ⟨v239, c240⟩ : ∃ v, I71 a0 13 = v := ⟨_, rfl⟩
      rw [c240] at p94
      obtain ⟨v241, c242⟩ : ∃ v, I71 a0 14 = v := ⟨_, rfl⟩
      rw [c242] at p95
      exfalso; omega
    · skip
      obtain ⟨v243, c244⟩ : ∃ v, I71 a0 9 = v := ⟨_, rfl⟩
      have b245 := iv15_9 hS79.1 ta0 c244
      rw [c244] at p98
      obtain ⟨v246, c247⟩ : ∃ v, I71 a0 13 = v := ⟨_, rfl⟩
      rw [c247] at p99
      obtain ⟨v248, c249⟩ : ∃ v, I71 a0 14 = v := ⟨_, rfl⟩
      rw [c249] at p100
      have p250 := p61
      unfold Q7M at p250
      replace hF := hF.neg (by omega)
      replace hP := hP.neg (by omega)
      replace hF := hF.pos (by omega)
      replace hP := hP.pos (by omega)
      clear p250
      refine tr_aload_n dX12_readAlmanac_21 rfl ?_
      refine tr_aload_n dX12_readAlmanac_22 rfl ?_
      refine tr_getR dX12_readAlmanac_23 fl12_188 (kR15 hS79.1 ta0) d2 ?_
      obtain ⟨a251, d252, ta251⟩ := rf14_16 hW0 ta1
      refine tr_getR dX12_readAlmanac_26 fl12_306 (kR14 hS79.1 ta1) d252 ?_
      refine q_iconst dX12_readAlmanac_29 (by decide) ?_
      intro v253 h254
      refine q_bipush dX12_readAlmanac_30 (by decide +kernel) ?_
      intro v255 h256
      refine q_callVi hE (M' := mX12_readRising) (as := [_, _, _]) dX12_readAlmanac_32 lk12_308 inX12_readRising seX12_readRising myX12_readRising (by decide) ⟨by decide, by decide⟩ rfl (kR15 hS79.1 ta0) (Nat.le_of_ble_eq_true rfl) rfl rfl (by decide) (by decide) (k_X12_readRising_1 hS79.1 ta0 ta251 (by omega) (by omega) ⟨_, d2⟩) ?_
      rintro v261 cn' K' N' I257 R258 L259 ⟨rfl, rfl, rfl, rfl, g260, h262, w263, -⟩
      have hS264 := hS79.tr g260 (by decide +kernel) (by decide +kernel)
      have c265 : I257 a1 9 = v57 := (g260.cell ta1 (by decide +kernel)).trans c80
      have ov266 := w263.over (by rw [c244]; omega)
      obtain ⟨v267, c268⟩ : ∃ v, I257 a0 9 = v := ⟨_, rfl⟩
      have b269 := iv15_9 hS264.1 ta0 c268
      obtain ⟨v270, c271⟩ : ∃ v, I257 a0 13 = v := ⟨_, rfl⟩
      obtain ⟨v272, c273⟩ : ∃ v, I257 a0 14 = v := ⟨_, rfl⟩
      (try rw [c268] at ov266)
      (try rw [c271] at ov266)
      (try rw [c273] at ov266)
      (try rw [c244] at ov266)
      (try rw [c247] at ov266)
      (try rw [c249] at ov266)
      refine tr_istore_n dX12_readAlmanac_35 (by decide) (by decide) ?_
      refine tr_aload_n dX12_readAlmanac_36 rfl ?_
      refine q_getI dX12_readAlmanac_37 fl12_99 (kR15 hS264.1 ta0) c268 ?_
      refine q_iconst dX12_readAlmanac_40 (by decide) ?_
      intro v274 h275
      refine q_icmp_ne 45 dX12_readAlmanac_41 (by decide) (fun h276 => ?_) (fun h276 => ?_)
      · skip
        exfalso; omega
      · skip
        have eF := hF.eq
        have eP := hP.eq
        obtain ⟨v277, c278⟩ : ∃ v, I257 a0 10 = v := ⟨_, rfl⟩
        have b279 := iv15_10 hS264.1 ta0 c278
        obtain ⟨v280, c281⟩ : ∃ v, I257 a0 11 = v := ⟨_, rfl⟩
        obtain ⟨y282, c283⟩ : ∃ v, L259 a0 15 = v := ⟨_, rfl⟩
        obtain ⟨v284, c285⟩ : ∃ v, I257 a0 12 = v := ⟨_, rfl⟩
        obtain ⟨v286, c287⟩ : ∃ v, I257 a0 8 = v := ⟨_, rfl⟩
        have b288 := iv15_8 hS264.1 ta0 c287
        exact tr_vret hZ dX12_readAlmanac_44 rfl (by decide) (by decide) ⟨rfl, rfl, rfl, rfl, rfl, hS264, (Or.inr (⟨(by first | done | omega), (by (try rw [c268]); first | done | omega), (by (try rw [c271]); first | done | omega), (by (try rw [c273]); first | done | omega), trivial⟩)), trivial⟩
  · skip
    replace hF := hF.pos (by omega)
    replace hP := hP.pos (by omega)
    refine tr_aload_n dX12_readAlmanac_10 rfl ?_
    refine q_iconst dX12_readAlmanac_11 (by decide) ?_
    intro v289 h290
    refine q_callVv hE (M' := mX12_flaw) (as := [_]) dX12_readAlmanac_12 lk12_145 inX12_flaw seX12_flaw myX12_flaw (by decide) ⟨by decide, by decide⟩ rfl (kR15 hS0.1 ta0) (Nat.le_of_ble_eq_true rfl) rfl rfl (by decide) (by decide) (fk_X12_flaw hS0.1  ta0 (by omega) (by (try rw [c4]); first | done | omega)) ?_
    rintro cn' K' N' I291 R292 L293 ⟨rfl, rfl, rfl, rfl, rfl, g294, p297, p298, p299, -⟩
    have hM300 : NmM I291 R0 L0 a1 gQ := NmM.kpS hM0 g294 hS0.1 ta1 (by decide +kernel) (by decide +kernel)
    have hS301 := hS0.tr g294 (by decide +kernel) (by decide +kernel)
    have c302 : I291 a0 10 = v8 := (g294.cell ta0 (by decide +kernel)).trans c9
    have c303 : I291 a0 11 = v12 := (g294.cell ta0 (by decide +kernel)).trans c13
    have c304 : I291 a0 12 = v18 := (g294.cell ta0 (by decide +kernel)).trans c19
    have c305 : I291 a0 8 = v21 := (g294.cell ta0 (by decide +kernel)).trans c22
    have c306 : I291 a1 9 = v57 := (g294.cell ta1 (by decide +kernel)).trans c58
    obtain ⟨v307, c308⟩ : ∃ v, I291 a0 9 = v := ⟨_, rfl⟩
    have b309 := iv15_9 hS301.1 ta0 c308
    rw [c308] at p297
    obtain ⟨v310, c311⟩ : ∃ v, I291 a0 13 = v := ⟨_, rfl⟩
    rw [c311] at p298
    obtain ⟨v312, c313⟩ : ∃ v, I291 a0 14 = v := ⟨_, rfl⟩
    rw [c313] at p299
    rw [c9] at p299
    refine tr_aload_n dX12_readAlmanac_15 rfl ?_
    refine q_iconst dX12_readAlmanac_16 (by decide) ?_
    intro v314 h315
    refine q_iconst dX12_readAlmanac_17 (by decide) ?_
    intro v316 h317
    refine q_callVv hE (M' := mX12_begins) (as := [_, _]) dX12_readAlmanac_18 lk12_268 inX12_begins seX12_begins myX12_begins (by decide) ⟨by decide, by decide⟩ rfl (kR15 hS301.1 ta0) (Nat.le_of_ble_eq_true rfl) rfl rfl (by decide) (by decide) (k_X12_begins hS301.1 ta0 ⟨_, d2⟩) ?_
    rintro cn' K' N' I318 R319 L320 ⟨rfl, rfl, rfl, rfl, g321, p323, w324, -⟩
    have hS325 := hS301.tr g321 (by decide +kernel) (by decide +kernel)
    have c326 : I318 a1 9 = v57 := (g321.cell ta1 (by decide +kernel)).trans c306
    obtain ⟨v327, c328⟩ : ∃ v, I318 a0 9 = v := ⟨_, rfl⟩
    have b329 := iv15_9 hS325.1 ta0 c328
    have gd330 : Gd (I318 a0 9) (v314.toInt ≠ v316.toInt) := p323
    clear p323
    have ov331 := w324.over (by rw [c308]; omega)
    obtain ⟨v332, c333⟩ : ∃ v, I318 a0 9 = v := ⟨_, rfl⟩
    have b334 := iv15_9 hS325.1 ta0 c333
    obtain ⟨v335, c336⟩ : ∃ v, I318 a0 13 = v := ⟨_, rfl⟩
    obtain ⟨v337, c338⟩ : ∃ v, I318 a0 14 = v := ⟨_, rfl⟩
    (try rw [c333] at ov331)
    (try rw [c336] at ov331)
    (try rw [c338] at ov331)
    (try rw [c308] at ov331)
    (try rw [c311] at ov331)
    (try rw [c313] at ov331)
    refine tr_aload_n dX12_readAlmanac_21 rfl ?_
    refine tr_aload_n dX12_readAlmanac_22 rfl ?_
    refine tr_getR dX12_readAlmanac_23 fl12_188 (kR15 hS325.1 ta0) d2 ?_
    obtain ⟨a339, d340, ta339⟩ := rf14_16 hW0 ta1
    refine tr_getR dX12_readAlmanac_26 fl12_306 (kR14 hS325.1 ta1) d340 ?_
    refine q_iconst dX12_readAlmanac_29 (by decide) ?_
    intro v341 h342
    refine q_bipush dX12_readAlmanac_30 (by decide +kernel) ?_
    intro v343 h344
    refine q_callVi hE (M' := mX12_readRising) (as := [_, _, _]) dX12_readAlmanac_32 lk12_308 inX12_readRising seX12_readRising myX12_readRising (by decide) ⟨by decide, by decide⟩ rfl (kR15 hS325.1 ta0) (Nat.le_of_ble_eq_true rfl) rfl rfl (by decide) (by decide) (k_X12_readRising_1 hS325.1 ta0 ta339 (by omega) (by omega) ⟨_, d2⟩) ?_
    rintro v349 cn' K' N' I345 R346 L347 ⟨rfl, rfl, rfl, rfl, g348, h350, w351, -⟩
    have hS352 := hS325.tr g348 (by decide +kernel) (by decide +kernel)
    have c353 : I345 a1 9 = v57 := (g348.cell ta1 (by decide +kernel)).trans c326
    have ov354 := w351.over (by rw [c333]; omega)
    obtain ⟨v355, c356⟩ : ∃ v, I345 a0 9 = v := ⟨_, rfl⟩
    have b357 := iv15_9 hS352.1 ta0 c356
    obtain ⟨v358, c359⟩ : ∃ v, I345 a0 13 = v := ⟨_, rfl⟩
    obtain ⟨v360, c361⟩ : ∃ v, I345 a0 14 = v := ⟨_, rfl⟩
    (try rw [c356] at ov354)
    (try rw [c359] at ov354)
    (try rw [c361] at ov354)
    (try rw [c333] at ov354)
    (try rw [c336] at ov354)
    (try rw [c338] at ov354)
    refine tr_istore_n dX12_readAlmanac_35 (by decide) (by decide) ?_
    refine tr_aload_n dX12_readAlmanac_36 rfl ?_
    refine q_getI dX12_readAlmanac_37 fl12_99 (kR15 hS352.1 ta0) c356 ?_
    refine q_iconst dX12_readAlmanac_40 (by decide) ?_
    intro v362 h363
    refine q_icmp_ne 45 dX12_readAlmanac_41 (by decide) (fun h364 => ?_) (fun h364 => ?_)
    · skip
      exfalso; omega
    · skip
      have eF := hF.eq
      have eP := hP.eq
      obtain ⟨v365, c366⟩ : ∃ v, I345 a0 10 = v := ⟨_, rfl⟩
      have b367 := iv15_10 hS352.1 ta0 c366
      obtain ⟨v368, c369⟩ : ∃ v, I345 a0 11 = v := ⟨_, rfl⟩
      obtain ⟨y370, c371⟩ : ∃ v, L347 a0 15 = v := ⟨_, rfl⟩
      obtain ⟨v372, c373⟩ : ∃ v, I345 a0 12 = v := ⟨_, rfl⟩
      obtain ⟨v374, c375⟩ : ∃ v, I345 a0 8 = v := ⟨_, rfl⟩
      have b376 := iv15_8 hS352.1 ta0 c375
      exact tr_vret hZ dX12_readAlmanac_44 rfl (by decide) (by decide) ⟨rfl, rfl, rfl, rfl, rfl, hS352, (Or.inr (⟨(by first | done | omega), (by (try rw [c356]); first | done | omega), (by (try rw [c359]); first | done | omega), (by (try rw [c361]); first | done | omega), trivial⟩)), trivial⟩
def wik_X12_readRising_1 : List Nat := [968, 969, 970, 971, 972, 973, 974, 3967]
def wrk_X12_readRising_1 : List Nat := []
def wlk_X12_readRising_1 : List Nat := [975]
set_option maxHeartbeats 4000000 in
theorem fk_X12_readRising_1 {l : Launch} {T : Nat → Nat} {cn : Nat} {K N : Nat → Nat} {I0 : cz_I} {R0 : cz_R} {L0 : cz_L} (hW0 : Wf T cn K N I0 R0 0) (gB : cz_B) (gs : Int) (gQ : Nat → Int) {a0 : Nat} (ta0 : T a0 = 15) {a1 : Nat} (ta1 : T a1 = 61) {x2 : Int32} (hx2 : 0 ≤ x2.toInt ∧ x2.toInt ≤ 32) {x3 : Int32} (hx3 : 8 ≤ x3.toInt ∧ x3.toInt ≤ 8) (hT : ∀ t, R0 a0 5 = some t → Tx I0 t gB) (pre0 : (I0 a0 9).toInt = (tkM gB gs)) (pre1 : (I0 a0 9).toInt ≤ 4) (pre2 : (I0 a0 10).toInt = (tkS gB gs)) (pre3 : (I0 a0 11).toInt = (tkG gB gs)) (pre4 : (AtW ((tkK gB gs)) ((L0 a0 15).toInt) ((tkW gB gs)))) (pre5 : (AtV ((tkK gB gs)) ((I0 a0 12).toInt) ((tkV gB gs)))) (pre6 : (AtN ((tkK gB gs)) ((I0 a0 8).toInt) ((tkN gB gs)))) (pre7 : (I0 a0 7).toInt = (gB.2)) (pre8 : ∀ b1, R0 a0 4 = some b1 → (I0 b1 0).toInt = (gQ 0)) (pre9 : (gQ 0) ≥ 1) (pre10 : x2.toInt ≤ 24) (nn4 : ∃ b, R0 a0 4 = some b) : ConE l mX12_readRising [.ref a0, .ref a1, .int x2, .int x3] cn K N I0 R0 L0 (ca_i (fun v cn' K' N' I' R' L' => cn = cn' ∧ K = K' ∧ N = N' ∧ R0 = R' ∧ St T cn K N 0 wik_X12_readRising_1 wrk_X12_readRising_1 I0 R0 I' R0 ∧ (0 ≤ v.toInt ∧ v.toInt ≤ 8) ∧ ((((riF gB gQ 8 0 gs) = 0) ∧ ((I' a0 13).toInt = (I0 a0 13).toInt) ∧ ((I' a0 9).toInt = (tkM gB (riS gB gQ 8 0 gs))) ∧ ((I' a0 9).toInt ≤ 4) ∧ ((I' a0 10).toInt = (tkS gB (riS gB gQ 8 0 gs))) ∧ ((I' a0 11).toInt = (tkG gB (riS gB gQ 8 0 gs))) ∧ ((AtW ((tkK gB (riS gB gQ 8 0 gs))) ((L' a0 15).toInt) ((tkW gB (riS gB gQ 8 0 gs))))) ∧ ((AtV ((tkK gB (riS gB gQ 8 0 gs))) ((I' a0 12).toInt) ((tkV gB (riS gB gQ 8 0 gs))))) ∧ ((AtN ((tkK gB (riS gB gQ 8 0 gs))) ((I' a0 8).toInt) ((tkN gB (riS gB gQ 8 0 gs))))) ∧ LgS T wlk_X12_readRising_1 L0 L' ∧ True) ∨ (((riF gB gQ 8 0 gs) ≠ 0) ∧ ((I' a0 9).toInt = 5) ∧ ((I' a0 13).toInt = (riF gB gQ 8 0 gs)) ∧ ((I' a0 14).toInt = (riP gB gQ 8 0 gs)) ∧ True)) ∧ True)) := by
  refine ConE.of (by decide +kernel) rfl (Nat.le_of_ble_eq_true rfl) rfl (fun X hX hZ hE => ?_)
  subst hX
  have hS0 : St T cn K N 0 wik_X12_readRising_1 wrk_X12_readRising_1 I0 R0 I0 R0 := St.rf0 hW0
  have hL0 : LgS T wlk_X12_readRising_1 L0 L0 := LgS.rf0
  obtain ⟨a11, d12⟩ := nn4
  have ta11 : T a11 = 14 := hW0.rsN ta0 rfl d12
  obtain ⟨v13, c14⟩ : ∃ v, I0 a0 9 = v := ⟨_, rfl⟩
  have b15 := iv15_9 hS0.1 ta0 c14
  have p16 := pre0
  rw [c14] at p16
  have p17 := pre1
  rw [c14] at p17
  obtain ⟨v18, c19⟩ : ∃ v, I0 a0 10 = v := ⟨_, rfl⟩
  have b20 := iv15_10 hS0.1 ta0 c19
  have p21 := pre2
  rw [c19] at p21
  obtain ⟨v22, c23⟩ : ∃ v, I0 a0 11 = v := ⟨_, rfl⟩
  have p24 := pre3
  rw [c23] at p24
  obtain ⟨y25, c26⟩ : ∃ v, L0 a0 15 = v := ⟨_, rfl⟩
  have p27 := pre4
  rw [c26] at p27
  obtain ⟨v28, c29⟩ : ∃ v, I0 a0 12 = v := ⟨_, rfl⟩
  have p30 := pre5
  rw [c29] at p30
  obtain ⟨v31, c32⟩ : ∃ v, I0 a0 8 = v := ⟨_, rfl⟩
  have b33 := iv15_8 hS0.1 ta0 c32
  have p34 := pre6
  rw [c32] at p34
  obtain ⟨v35, c36⟩ : ∃ v, I0 a0 7 = v := ⟨_, rfl⟩
  have b37 := iv15_7 hW0 ta0 c36
  have p38 := pre7
  rw [c36] at p38
  obtain ⟨v39, c40⟩ : ∃ v, I0 a11 0 = v := ⟨_, rfl⟩
  have b41 := iv14_0 hW0 ta11 c40
  have p42 := pre8 _ d12
  rw [c40] at p42
  have p43 := pre9
  have p44 := pre10
  obtain ⟨v45, c46⟩ : ∃ v, I0 a0 13 = v := ⟨_, rfl⟩
  refine q_iconst dX12_readRising_0 (by decide) ?_
  intro v47 h48
  refine tr_istore dX12_readRising_1 (by decide) (by decide) ?_
  refine q_iconst dX12_readRising_3 (by decide) ?_
  intro v49 h50
  refine tr_istore dX12_readRising_4 (by decide) (by decide) ?_
  refine q_iconst dX12_readRising_6 (by decide) ?_
  intro v51 h52
  refine tr_istore dX12_readRising_7 (by decide) (by decide) ?_
  have lp100 : ∀ (fu : Nat) (ls : Nat → Option Value) (v53 : Int32) (v54 : Int32) (v55 : Int32) (I63 : cz_I) (L64 : cz_L) (gs65 : Int) (gr66 : Nat) (v69 : Int32) (v71 : Int32) (v73 : Int32) (v75 : Int32) (y77 : Int64) (v79 : Int32) (v81 : Int32), ls 0 = some (.ref a0) → ls 1 = some (.ref a1) → ls 2 = some (.int x2) → ls 3 = some (.int x3) → ls 4 = some (.int v53) → ls 5 = some (.int v54) → ls 6 = some (.int v55) → St T cn K N 0 wik_X12_readRising_1 wrk_X12_readRising_1 I0 R0 I63 R0 → LgS T wlk_X12_readRising_1 L0 L64 → I63 a0 13 = v69 → I63 a0 9 = v71 → I63 a0 10 = v73 → I63 a0 11 = v75 → L64 a0 15 = y77 → I63 a0 12 = v79 → I63 a0 8 = v81 → (riF gB gQ gr66 v54.toInt gs65) = (riF gB gQ 8 0 gs) → (riP gB gQ gr66 v54.toInt gs65) = (riP gB gQ 8 0 gs) → (riS gB gQ gr66 v54.toInt gs65) = (riS gB gQ 8 0 gs) → v55.toInt = 1 → 0 ≤ v54.toInt → v54.toInt ≤ 240 → 0 ≤ v53.toInt → v53.toInt ≤ 8 → ((gr66 : Int)) = -v53.toInt + 8 → v69.toInt = v45.toInt → v71.toInt = (tkM gB gs65) → v71.toInt ≤ 4 → v73.toInt = (tkS gB gs65) → v75.toInt = (tkG gB gs65) → (AtW ((tkK gB gs65)) (y77.toInt) ((tkW gB gs65))) → (AtV ((tkK gB gs65)) (v79.toInt) ((tkV gB gs65))) → (AtN ((tkK gB gs65)) (v81.toInt) ((tkN gB gs65))) → (-v53.toInt + 9).toNat < fu → Tr X mX12_readRising 9 ls [] cn K N I63 R0 L64 0 0 := by
    intro fu
    induction fu with
    | zero => intros; rename_i hz; exact absurd hz (Nat.not_lt_zero _)
    | succ fu ih100 =>
      intro ls v53 v54 v55 I63 L64 gs65 gr66 v69 v71 v73 v75 y77 v79 v81 hl56 hl57 hl58 hl59 hl60 hl61 hl62 hS67 hL68 c70 c72 c74 c76 c78 c80 c82 g83 g84 g85 g86 g87 g88 g89 g90 g91 g92 g93 g94 g95 g96 g97 g98 g99 hm100
      have b102 := iv15_9 hS67.1 ta0 c72
      have b103 := iv15_10 hS67.1 ta0 c74
      have b104 := iv15_8 hS67.1 ta0 c82
      rcases Nat.eq_zero_or_pos gr66 with hz105 | hz105
      · skip
        subst hz105
        refine tr_iload dX12_readRising_9 hl62 ?_
        refine q_if_eq 92 dX12_readRising_11 (by decide) (fun h107 => ?_) (fun h107 => ?_)
        · skip
          exfalso; omega
        · skip
          refine tr_aload_n dX12_readRising_14 hl56 ?_
          refine q_getI dX12_readRising_15 fl12_99 (kR15 hS67.1 ta0) c72 ?_
          refine q_iconst dX12_readRising_18 (by decide) ?_
          intro v108 h109
          refine q_icmp_eq 92 dX12_readRising_19 (by decide) (fun h110 => ?_) (fun h110 => ?_)
          · skip
            exfalso; omega
          · skip
            refine tr_aload_n dX12_readRising_22 hl56 ?_
            refine tr_iload dX12_readRising_23 hl61 ?_
            refine tr_aload_n dX12_readRising_25 hl56 ?_
            refine tr_getR dX12_readRising_26 fl12_188 (kR15 hS67.1 ta0) d12 ?_
            refine q_getI dX12_readRising_29 fl12_192 (kR14 hS67.1 ta11) ((hS67.cell ta11 (by decide +kernel)).trans c40) ?_
            refine q_iconst dX12_readRising_32 (by decide) ?_
            intro v111 h112
            refine q_isubE dX12_readRising_33 (by intros; omega) ?_
            intro v113 h114
            refine q_callVi hE (M' := mX12_bounded) (as := [_, _]) dX12_readRising_34 lk12_153 inX12_bounded seX12_bounded myX12_bounded (by decide) ⟨by decide, by decide⟩ rfl (kR15 hS67.1 ta0) (Nat.le_of_ble_eq_true rfl) rfl rfl (by decide) (by decide) (fk_X12_bounded hS67.1 (gB) (gs65) ta0 (by (try rw [c72]); first | done | omega) (by (try rw [c72]); first | done | omega) (by (try rw [c74]); first | done | omega) (by (try rw [c76]); first | done | omega) (by (try rw [c78]); first | done | assumption) (by (try rw [c80]); first | done | assumption) (by (try rw [c82]); first | done | assumption)) ?_
            rintro v120 cn' K' N' I115 R116 L117 ⟨rfl, rfl, rfl, rfl, rfl, g118, dj121, -⟩
            have hS122 := hS67.tr g118 (by decide +kernel) (by decide +kernel)
            have c123 : I115 a0 10 = v73 := (g118.cell ta0 (by decide +kernel)).trans c74
            have c124 : I115 a0 11 = v75 := (g118.cell ta0 (by decide +kernel)).trans c76
            have c125 : I115 a0 12 = v79 := (g118.cell ta0 (by decide +kernel)).trans c80
            have c126 : I115 a0 8 = v81 := (g118.cell ta0 (by decide +kernel)).trans c82
            rcases dj121 with ⟨p127, p128, p129, p130, p131, p132, p133, p134, p135, p136, p137, p138, -⟩ | ⟨p139, p140, p141, p142, p143, -⟩ | ⟨p144, p145, p146, p147, p148, p149, -⟩
            · skip
              obtain ⟨v150, c151⟩ : ∃ v, I115 a0 13 = v := ⟨_, rfl⟩
              rw [c151] at p131
              rw [c70] at p131
              obtain ⟨v152, c153⟩ : ∃ v, I115 a0 9 = v := ⟨_, rfl⟩
              have b154 := iv15_9 hS122.1 ta0 c153
              rw [c153] at p132
              rw [c153] at p133
              rw [c123] at p134
              rw [c124] at p135
              rw [c78] at p136
              rw [c125] at p137
              rw [c126] at p138
              refine tr_istore dX12_readRising_37 (by decide) (by decide) ?_
              refine tr_iload dX12_readRising_39 hl60 ?_
              refine tr_iload_n dX12_readRising_41 hl59 ?_
              refine q_icmp_ne 50 dX12_readRising_42 (by decide) (fun h155 => ?_) (fun h155 => ?_)
              · skip
                exfalso; omega
              · skip
                refine tr_aload_n dX12_readRising_45 hl56 ?_
                refine q_iconst dX12_readRising_46 (by decide) ?_
                intro v156 h157
                refine q_callVv hE (M' := mX12_flaw) (as := [_]) dX12_readRising_47 lk12_145 inX12_flaw seX12_flaw myX12_flaw (by decide) ⟨by decide, by decide⟩ rfl (kR15 hS122.1 ta0) (Nat.le_of_ble_eq_true rfl) rfl rfl (by decide) (by decide) (fk_X12_flaw hS122.1  ta0 (by omega) (by (try rw [c153]); first | done | omega)) ?_
                rintro cn' K' N' I158 R159 L160 ⟨rfl, rfl, rfl, rfl, rfl, g161, p164, p165, p166, -⟩
                have hS167 := hS122.tr g161 (by decide +kernel) (by decide +kernel)
                have c168 : I158 a0 10 = v73 := (g161.cell ta0 (by decide +kernel)).trans c123
                have c169 : I158 a0 11 = v75 := (g161.cell ta0 (by decide +kernel)).trans c124
                have c170 : I158 a0 12 = v79 := (g161.cell ta0 (by decide +kernel)).trans c125
                have c171 : I158 a0 8 = v81 := (g161.cell ta0 (by decide +kernel)).trans c126
                obtain ⟨v172, c173⟩ : ∃ v, I158 a0 9 = v := ⟨_, rfl⟩
                have b174 := iv15_9 hS167.1 ta0 c173
                rw [c173] at p164
                obtain ⟨v175, c176⟩ : ∃ v, I158 a0 13 = v := ⟨_, rfl⟩
                rw [c176] at p165
                obtain ⟨v177, c178⟩ : ∃ v, I158 a0 14 = v := ⟨_, rfl⟩
                rw [c178] at p166
                rw [c123] at p166
                refine tr_aload_n dX12_readRising_50 hl56 ?_
                refine q_callVv hE (M' := mX12_goesOn) (as := []) dX12_readRising_51 lk12_142 inX12_goesOn seX12_goesOn myX12_goesOn (by decide) ⟨by decide, by decide⟩ rfl (kR15 hS167.1 ta0) (Nat.le_of_ble_eq_true rfl) rfl rfl (by decide) (by decide) (k_X12_goesOn hS167.1 ta0) ?_
                rintro cn' K' N' I179 R180 L181 ⟨rfl, rfl, rfl, rfl, g182, p184, p185, p186, w187, -⟩
                have hS188 := hS167.tr g182 (by decide +kernel) (by decide +kernel)
                have c189 : I179 a0 13 = v175 := (g182.cell ta0 (by decide +kernel)).trans c176
                have c190 : I179 a0 14 = v177 := (g182.cell ta0 (by decide +kernel)).trans c178
                obtain ⟨v191, c192⟩ : ∃ v, I179 a0 9 = v := ⟨_, rfl⟩
                have b193 := iv15_9 hS188.1 ta0 c192
                rw [c173] at p184
                rw [c192] at p184
                rw [c173] at p185
                rw [c192] at p185
                obtain ⟨v194, c195⟩ : ∃ v, I179 a0 8 = v := ⟨_, rfl⟩
                have b196 := iv15_8 hS188.1 ta0 c195
                rw [c195] at p186
                rw [c171] at p186
                rw [c189] at p186
                rw [c176] at p186
                have ov197 := w187.over (by rw [c173]; omega)
                obtain ⟨v198, c199⟩ : ∃ v, I179 a0 9 = v := ⟨_, rfl⟩
                have b200 := iv15_9 hS188.1 ta0 c199
                obtain ⟨v201, c202⟩ : ∃ v, I179 a0 13 = v := ⟨_, rfl⟩
                obtain ⟨v203, c204⟩ : ∃ v, I179 a0 14 = v := ⟨_, rfl⟩
                (try rw [c199] at ov197)
                (try rw [c202] at ov197)
                (try rw [c204] at ov197)
                (try rw [c173] at ov197)
                (try rw [c176] at ov197)
                (try rw [c178] at ov197)
                refine tr_aload_n dX12_readRising_54 hl56 ?_
                refine q_getI dX12_readRising_55 fl12_99 (kR15 hS188.1 ta0) c199 ?_
                refine q_iconst dX12_readRising_58 (by decide) ?_
                intro v205 h206
                refine q_icmp_ne 64 dX12_readRising_59 (by decide) (fun h207 => ?_) (fun h207 => ?_)
                · skip
                  exfalso; omega
                · skip
                  refine q_iconst dX12_readRising_62 (by decide) ?_
                  intro v208 h209
                  obtain ⟨v210, c211⟩ : ∃ v, I179 a0 10 = v := ⟨_, rfl⟩
                  have b212 := iv15_10 hS188.1 ta0 c211
                  obtain ⟨v213, c214⟩ : ∃ v, I179 a0 11 = v := ⟨_, rfl⟩
                  obtain ⟨y215, c216⟩ : ∃ v, L181 a0 15 = v := ⟨_, rfl⟩
                  obtain ⟨v217, c218⟩ : ∃ v, I179 a0 12 = v := ⟨_, rfl⟩
                  exact tr_iret hZ dX12_readRising_63 rfl (by decide) (by decide) ⟨v208, rfl, rfl, rfl, rfl, rfl, hS188, (by omega), (Or.inr (⟨(by rw [← g83]; simp only [riF, ↓reduceIte]; repeat' (first | split | omega)), (by (try rw [c199]); first | done | omega), (by (try rw [c202]); rw [← g83]; simp only [riF, ↓reduceIte]; repeat' (first | split | omega)), (by (try rw [c204]); rw [← g84]; simp only [riP, ↓reduceIte]; repeat' (first | split | omega)), trivial⟩)), trivial⟩
            · skip
              obtain ⟨v219, c220⟩ : ∃ v, I115 a0 9 = v := ⟨_, rfl⟩
              have b221 := iv15_9 hS122.1 ta0 c220
              rw [c220] at p141
              obtain ⟨v222, c223⟩ : ∃ v, I115 a0 13 = v := ⟨_, rfl⟩
              rw [c223] at p142
              obtain ⟨v224, c225⟩ : ∃ v, I115 a0 14 = v := ⟨_, rfl⟩
              rw [c225] at p143
              refine tr_istore dX12_readRising_37 (by decide) (by decide) ?_
              refine tr_iload dX12_readRising_39 hl60 ?_
              refine tr_iload_n dX12_readRising_41 hl59 ?_
              refine q_icmp_ne 50 dX12_readRising_42 (by decide) (fun h226 => ?_) (fun h226 => ?_)
              · skip
                exfalso; omega
              · skip
                refine tr_aload_n dX12_readRising_45 hl56 ?_
                refine q_iconst dX12_readRising_46 (by decide) ?_
                intro v227 h228
                refine q_callVv hE (M' := mX12_flaw) (as := [_]) dX12_readRising_47 lk12_145 inX12_flaw seX12_flaw myX12_flaw (by decide) ⟨by decide, by decide⟩ rfl (kR15 hS122.1 ta0) (Nat.le_of_ble_eq_true rfl) rfl rfl (by decide) (by decide) (k_X12_flaw hS122.1 ta0 (by omega)) ?_
                rintro cn' K' N' I229 R230 L231 ⟨rfl, rfl, rfl, rfl, rfl, g232, p234, p235, w236, -⟩
                have hS237 := hS122.tr g232 (by decide +kernel) (by decide +kernel)
                have c238 : I229 a0 10 = v73 := (g232.cell ta0 (by decide +kernel)).trans c123
                have c239 : I229 a0 11 = v75 := (g232.cell ta0 (by decide +kernel)).trans c124
                have c240 : I229 a0 12 = v79 := (g232.cell ta0 (by decide +kernel)).trans c125
                have c241 : I229 a0 8 = v81 := (g232.cell ta0 (by decide +kernel)).trans c126
                obtain ⟨v242, c243⟩ : ∃ v, I229 a0 9 = v := ⟨_, rfl⟩
                have b244 := iv15_9 hS237.1 ta0 c243
                rw [c243] at p234
                rw [c241] at p235
                rw [c126] at p235
                have ov245 := w236.over (by rw [c220]; omega)
                obtain ⟨v246, c247⟩ : ∃ v, I229 a0 9 = v := ⟨_, rfl⟩
                have b248 := iv15_9 hS237.1 ta0 c247
                obtain ⟨v249, c250⟩ : ∃ v, I229 a0 13 = v := ⟨_, rfl⟩
                obtain ⟨v251, c252⟩ : ∃ v, I229 a0 14 = v := ⟨_, rfl⟩
                (try rw [c247] at ov245)
                (try rw [c250] at ov245)
                (try rw [c252] at ov245)
                (try rw [c220] at ov245)
                (try rw [c223] at ov245)
                (try rw [c225] at ov245)
                refine tr_aload_n dX12_readRising_50 hl56 ?_
                refine q_callVv hE (M' := mX12_goesOn) (as := []) dX12_readRising_51 lk12_142 inX12_goesOn seX12_goesOn myX12_goesOn (by decide) ⟨by decide, by decide⟩ rfl (kR15 hS237.1 ta0) (Nat.le_of_ble_eq_true rfl) rfl rfl (by decide) (by decide) (k_X12_goesOn hS237.1 ta0) ?_
                rintro cn' K' N' I253 R254 L255 ⟨rfl, rfl, rfl, rfl, g256, p258, p259, p260, w261, -⟩
                have hS262 := hS237.tr g256 (by decide +kernel) (by decide +kernel)
                have c263 : I253 a0 13 = v249 := (g256.cell ta0 (by decide +kernel)).trans c250
                have c264 : I253 a0 14 = v251 := (g256.cell ta0 (by decide +kernel)).trans c252
                obtain ⟨v265, c266⟩ : ∃ v, I253 a0 9 = v := ⟨_, rfl⟩
                have b267 := iv15_9 hS262.1 ta0 c266
                rw [c247] at p258
                rw [c266] at p258
                rw [c247] at p259
                rw [c266] at p259
                obtain ⟨v268, c269⟩ : ∃ v, I253 a0 8 = v := ⟨_, rfl⟩
                have b270 := iv15_8 hS262.1 ta0 c269
                rw [c269] at p260
                rw [c241] at p260
                rw [c263] at p260
                rw [c250] at p260
                have ov271 := w261.over (by rw [c247]; omega)
                obtain ⟨v272, c273⟩ : ∃ v, I253 a0 9 = v := ⟨_, rfl⟩
                have b274 := iv15_9 hS262.1 ta0 c273
                obtain ⟨v275, c276⟩ : ∃ v, I253 a0 13 = v := ⟨_, rfl⟩
                obtain ⟨v277, c278⟩ : ∃ v, I253 a0 14 = v := ⟨_, rfl⟩
                (try rw [c273] at ov271)
                (try rw [c276] at ov271)
                (try rw [c278] at ov271)
                (try rw [c247] at ov271)
                (try rw [c250] at ov271)
                (try rw [c252] at ov271)
                refine tr_aload_n dX12_readRising_54 hl56 ?_
                refine q_getI dX12_readRising_55 fl12_99 (kR15 hS262.1 ta0) c273 ?_
                refine q_iconst dX12_readRising_58 (by decide) ?_
                intro v279 h280
                refine q_icmp_ne 64 dX12_readRising_59 (by decide) (fun h281 => ?_) (fun h281 => ?_)
                · skip
                  exfalso; omega
                · skip
                  refine q_iconst dX12_readRising_62 (by decide) ?_
                  intro v282 h283
                  obtain ⟨v284, c285⟩ : ∃ v, I253 a0 10 = v := ⟨_, rfl⟩
                  have b286 := iv15_10 hS262.1 ta0 c285
                  obtain ⟨v287, c288⟩ : ∃ v, I253 a0 11 = v := ⟨_, rfl⟩
                  obtain ⟨y289, c290⟩ : ∃ v, L255 a0 15 = v := ⟨_, rfl⟩
                  obtain ⟨v291, c292⟩ : ∃ v, I253 a0 12 = v := ⟨_, rfl⟩
                  exact tr_iret hZ dX12_readRising_63 rfl (by decide) (by decide) ⟨v282, rfl, rfl, rfl, rfl, rfl, hS262, (by omega), (Or.inr (⟨(by rw [← g83]; simp only [riF, ↓reduceIte]; repeat' (first | split | omega)), (by (try rw [c273]); first | done | omega), (by (try rw [c276]); rw [← g83]; simp only [riF, ↓reduceIte]; repeat' (first | split | omega)), (by (try rw [c278]); rw [← g84]; simp only [riP, ↓reduceIte]; repeat' (first | split | omega)), trivial⟩)), trivial⟩
            · skip
              obtain ⟨v293, c294⟩ : ∃ v, I115 a0 9 = v := ⟨_, rfl⟩
              have b295 := iv15_9 hS122.1 ta0 c294
              rw [c294] at p147
              obtain ⟨v296, c297⟩ : ∃ v, I115 a0 13 = v := ⟨_, rfl⟩
              rw [c297] at p148
              obtain ⟨v298, c299⟩ : ∃ v, I115 a0 14 = v := ⟨_, rfl⟩
              rw [c299] at p149
              refine tr_istore dX12_readRising_37 (by decide) (by decide) ?_
              refine tr_iload dX12_readRising_39 hl60 ?_
              refine tr_iload_n dX12_readRising_41 hl59 ?_
              refine q_icmp_ne 50 dX12_readRising_42 (by decide) (fun h300 => ?_) (fun h300 => ?_)
              · skip
                exfalso; omega
              · skip
                refine tr_aload_n dX12_readRising_45 hl56 ?_
                refine q_iconst dX12_readRising_46 (by decide) ?_
                intro v301 h302
                refine q_callVv hE (M' := mX12_flaw) (as := [_]) dX12_readRising_47 lk12_145 inX12_flaw seX12_flaw myX12_flaw (by decide) ⟨by decide, by decide⟩ rfl (kR15 hS122.1 ta0) (Nat.le_of_ble_eq_true rfl) rfl rfl (by decide) (by decide) (k_X12_flaw hS122.1 ta0 (by omega)) ?_
                rintro cn' K' N' I303 R304 L305 ⟨rfl, rfl, rfl, rfl, rfl, g306, p308, p309, w310, -⟩
                have hS311 := hS122.tr g306 (by decide +kernel) (by decide +kernel)
                have c312 : I303 a0 10 = v73 := (g306.cell ta0 (by decide +kernel)).trans c123
                have c313 : I303 a0 11 = v75 := (g306.cell ta0 (by decide +kernel)).trans c124
                have c314 : I303 a0 12 = v79 := (g306.cell ta0 (by decide +kernel)).trans c125
                have c315 : I303 a0 8 = v81 := (g306.cell ta0 (by decide +kernel)).trans c126
                obtain ⟨v316, c317⟩ : ∃ v, I303 a0 9 = v := ⟨_, rfl⟩
                have b318 := iv15_9 hS311.1 ta0 c317
                rw [c317] at p308
                rw [c315] at p309
                rw [c126] at p309
                have ov319 := w310.over (by rw [c294]; omega)
                obtain ⟨v320, c321⟩ : ∃ v, I303 a0 9 = v := ⟨_, rfl⟩
                have b322 := iv15_9 hS311.1 ta0 c321
                obtain ⟨v323, c324⟩ : ∃ v, I303 a0 13 = v := ⟨_, rfl⟩
                obtain ⟨v325, c326⟩ : ∃ v, I303 a0 14 = v := ⟨_, rfl⟩
                (try rw [c321] at ov319)
                (try rw [c324] at ov319)
                (try rw [c326] at ov319)
                (try rw [c294] at ov319)
                (try rw [c297] at ov319)
                (try rw [c299] at ov319)
                refine tr_aload_n dX12_readRising_50 hl56 ?_
                refine q_callVv hE (M' := mX12_goesOn) (as := []) dX12_readRising_51 lk12_142 inX12_goesOn seX12_goesOn myX12_goesOn (by decide) ⟨by decide, by decide⟩ rfl (kR15 hS311.1 ta0) (Nat.le_of_ble_eq_true rfl) rfl rfl (by decide) (by decide) (k_X12_goesOn hS311.1 ta0) ?_
                rintro cn' K' N' I327 R328 L329 ⟨rfl, rfl, rfl, rfl, g330, p332, p333, p334, w335, -⟩
                have hS336 := hS311.tr g330 (by decide +kernel) (by decide +kernel)
                have c337 : I327 a0 13 = v323 := (g330.cell ta0 (by decide +kernel)).trans c324
                have c338 : I327 a0 14 = v325 := (g330.cell ta0 (by decide +kernel)).trans c326
                obtain ⟨v339, c340⟩ : ∃ v, I327 a0 9 = v := ⟨_, rfl⟩
                have b341 := iv15_9 hS336.1 ta0 c340
                rw [c321] at p332
                rw [c340] at p332
                rw [c321] at p333
                rw [c340] at p333
                obtain ⟨v342, c343⟩ : ∃ v, I327 a0 8 = v := ⟨_, rfl⟩
                have b344 := iv15_8 hS336.1 ta0 c343
                rw [c343] at p334
                rw [c315] at p334
                rw [c337] at p334
                rw [c324] at p334
                have ov345 := w335.over (by rw [c321]; omega)
                obtain ⟨v346, c347⟩ : ∃ v, I327 a0 9 = v := ⟨_, rfl⟩
                have b348 := iv15_9 hS336.1 ta0 c347
                obtain ⟨v349, c350⟩ : ∃ v, I327 a0 13 = v := ⟨_, rfl⟩
                obtain ⟨v351, c352⟩ : ∃ v, I327 a0 14 = v := ⟨_, rfl⟩
                (try rw [c347] at ov345)
                (try rw [c350] at ov345)
                (try rw [c352] at ov345)
                (try rw [c321] at ov345)
                (try rw [c324] at ov345)
                (try rw [c326] at ov345)
                refine tr_aload_n dX12_readRising_54 hl56 ?_
                refine q_getI dX12_readRising_55 fl12_99 (kR15 hS336.1 ta0) c347 ?_
                refine q_iconst dX12_readRising_58 (by decide) ?_
                intro v353 h354
                refine q_icmp_ne 64 dX12_readRising_59 (by decide) (fun h355 => ?_) (fun h355 => ?_)
                · skip
                  exfalso; omega
                · skip
                  refine q_iconst dX12_readRising_62 (by decide) ?_
                  intro v356 h357
                  obtain ⟨v358, c359⟩ : ∃ v, I327 a0 10 = v := ⟨_, rfl⟩
                  have b360 := iv15_10 hS336.1 ta0 c359
                  obtain ⟨v361, c362⟩ : ∃ v, I327 a0 11 = v := ⟨_, rfl⟩
                  obtain ⟨y363, c364⟩ : ∃ v, L329 a0 15 = v := ⟨_, rfl⟩
                  obtain ⟨v365, c366⟩ : ∃ v, I327 a0 12 = v := ⟨_, rfl⟩
                  exact tr_iret hZ dX12_readRising_63 rfl (by decide) (by decide) ⟨v356, rfl, rfl, rfl, rfl, rfl, hS336, (by omega), (Or.inr (⟨(by rw [← g83]; simp only [riF, ↓reduceIte]; repeat' (first | split | omega)), (by (try rw [c347]); first | done | omega), (by (try rw [c350]); rw [← g83]; simp only [riF, ↓reduceIte]; repeat' (first | split | omega)), (by (try rw [c352]); rw [← g84]; simp only [riP, ↓reduceIte]; repeat' (first | split | omega)), trivial⟩)), trivial⟩
      · skip
        obtain ⟨gk106, rfl⟩ : ∃ k, gr66 = k + 1 := ⟨gr66 - 1, by omega⟩
        refine tr_iload dX12_readRising_9 hl62 ?_
        refine q_if_eq 92 dX12_readRising_11 (by decide) (fun h367 => ?_) (fun h367 => ?_)
        · skip
          exfalso; omega
        · skip
          refine tr_aload_n dX12_readRising_14 hl56 ?_
          refine q_getI dX12_readRising_15 fl12_99 (kR15 hS67.1 ta0) c72 ?_
          refine q_iconst dX12_readRising_18 (by decide) ?_
          intro v368 h369
          refine q_icmp_eq 92 dX12_readRising_19 (by decide) (fun h370 => ?_) (fun h370 => ?_)
          · skip
            exfalso; omega
          · skip
            refine tr_aload_n dX12_readRising_22 hl56 ?_
            refine tr_iload dX12_readRising_23 hl61 ?_
            refine tr_aload_n dX12_readRising_25 hl56 ?_
            refine tr_getR dX12_readRising_26 fl12_188 (kR15 hS67.1 ta0) d12 ?_
            refine q_getI dX12_readRising_29 fl12_192 (kR14 hS67.1 ta11) ((hS67.cell ta11 (by decide +kernel)).trans c40) ?_
            refine q_iconst dX12_readRising_32 (by decide) ?_
            intro v371 h372
            refine q_isubE dX12_readRising_33 (by intros; omega) ?_
            intro v373 h374
            refine q_callVi hE (M' := mX12_bounded) (as := [_, _]) dX12_readRising_34 lk12_153 inX12_bounded seX12_bounded myX12_bounded (by decide) ⟨by decide, by decide⟩ rfl (kR15 hS67.1 ta0) (Nat.le_of_ble_eq_true rfl) rfl rfl (by decide) (by decide) (fk_X12_bounded hS67.1 (gB) (gs65) ta0 (by (try rw [c72]); first | done | omega) (by (try rw [c72]); first | done | omega) (by (try rw [c74]); first | done | omega) (by (try rw [c76]); first | done | omega) (by (try rw [c78]); first | done | assumption) (by (try rw [c80]); first | done | assumption) (by (try rw [c82]); first | done | assumption)) ?_
            rintro v380 cn' K' N' I375 R376 L377 ⟨rfl, rfl, rfl, rfl, rfl, g378, dj381, -⟩
            have hS382 := hS67.tr g378 (by decide +kernel) (by decide +kernel)
            have c383 : I375 a0 10 = v73 := (g378.cell ta0 (by decide +kernel)).trans c74
            have c384 : I375 a0 11 = v75 := (g378.cell ta0 (by decide +kernel)).trans c76
            have c385 : I375 a0 12 = v79 := (g378.cell ta0 (by decide +kernel)).trans c80
            have c386 : I375 a0 8 = v81 := (g378.cell ta0 (by decide +kernel)).trans c82
            rcases dj381 with ⟨p387, p388, p389, p390, p391, p392, p393, p394, p395, p396, p397, p398, -⟩ | ⟨p399, p400, p401, p402, p403, -⟩ | ⟨p404, p405, p406, p407, p408, p409, -⟩
            · skip
              obtain ⟨v410, c411⟩ : ∃ v, I375 a0 13 = v := ⟨_, rfl⟩
              rw [c411] at p391
              rw [c70] at p391
              obtain ⟨v412, c413⟩ : ∃ v, I375 a0 9 = v := ⟨_, rfl⟩
              have b414 := iv15_9 hS382.1 ta0 c413
              rw [c413] at p392
              rw [c413] at p393
              rw [c383] at p394
              rw [c384] at p395
              rw [c78] at p396
              rw [c385] at p397
              rw [c386] at p398
              refine tr_istore dX12_readRising_37 (by decide) (by decide) ?_
              refine tr_iload dX12_readRising_39 hl60 ?_
              refine tr_iload_n dX12_readRising_41 hl59 ?_
              refine q_icmp_ne 50 dX12_readRising_42 (by decide) (fun h415 => ?_) (fun h415 => ?_)
              · skip
                refine tr_aload_n dX12_readRising_50 hl56 ?_
                have p416 := p398 (by omega)
                refine q_callVv hE (M' := mX12_goesOn) (as := []) dX12_readRising_51 lk12_142 inX12_goesOn seX12_goesOn myX12_goesOn (by decide) ⟨by decide, by decide⟩ rfl (kR15 hS382.1 ta0) (Nat.le_of_ble_eq_true rfl) rfl rfl (by decide) (by decide) (fk_X12_goesOn hS382.1 (gB) ((tkN gB gs65)) ta0 (TxA.kp hT hS382 ta0 rfl rfl rfl (by decide +kernel) (by decide +kernel)) (by (try rw [c386]); first | done | omega) (by (try rw [((hS382.cell ta0 (by decide +kernel)).trans c36)]); first | done | omega) (by (try rw [c413]); first | done | omega)) ?_
                rintro cn' K' N' I417 R418 L419 ⟨rfl, rfl, rfl, rfl, g420, gl421, p423, p424, p425, p426, p427, p428, p429, -⟩
                have hS430 := hS382.tr g420 (by decide +kernel) (by decide +kernel)
                have c431 : I417 a0 13 = v410 := (g420.cell ta0 (by decide +kernel)).trans c411
                have hL432 := hL68.tr gl421 (by decide +kernel)
                obtain ⟨v433, c434⟩ : ∃ v, I417 a0 9 = v := ⟨_, rfl⟩
                have b435 := iv15_9 hS430.1 ta0 c434
                rw [c434] at p423
                rw [c434] at p424
                obtain ⟨v436, c437⟩ : ∃ v, I417 a0 10 = v := ⟨_, rfl⟩
                have b438 := iv15_10 hS430.1 ta0 c437
                rw [c437] at p425
                obtain ⟨v439, c440⟩ : ∃ v, I417 a0 11 = v := ⟨_, rfl⟩
                rw [c440] at p426
                obtain ⟨y441, c442⟩ : ∃ v, L419 a0 15 = v := ⟨_, rfl⟩
                rw [c442] at p427
                obtain ⟨v443, c444⟩ : ∃ v, I417 a0 12 = v := ⟨_, rfl⟩
                rw [c444] at p428
                obtain ⟨v445, c446⟩ : ∃ v, I417 a0 8 = v := ⟨_, rfl⟩
                have b447 := iv15_8 hS430.1 ta0 c446
                rw [c446] at p429
                refine tr_aload_n dX12_readRising_54 hl56 ?_
                refine q_getI dX12_readRising_55 fl12_99 (kR15 hS430.1 ta0) c434 ?_
                refine q_iconst dX12_readRising_58 (by decide) ?_
                intro v448 h449
                refine q_icmp_ne 64 dX12_readRising_59 (by decide) (fun h450 => ?_) (fun h450 => ?_)
                · skip
                  refine tr_aload_n dX12_readRising_64 hl57 ?_
                  refine tr_iload_n dX12_readRising_65 hl58 ?_
                  refine tr_iload dX12_readRising_66 hl60 ?_
                  refine q_iaddE dX12_readRising_68 (by intros; omega) ?_
                  intro v451 h452
                  refine tr_iload dX12_readRising_69 rfl ?_
                  refine q_iast dX12_readRising_71 (kR61 hS430.1 ta1) (ti_in (nR61 hS430.1 ta1) (by omega) (by omega)) hS430 ta1 (by show (0 : Int) ≤ v380.toInt ∧ v380.toInt ≤ (239 : Int); omega) rfl (by rfl) ?_
                  intro I453 hS454 e456 f455
                  have c457 : I453 a0 13 = v410 := (f455 _ _ (fun q => by have z := ta0; rw [q.1, ta1] at z; exact absurd z (by decide))).trans c431
                  have c458 : I453 a0 9 = v433 := (f455 _ _ (fun q => by have z := ta0; rw [q.1, ta1] at z; exact absurd z (by decide))).trans c434
                  have c459 : I453 a0 10 = v436 := (f455 _ _ (fun q => by have z := ta0; rw [q.1, ta1] at z; exact absurd z (by decide))).trans c437
                  have c460 : I453 a0 11 = v439 := (f455 _ _ (fun q => by have z := ta0; rw [q.1, ta1] at z; exact absurd z (by decide))).trans c440
                  have c461 : I453 a0 12 = v443 := (f455 _ _ (fun q => by have z := ta0; rw [q.1, ta1] at z; exact absurd z (by decide))).trans c444
                  have c462 : I453 a0 8 = v445 := (f455 _ _ (fun q => by have z := ta0; rw [q.1, ta1] at z; exact absurd z (by decide))).trans c446
                  refine q_iincE dX12_readRising_72 hl60 (by decide) (by decide) (by intros; omega) ?_
                  intro v463 h464
                  refine tr_iload dX12_readRising_75 rfl ?_
                  refine q_iconst dX12_readRising_77 (by decide) ?_
                  intro v465 h466
                  refine q_iaddE dX12_readRising_78 (by intros; omega) ?_
                  intro v467 h468
                  refine tr_istore dX12_readRising_79 (by decide) (by decide) ?_
                  refine tr_aload_n dX12_readRising_81 hl56 ?_
                  refine q_bipush dX12_readRising_82 (by decide +kernel) ?_
                  intro v469 h470
                  refine q_callVi hE (M' := mX12_eatsSign) (as := [_]) dX12_readRising_84 lk12_221 inX12_eatsSign seX12_eatsSign myX12_eatsSign (by decide) ⟨by decide, by decide⟩ rfl (kR15 hS454.1 ta0) (Nat.le_of_ble_eq_true rfl) rfl rfl (by decide) (by decide) (fk_X12_eatsSign hS454.1 (gB) ((tkN gB gs65)) ta0 (TxA.kp hT hS454 ta0 rfl rfl rfl (by decide +kernel) (by decide +kernel)) (by (try rw [c458]); first | done | omega) (by (try rw [c458]); first | done | omega) (by (try rw [c459]); first | done | omega) (by (try rw [c460]); first | done | omega) (by (try rw [c442]); first | done | assumption) (by (try rw [c461]); first | done | assumption) (by (try rw [c462]); first | done | assumption) (by (try rw [((hS454.cell ta0 (by decide +kernel)).trans c36)]); first | done | omega) (by first | done | omega)) ?_
                  rintro v476 cn' K' N' I471 R472 L473 ⟨rfl, rfl, rfl, rfl, g474, gl475, h477, dj478, -⟩
                  have hS479 := hS454.tr g474 (by decide +kernel) (by decide +kernel)
                  have c480 : I471 a0 13 = v410 := (g474.cell ta0 (by decide +kernel)).trans c457
                  have hL481 := hL432.tr gl475 (by decide +kernel)
                  rcases dj478 with ⟨p482, p483, p484, p485, p486, p487, p488, p489, p490, p491, -⟩ | ⟨p492, p493, p494, p495, p496, p497, p498, p499, p500, p501, -⟩
                  · skip
                    rw [c480] at p484
                    rw [c457] at p484
                    obtain ⟨v502, c503⟩ : ∃ v, I471 a0 9 = v := ⟨_, rfl⟩
                    have b504 := iv15_9 hS479.1 ta0 c503
                    rw [c503] at p485
                    rw [c503] at p486
                    obtain ⟨v505, c506⟩ : ∃ v, I471 a0 10 = v := ⟨_, rfl⟩
                    have b507 := iv15_10 hS479.1 ta0 c506
                    rw [c506] at p487
                    obtain ⟨v508, c509⟩ : ∃ v, I471 a0 11 = v := ⟨_, rfl⟩
                    rw [c509] at p488
                    obtain ⟨y510, c511⟩ : ∃ v, L473 a0 15 = v := ⟨_, rfl⟩
                    rw [c511] at p489
                    obtain ⟨v512, c513⟩ : ∃ v, I471 a0 12 = v := ⟨_, rfl⟩
                    rw [c513] at p490
                    obtain ⟨v514, c515⟩ : ∃ v, I471 a0 8 = v := ⟨_, rfl⟩
                    have b516 := iv15_8 hS479.1 ta0 c515
                    rw [c515] at p491
                    refine tr_istore dX12_readRising_87 (by decide) (by decide) ?_
                    refine tr_goto 9 dX12_readRising_89 (by decide) ?_
                    exact ih100 _ v463 v467 v476 I471 L473 ((tkN gB (tkN gB gs65))) (gk106) v410 v502 v505 v508 y510 v512 v514 hl56 hl57 hl58 hl59 rfl rfl rfl hS479 hL481 c480 c503 c506 c509 c511 c513 c515 (by rw [← g83]; simp only [riF, ↓reduceIte]; rw [show v467.toInt = tkV gB gs65 + 1 by omega]; repeat' (first | split | omega)) (by rw [← g84]; simp only [riP, ↓reduceIte]; rw [show v467.toInt = tkV gB gs65 + 1 by omega]; repeat' (first | split | omega)) (by rw [← g85]; simp only [riS, ↓reduceIte]; rw [show v467.toInt = tkV gB gs65 + 1 by omega]; repeat' (first | split | omega)) (by omega) (by omega) (by omega) (by omega) (by omega) (by omega) (by omega) (by omega) (by omega) (by omega) (by omega) (by assumption) (by assumption) (by assumption) (by omega)
                  · skip
                    rw [c480] at p494
                    rw [c457] at p494
                    obtain ⟨v517, c518⟩ : ∃ v, I471 a0 9 = v := ⟨_, rfl⟩
                    have b519 := iv15_9 hS479.1 ta0 c518
                    rw [c518] at p495
                    rw [c518] at p496
                    obtain ⟨v520, c521⟩ : ∃ v, I471 a0 10 = v := ⟨_, rfl⟩
                    have b522 := iv15_10 hS479.1 ta0 c521
                    rw [c521] at p497
                    obtain ⟨v523, c524⟩ : ∃ v, I471 a0 11 = v := ⟨_, rfl⟩
                    rw [c524] at p498
                    obtain ⟨y525, c526⟩ : ∃ v, L473 a0 15 = v := ⟨_, rfl⟩
                    rw [c526] at p499
                    obtain ⟨v527, c528⟩ : ∃ v, I471 a0 12 = v := ⟨_, rfl⟩
                    rw [c528] at p500
                    obtain ⟨v529, c530⟩ : ∃ v, I471 a0 8 = v := ⟨_, rfl⟩
                    have b531 := iv15_8 hS479.1 ta0 c530
                    rw [c530] at p501
                    refine tr_istore dX12_readRising_87 (by decide) (by decide) ?_
                    refine tr_goto 9 dX12_readRising_89 (by decide) ?_
                    refine tr_iload dX12_readRising_9 rfl ?_
                    refine q_if_eq 92 dX12_readRising_11 (by decide) (fun h532 => ?_) (fun h532 => ?_)
                    · skip
                      refine tr_iload dX12_readRising_92 rfl ?_
                      have es533 : riS gB gQ 8 0 gs = (tkN gB gs65) := by rw [← g85]; simp only [riS, ↓reduceIte]; repeat' (first | split | omega)
                      obtain ⟨v534, c535⟩ : ∃ v, I471 a0 14 = v := ⟨_, rfl⟩
                      exact tr_iret hZ dX12_readRising_94 rfl (by decide) (by decide) ⟨v463, rfl, rfl, rfl, rfl, rfl, hS479, (by omega), (Or.inl ⟨(by rw [← g83]; simp only [riF, ↓reduceIte]; repeat' (first | split | omega)), (by (try rw [es533]); (try rw [c480]); (try rw [c46]); first | done | omega), (by (try rw [es533]); (try rw [c518]); first | done | omega), (by (try rw [es533]); (try rw [c518]); first | done | omega), (by (try rw [es533]); (try rw [c521]); first | done | omega), (by (try rw [es533]); (try rw [c524]); first | done | omega), (by (try rw [es533]); (try rw [c526]); first | done | assumption), (by (try rw [es533]); (try rw [c528]); first | done | assumption), (by (try rw [es533]); (try rw [c530]); first | done | assumption), hL481, trivial⟩), trivial⟩
                    · skip
                      exfalso; omega
                · skip
                  exfalso; omega
              · skip
                exfalso; omega
            · skip
              obtain ⟨v536, c537⟩ : ∃ v, I375 a0 9 = v := ⟨_, rfl⟩
              have b538 := iv15_9 hS382.1 ta0 c537
              rw [c537] at p401
              obtain ⟨v539, c540⟩ : ∃ v, I375 a0 13 = v := ⟨_, rfl⟩
              rw [c540] at p402
              obtain ⟨v541, c542⟩ : ∃ v, I375 a0 14 = v := ⟨_, rfl⟩
              rw [c542] at p403
              refine tr_istore dX12_readRising_37 (by decide) (by decide) ?_
              refine tr_iload dX12_readRising_39 hl60 ?_
              refine tr_iload_n dX12_readRising_41 hl59 ?_
              refine q_icmp_ne 50 dX12_readRising_42 (by decide) (fun h543 => ?_) (fun h543 => ?_)
              · skip
                refine tr_aload_n dX12_readRising_50 hl56 ?_
                refine q_callVv hE (M' := mX12_goesOn) (as := []) dX12_readRising_51 lk12_142 inX12_goesOn seX12_goesOn myX12_goesOn (by decide) ⟨by decide, by decide⟩ rfl (kR15 hS382.1 ta0) (Nat.le_of_ble_eq_true rfl) rfl rfl (by decide) (by decide) (k_X12_goesOn hS382.1 ta0) ?_
                rintro cn' K' N' I544 R545 L546 ⟨rfl, rfl, rfl, rfl, g547, p549, p550, p551, w552, -⟩
                have hS553 := hS382.tr g547 (by decide +kernel) (by decide +kernel)
                have c554 : I544 a0 13 = v539 := (g547.cell ta0 (by decide +kernel)).trans c540
                have c555 : I544 a0 14 = v541 := (g547.cell ta0 (by decide +kernel)).trans c542
                obtain ⟨v556, c557⟩ : ∃ v, I544 a0 9 = v := ⟨_, rfl⟩
                have b558 := iv15_9 hS553.1 ta0 c557
                rw [c537] at p549
                rw [c557] at p549
                rw [c537] at p550
                rw [c557] at p550
                obtain ⟨v559, c560⟩ : ∃ v, I544 a0 8 = v := ⟨_, rfl⟩
                have b561 := iv15_8 hS553.1 ta0 c560
                rw [c560] at p551
                rw [c386] at p551
                rw [c554] at p551
                rw [c540] at p551
                have ov562 := w552.over (by rw [c537]; omega)
                obtain ⟨v563, c564⟩ : ∃ v, I544 a0 9 = v := ⟨_, rfl⟩
                have b565 := iv15_9 hS553.1 ta0 c564
                obtain ⟨v566, c567⟩ : ∃ v, I544 a0 13 = v := ⟨_, rfl⟩
                obtain ⟨v568, c569⟩ : ∃ v, I544 a0 14 = v := ⟨_, rfl⟩
                (try rw [c564] at ov562)
                (try rw [c567] at ov562)
                (try rw [c569] at ov562)
                (try rw [c537] at ov562)
                (try rw [c540] at ov562)
                (try rw [c542] at ov562)
                refine tr_aload_n dX12_readRising_54 hl56 ?_
                refine q_getI dX12_readRising_55 fl12_99 (kR15 hS553.1 ta0) c564 ?_
                refine q_iconst dX12_readRising_58 (by decide) ?_
                intro v570 h571
                refine q_icmp_ne 64 dX12_readRising_59 (by decide) (fun h572 => ?_) (fun h572 => ?_)
                · skip
                  exfalso; omega
                · skip
                  refine q_iconst dX12_readRising_62 (by decide) ?_
                  intro v573 h574
                  obtain ⟨v575, c576⟩ : ∃ v, I544 a0 10 = v := ⟨_, rfl⟩
                  have b577 := iv15_10 hS553.1 ta0 c576
                  obtain ⟨v578, c579⟩ : ∃ v, I544 a0 11 = v := ⟨_, rfl⟩
                  obtain ⟨y580, c581⟩ : ∃ v, L546 a0 15 = v := ⟨_, rfl⟩
                  obtain ⟨v582, c583⟩ : ∃ v, I544 a0 12 = v := ⟨_, rfl⟩
                  exact tr_iret hZ dX12_readRising_63 rfl (by decide) (by decide) ⟨v573, rfl, rfl, rfl, rfl, rfl, hS553, (by omega), (Or.inr (⟨(by rw [← g83]; simp only [riF, ↓reduceIte]; repeat' (first | split | omega)), (by (try rw [c564]); first | done | omega), (by (try rw [c567]); rw [← g83]; simp only [riF, ↓reduceIte]; repeat' (first | split | omega)), (by (try rw [c569]); rw [← g84]; simp only [riP, ↓reduceIte]; repeat' (first | split | omega)), trivial⟩)), trivial⟩
              · skip
                exfalso; omega
            · skip
              obtain ⟨v584, c585⟩ : ∃ v, I375 a0 9 = v := ⟨_, rfl⟩
              have b586 := iv15_9 hS382.1 ta0 c585
              rw [c585] at p407
              obtain ⟨v587, c588⟩ : ∃ v, I375 a0 13 = v := ⟨_, rfl⟩
              rw [c588] at p408
              obtain ⟨v589, c590⟩ : ∃ v, I375 a0 14 = v := ⟨_, rfl⟩
              rw [c590] at p409
              refine tr_istore dX12_readRising_37 (by decide) (by decide) ?_
              refine tr_iload dX12_readRising_39 hl60 ?_
              refine tr_iload_n dX12_readRising_41 hl59 ?_
              refine q_icmp_ne 50 dX12_readRising_42 (by decide) (fun h591 => ?_) (fun h591 => ?_)
              · skip
                refine tr_aload_n dX12_readRising_50 hl56 ?_
                refine q_callVv hE (M' := mX12_goesOn) (as := []) dX12_readRising_51 lk12_142 inX12_goesOn seX12_goesOn myX12_goesOn (by decide) ⟨by decide, by decide⟩ rfl (kR15 hS382.1 ta0) (Nat.le_of_ble_eq_true rfl) rfl rfl (by decide) (by decide) (k_X12_goesOn hS382.1 ta0) ?_
                rintro cn' K' N' I592 R593 L594 ⟨rfl, rfl, rfl, rfl, g595, p597, p598, p599, w600, -⟩
                have hS601 := hS382.tr g595 (by decide +kernel) (by decide +kernel)
                have c602 : I592 a0 13 = v587 := (g595.cell ta0 (by decide +kernel)).trans c588
                have c603 : I592 a0 14 = v589 := (g595.cell ta0 (by decide +kernel)).trans c590
                obtain ⟨v604, c605⟩ : ∃ v, I592 a0 9 = v := ⟨_, rfl⟩
                have b606 := iv15_9 hS601.1 ta0 c605
                rw [c585] at p597
                rw [c605] at p597
                rw [c585] at p598
                rw [c605] at p598
                obtain ⟨v607, c608⟩ : ∃ v, I592 a0 8 = v := ⟨_, rfl⟩
                have b609 := iv15_8 hS601.1 ta0 c608
                rw [c608] at p599
                rw [c386] at p599
                rw [c602] at p599
                rw [c588] at p599
                have ov610 := w600.over (by rw [c585]; omega)
                obtain ⟨v611, c612⟩ : ∃ v, I592 a0 9 = v := ⟨_, rfl⟩
                have b613 := iv15_9 hS601.1 ta0 c612
                obtain ⟨v614, c615⟩ : ∃ v, I592 a0 13 = v := ⟨_, rfl⟩
                obtain ⟨v616, c617⟩ : ∃ v, I592 a0 14 = v := ⟨_, rfl⟩
                (try rw [c612] at ov610)
                (try rw [c615] at ov610)
                (try rw [c617] at ov610)
                (try rw [c585] at ov610)
                (try rw [c588] at ov610)
                (try rw [c590] at ov610)
                refine tr_aload_n dX12_readRising_54 hl56 ?_
                refine q_getI dX12_readRising_55 fl12_99 (kR15 hS601.1 ta0) c612 ?_
                refine q_iconst dX12_readRising_58 (by decide) ?_
                intro v618 h619
                refine q_icmp_ne 64 dX12_readRising_59 (by decide) (fun h620 => ?_) (fun h620 => ?_)
                · skip
                  exfalso; omega
                · skip
                  refine q_iconst dX12_readRising_62 (by decide) ?_
                  intro v621 h622
                  obtain ⟨v623, c624⟩ : ∃ v, I592 a0 10 = v := ⟨_, rfl⟩
                  have b625 := iv15_10 hS601.1 ta0 c624
                  obtain ⟨v626, c627⟩ : ∃ v, I592 a0 11 = v := ⟨_, rfl⟩
                  obtain ⟨y628, c629⟩ : ∃ v, L594 a0 15 = v := ⟨_, rfl⟩
                  obtain ⟨v630, c631⟩ : ∃ v, I592 a0 12 = v := ⟨_, rfl⟩
                  exact tr_iret hZ dX12_readRising_63 rfl (by decide) (by decide) ⟨v621, rfl, rfl, rfl, rfl, rfl, hS601, (by omega), (Or.inr (⟨(by rw [← g83]; simp only [riF, ↓reduceIte]; repeat' (first | split | omega)), (by (try rw [c612]); first | done | omega), (by (try rw [c615]); rw [← g83]; simp only [riF, ↓reduceIte]; repeat' (first | split | omega)), (by (try rw [c617]); rw [← g84]; simp only [riP, ↓reduceIte]; repeat' (first | split | omega)), trivial⟩)), trivial⟩
              · skip
                exfalso; omega
  exact lp100 _ _ v47 v49 v51 I0 L0 (gs) (8) v45 v13 v18 v22 y25 v28 v31 rfl rfl rfl rfl rfl rfl rfl hS0 hL0 c46 c14 c19 c23 c26 c29 c32 (by first | rfl | (congr 1; omega) | (congr 2 <;> omega)) (by first | rfl | (congr 1; omega) | (congr 2 <;> omega)) (by first | rfl | (congr 1; omega) | (congr 2 <;> omega)) (by omega) (by omega) (by omega) (by omega) (by omega) (by omega) (by omega) (by omega) (by omega) (by omega) (by omega) (by assumption) (by assumption) (by assumption) (Nat.lt_succ_self _)
def wik_X12_readSlice : List Nat := [902, 968, 969, 970, 971, 972, 973, 974, 3903, 3967]
def wrk_X12_readSlice : List Nat := []
def wlk_X12_readSlice : List Nat := [975]
set_option maxHeartbeats 4000000 in
theorem fk_X12_readSlice {l : Launch} {T : Nat → Nat} {cn : Nat} {K N : Nat → Nat} {I0 : cz_I} {R0 : cz_R} {L0 : cz_L} (hW0 : Wf T cn K N I0 R0 0) (gB : cz_B) (gs : Int) (gQ : Nat → Int) {a0 : Nat} (ta0 : T a0 = 15) (hT : ∀ t, R0 a0 5 = some t → Tx I0 t gB) (hN : ∀ b, R0 a0 4 = some b → NmM I0 R0 L0 b gQ) (pre0 : (I0 a0 9).toInt = (tkM gB gs)) (pre1 : (I0 a0 9).toInt ≤ 4) (pre2 : (I0 a0 10).toInt = (tkS gB gs)) (pre3 : (I0 a0 11).toInt = (tkG gB gs)) (pre4 : (AtW ((tkK gB gs)) ((L0 a0 15).toInt) ((tkW gB gs)))) (pre5 : (AtV ((tkK gB gs)) ((I0 a0 12).toInt) ((tkV gB gs)))) (pre6 : (AtN ((tkK gB gs)) ((I0 a0 8).toInt) ((tkN gB gs)))) (pre7 : (I0 a0 7).toInt = (gB.2)) (pre8 : ∀ b1, R0 a0 4 = some b1 → (I0 b1 0).toInt = (gQ 0)) (pre9 : ∀ b1, R0 a0 4 = some b1 → (I0 b1 1).toInt = (gQ 1)) (pre10 : ∀ b1, R0 a0 4 = some b1 → (I0 b1 2).toInt = (gQ 2)) (pre11 : ∀ b1, R0 a0 4 = some b1 → (I0 b1 3).toInt = (gQ 3)) (pre12 : ∀ b1, R0 a0 4 = some b1 → (I0 b1 4).toInt = (gQ 4)) (pre13 : ∀ b1, R0 a0 4 = some b1 → (I0 b1 5).toInt = (gQ 5)) (pre14 : ∀ b1, R0 a0 4 = some b1 → (I0 b1 6).toInt = (gQ 6)) (pre15 : ∀ b1, R0 a0 4 = some b1 → (I0 b1 9).toInt = (gQ 8)) (pre16 : (Q7M ((gQ 0)) ((gQ 7)))) (pre17 : (tkK gB gs) = 1) (pre18 : (srt gB gs) = 9) (nn4 : ∃ b, R0 a0 4 = some b) : ConE l mX12_readSlice [.ref a0] cn K N I0 R0 L0 (ca_v (fun cn' K' N' I' R' L' => cn = cn' ∧ K = K' ∧ N = N' ∧ R0 = R' ∧ St T cn K N 0 wik_X12_readSlice wrk_X12_readSlice I0 R0 I' R0 ∧ ((((lnF gB gQ gs) = 0) ∧ (∀ b1, R0 a0 4 = some b1 → (I' b1 0).toInt = (lnQ gB gQ gs 0)) ∧ (∀ b1, R0 a0 4 = some b1 → (I' b1 1).toInt = (lnQ gB gQ gs 1)) ∧ (∀ b1, R0 a0 4 = some b1 → (I' b1 2).toInt = (lnQ gB gQ gs 2)) ∧ (∀ b1, R0 a0 4 = some b1 → (I' b1 3).toInt = (lnQ gB gQ gs 3)) ∧ (∀ b1, R0 a0 4 = some b1 → (I' b1 4).toInt = (lnQ gB gQ gs 4)) ∧ (∀ b1, R0 a0 4 = some b1 → (I' b1 5).toInt = (lnQ gB gQ gs 5)) ∧ (∀ b1, R0 a0 4 = some b1 → (I' b1 6).toInt = (lnQ gB gQ gs 6)) ∧ (∀ b1, R0 a0 4 = some b1 → (I' b1 9).toInt = (lnQ gB gQ gs 8)) ∧ ((I' a0 13).toInt = (I0 a0 13).toInt) ∧ ((I' a0 9).toInt = (tkM gB (lnS gB gQ gs))) ∧ ((I' a0 9).toInt ≤ 4) ∧ ((I' a0 10).toInt = (tkS gB (lnS gB gQ gs))) ∧ ((I' a0 11).toInt = (tkG gB (lnS gB gQ gs))) ∧ ((AtW ((tkK gB (lnS gB gQ gs))) ((L' a0 15).toInt) ((tkW gB (lnS gB gQ gs))))) ∧ ((AtV ((tkK gB (lnS gB gQ gs))) ((I' a0 12).toInt) ((tkV gB (lnS gB gQ gs))))) ∧ ((AtN ((tkK gB (lnS gB gQ gs))) ((I' a0 8).toInt) ((tkN gB (lnS gB gQ gs))))) ∧ LgS T wlk_X12_readSlice L0 L' ∧ (∀ b, R0 a0 4 = some b → NmM I' R0 L' b (lnQ gB gQ gs)) ∧ True) ∨ (((lnF gB gQ gs) ≠ 0) ∧ ((I' a0 9).toInt = 5) ∧ ((I' a0 13).toInt = (lnF gB gQ gs)) ∧ ((I' a0 14).toInt = (lnP gB gQ gs)) ∧ True)) ∧ True)) := by
  refine ConE.of (by decide +kernel) rfl (Nat.le_of_ble_eq_true rfl) rfl (fun X hX hZ hE => ?_)
  subst hX
  have hS0 : St T cn K N 0 wik_X12_readSlice wrk_X12_readSlice I0 R0 I0 R0 := St.rf0 hW0
  have hL0 : LgS T wlk_X12_readSlice L0 L0 := LgS.rf0
  obtain ⟨a1, d2⟩ := nn4
  have ta1 : T a1 = 14 := hW0.rsN ta0 rfl d2
  obtain ⟨v3, c4⟩ : ∃ v, I0 a0 9 = v := ⟨_, rfl⟩
  have b5 := iv15_9 hS0.1 ta0 c4
  have p6 := pre0
  rw [c4] at p6
  have p7 := pre1
  rw [c4] at p7
  obtain ⟨v8, c9⟩ : ∃ v, I0 a0 10 = v := ⟨_, rfl⟩
  have b10 := iv15_10 hS0.1 ta0 c9
  have p11 := pre2
  rw [c9] at p11
  obtain ⟨v12, c13⟩ : ∃ v, I0 a0 11 = v := ⟨_, rfl⟩
  have p14 := pre3
  rw [c13] at p14
  obtain ⟨y15, c16⟩ : ∃ v, L0 a0 15 = v := ⟨_, rfl⟩
  have p17 := pre4
  rw [c16] at p17
  obtain ⟨v18, c19⟩ : ∃ v, I0 a0 12 = v := ⟨_, rfl⟩
  have p20 := pre5
  rw [c19] at p20
  obtain ⟨v21, c22⟩ : ∃ v, I0 a0 8 = v := ⟨_, rfl⟩
  have b23 := iv15_8 hS0.1 ta0 c22
  have p24 := pre6
  rw [c22] at p24
  obtain ⟨v25, c26⟩ : ∃ v, I0 a0 7 = v := ⟨_, rfl⟩
  have b27 := iv15_7 hW0 ta0 c26
  have p28 := pre7
  rw [c26] at p28
  obtain ⟨v29, c30⟩ : ∃ v, I0 a1 0 = v := ⟨_, rfl⟩
  have b31 := iv14_0 hW0 ta1 c30
  have p32 := pre8 _ d2
  rw [c30] at p32
  obtain ⟨v33, c34⟩ : ∃ v, I0 a1 1 = v := ⟨_, rfl⟩
  have b35 := iv14_1 hW0 ta1 c34
  have p36 := pre9 _ d2
  rw [c34] at p36
  obtain ⟨v37, c38⟩ : ∃ v, I0 a1 2 = v := ⟨_, rfl⟩
  have b39 := iv14_2 hW0 ta1 c38
  have p40 := pre10 _ d2
  rw [c38] at p40
  obtain ⟨v41, c42⟩ : ∃ v, I0 a1 3 = v := ⟨_, rfl⟩
  have b43 := iv14_3 hW0 ta1 c42
  have p44 := pre11 _ d2
  rw [c42] at p44
  obtain ⟨v45, c46⟩ : ∃ v, I0 a1 4 = v := ⟨_, rfl⟩
  have b47 := iv14_4 hW0 ta1 c46
  have p48 := pre12 _ d2
  rw [c46] at p48
  obtain ⟨v49, c50⟩ : ∃ v, I0 a1 5 = v := ⟨_, rfl⟩
  have b51 := iv14_5 hW0 ta1 c50
  have p52 := pre13 _ d2
  rw [c50] at p52
  obtain ⟨v53, c54⟩ : ∃ v, I0 a1 6 = v := ⟨_, rfl⟩
  have b55 := iv14_6 hS0.1 ta1 c54
  have p56 := pre14 _ d2
  rw [c54] at p56
  obtain ⟨v57, c58⟩ : ∃ v, I0 a1 9 = v := ⟨_, rfl⟩
  have b59 := iv14_9 hW0 ta1 c58
  have p60 := pre15 _ d2
  rw [c58] at p60
  have p61 := pre16
  have p62 := pre17
  have p63 := pre18
  obtain ⟨v64, c65⟩ : ∃ v, I0 a0 13 = v := ⟨_, rfl⟩
  have hM0 := hN _ d2
  have hF := lnF_ch gB gQ gs
  have hP := lnP_ch gB gQ gs
  replace hF := hF.neg (by omega)
  replace hP := hP.neg (by omega)
  replace hF := hF.neg (by omega)
  replace hP := hP.neg (by omega)
  refine tr_aload_n dX12_readSlice_0 rfl ?_
  refine tr_aload_n dX12_readSlice_1 rfl ?_
  refine tr_getR dX12_readSlice_2 fl12_188 (kR15 hS0.1 ta0) d2 ?_
  refine q_getI dX12_readSlice_5 fl12_370 (kR14 hS0.1 ta1) c54 ?_
  refine q_iconst dX12_readSlice_8 (by decide) ?_
  intro v66 h67
  refine q_callVv hE (M' := mX12_begins) (as := [_, _]) dX12_readSlice_9 lk12_268 inX12_begins seX12_begins myX12_begins (by decide) ⟨by decide, by decide⟩ rfl (kR15 hS0.1 ta0) (Nat.le_of_ble_eq_true rfl) rfl rfl (by decide) (by decide) (fk_X12_begins hS0.1 (gB) (gs) (gQ) ta0 (TxA.kp hT hS0 ta0 rfl rfl rfl (by decide +kernel) (by decide +kernel)) (by (try rw [c4]); first | done | omega) (by (try rw [c4]); first | done | omega) (by (try rw [c9]); first | done | omega) (by (try rw [c13]); first | done | omega) (by (try rw [c16]); first | done | assumption) (by (try rw [c19]); first | done | assumption) (by (try rw [c22]); first | done | assumption) (by (try rw [c26]); first | done | omega) (fun q0 z0 => by obtain rfl := Option.some.inj ((d2).symm.trans z0); (try rw [c30]); first | done | omega) (by first | done | omega) ⟨_, d2⟩) ?_
  rintro cn' K' N' I68 R69 L70 ⟨rfl, rfl, rfl, rfl, g71, dj74, -⟩
  have hM75 : NmM I68 R0 L0 a1 gQ := NmM.kpS hM0 g71 hS0.1 ta1 (by decide +kernel) (by decide +kernel)
  have hS76 := hS0.tr g71 (by decide +kernel) (by decide +kernel)
  have c77 : I68 a1 6 = v53 := (g71.cell ta1 (by decide +kernel)).trans c54
  rcases dj74 with ⟨p78, p79, p80, p81, p82, p83, p84, p85, p86, p87, gl88, -⟩ | ⟨p89, p90, p91, p92, -⟩ | ⟨p93, p94, p95, p96, p97, -⟩
  · skip
    have hL98 := hL0.tr gl88 (by decide +kernel)
    have hM99 : NmM I68 R0 L70 a1 gQ := NmM.kpL hM75 gl88 hS76.1 ta1 (by decide +kernel)
    obtain ⟨v100, c101⟩ : ∃ v, I68 a0 13 = v := ⟨_, rfl⟩
    rw [c101] at p80
    rw [c65] at p80
    obtain ⟨v102, c103⟩ : ∃ v, I68 a0 9 = v := ⟨_, rfl⟩
    have b104 := iv15_9 hS76.1 ta0 c103
    rw [c103] at p81
    rw [c103] at p82
    obtain ⟨v105, c106⟩ : ∃ v, I68 a0 10 = v := ⟨_, rfl⟩
    have b107 := iv15_10 hS76.1 ta0 c106
    rw [c106] at p83
    obtain ⟨v108, c109⟩ : ∃ v, I68 a0 11 = v := ⟨_, rfl⟩
    rw [c109] at p84
    obtain ⟨y110, c111⟩ : ∃ v, L70 a0 15 = v := ⟨_, rfl⟩
    rw [c111] at p85
    obtain ⟨v112, c113⟩ : ∃ v, I68 a0 12 = v := ⟨_, rfl⟩
    rw [c113] at p86
    obtain ⟨v114, c115⟩ : ∃ v, I68 a0 8 = v := ⟨_, rfl⟩
    have b116 := iv15_8 hS76.1 ta0 c115
    rw [c115] at p87
    have p117 := p61
    unfold Q7M at p117
    replace hF := hF.neg (by omega)
    replace hP := hP.neg (by omega)
    replace hF := hF.neg (by omega)
    replace hP := hP.neg (by omega)
    clear p117
    obtain ⟨w118, w119, w120, w121, w122, w123, w124, w125, w126, w127, w128, w129⟩ := lnl_9 (B := gB) (Q := gQ) (s := gs) (by omega)
    replace hF := hF.to w118 (show ChE (riF gB gQ 8 0 (tkN gB gs)) (riF gB gQ 8 0 (tkN gB gs)) from rfl)
    replace hP := hP.to w119 (show ChE (riP gB gQ 8 0 (tkN gB gs)) (riP gB gQ 8 0 (tkN gB gs)) from rfl)
    refine tr_aload_n dX12_readSlice_12 rfl ?_
    refine tr_aload_n dX12_readSlice_13 rfl ?_
    refine tr_getR dX12_readSlice_14 fl12_188 (kR15 hS76.1 ta0) d2 ?_
    obtain ⟨a130, d131, ta130⟩ := rf14_18 hW0 ta1
    refine tr_getR dX12_readSlice_17 fl12_373 (kR14 hS76.1 ta1) d131 ?_
    refine q_bipush dX12_readSlice_20 (by decide +kernel) ?_
    intro v132 h133
    refine tr_aload_n dX12_readSlice_22 rfl ?_
    refine tr_getR dX12_readSlice_23 fl12_188 (kR15 hS76.1 ta0) d2 ?_
    refine q_getI dX12_readSlice_26 fl12_370 (kR14 hS76.1 ta1) c77 ?_
    refine q_imulE (c := 8) dX12_readSlice_29 (by omega) (by omega) ?_
    intro v134 h135
    refine q_bipush dX12_readSlice_30 (by decide +kernel) ?_
    intro v136 h137
    refine q_callVi hE (M' := mX12_readRising) (as := [_, _, _]) dX12_readSlice_32 lk12_308 inX12_readRising seX12_readRising myX12_readRising (by decide) ⟨by decide, by decide⟩ rfl (kR15 hS76.1 ta0) (Nat.le_of_ble_eq_true rfl) rfl rfl (by decide) (by decide) (fk_X12_readRising_1 hS76.1 (gB) ((tkN gB gs)) (gQ) ta0 ta130 (by omega) (by omega) (TxA.kp hT hS76 ta0 rfl rfl rfl (by decide +kernel) (by decide +kernel)) (by (try rw [c103]); first | done | omega) (by (try rw [c103]); first | done | omega) (by (try rw [c106]); first | done | omega) (by (try rw [c109]); first | done | omega) (by (try rw [c111]); first | done | assumption) (by (try rw [c113]); first | done | assumption) (by (try rw [c115]); first | done | assumption) (by (try rw [((hS76.cell ta0 (by decide +kernel)).trans c26)]); first | done | omega) (fun q0 z0 => by obtain rfl := Option.some.inj ((d2).symm.trans z0); (try rw [((hS76.cell ta1 (by decide +kernel)).trans c30)]); first | done | omega) (by first | done | omega) (by first | done | omega) ⟨_, d2⟩) ?_
    rintro v143 cn' K' N' I138 R139 L140 ⟨rfl, rfl, rfl, rfl, g141, h144, dj145, -⟩
    have hM146 : NmM I138 R0 L70 a1 gQ := NmM.kpS hM99 g141 hS76.1 ta1 (by decide +kernel) (by decide +kernel)
    have hS147 := hS76.tr g141 (by decide +kernel) (by decide +kernel)
    have c148 : I138 a1 6 = v53 := (g141.cell ta1 (by decide +kernel)).trans c77
    rcases dj145 with ⟨p149, p150, p151, p152, p153, p154, p155, p156, p157, gl158, -⟩ | ⟨p159, p160, p161, p162, -⟩
    · skip
      have hL163 := hL98.tr gl158 (by decide +kernel)
      have hM164 : NmM I138 R0 L140 a1 gQ := NmM.kpL hM146 gl158 hS147.1 ta1 (by decide +kernel)
      obtain ⟨v165, c166⟩ : ∃ v, I138 a0 13 = v := ⟨_, rfl⟩
      rw [c166] at p150
      rw [c101] at p150
      obtain ⟨v167, c168⟩ : ∃ v, I138 a0 9 = v := ⟨_, rfl⟩
      have b169 := iv15_9 hS147.1 ta0 c168
      rw [c168] at p151
      rw [c168] at p152
      obtain ⟨v170, c171⟩ : ∃ v, I138 a0 10 = v := ⟨_, rfl⟩
      have b172 := iv15_10 hS147.1 ta0 c171
      rw [c171] at p153
      obtain ⟨v173, c174⟩ : ∃ v, I138 a0 11 = v := ⟨_, rfl⟩
      rw [c174] at p154
      obtain ⟨y175, c176⟩ : ∃ v, L140 a0 15 = v := ⟨_, rfl⟩
      rw [c176] at p155
      obtain ⟨v177, c178⟩ : ∃ v, I138 a0 12 = v := ⟨_, rfl⟩
      rw [c178] at p156
      obtain ⟨v179, c180⟩ : ∃ v, I138 a0 8 = v := ⟨_, rfl⟩
      have b181 := iv15_8 hS147.1 ta0 c180
      rw [c180] at p157
      refine tr_istore_n dX12_readSlice_35 (by decide) (by decide) ?_
      refine tr_aload_n dX12_readSlice_36 rfl ?_
      refine q_getI dX12_readSlice_37 fl12_99 (kR15 hS147.1 ta0) c168 ?_
      refine q_iconst dX12_readSlice_40 (by decide) ?_
      intro v182 h183
      refine q_icmp_ne 45 dX12_readSlice_41 (by decide) (fun h184 => ?_) (fun h184 => ?_)
      · skip
        refine tr_aload_n dX12_readSlice_45 rfl ?_
        refine tr_getR dX12_readSlice_46 fl12_188 (kR15 hS147.1 ta0) d2 ?_
        obtain ⟨a185, d186, ta185⟩ := rf14_17 hW0 ta1
        refine tr_getR dX12_readSlice_49 fl12_375 (kR14 hS147.1 ta1) d186 ?_
        refine tr_aload_n dX12_readSlice_52 rfl ?_
        refine tr_getR dX12_readSlice_53 fl12_188 (kR15 hS147.1 ta0) d2 ?_
        refine q_getI dX12_readSlice_56 fl12_370 (kR14 hS147.1 ta1) c148 ?_
        refine tr_iload_n dX12_readSlice_59 rfl ?_
        refine q_iast dX12_readSlice_60 (kR60 hS147.1 ta185) (ti_in (nR60 hS147.1 ta185) (by omega) (by omega)) hS147 ta185 (by show (0 : Int) ≤ v143.toInt ∧ v143.toInt ≤ (8 : Int); omega) rfl (by rfl) ?_
        intro I187 hS188 e190 f189
        have c191 : I187 a1 6 = v53 := (f189 _ _ (fun q => by have z := ta1; rw [q.1, ta185] at z; exact absurd z (by decide))).trans c148
        have c192 : I187 a0 13 = v165 := (f189 _ _ (fun q => by have z := ta0; rw [q.1, ta185] at z; exact absurd z (by decide))).trans c166
        have c193 : I187 a0 9 = v167 := (f189 _ _ (fun q => by have z := ta0; rw [q.1, ta185] at z; exact absurd z (by decide))).trans c168
        have c194 : I187 a0 10 = v170 := (f189 _ _ (fun q => by have z := ta0; rw [q.1, ta185] at z; exact absurd z (by decide))).trans c171
        have c195 : I187 a0 11 = v173 := (f189 _ _ (fun q => by have z := ta0; rw [q.1, ta185] at z; exact absurd z (by decide))).trans c174
        have c196 : I187 a0 12 = v177 := (f189 _ _ (fun q => by have z := ta0; rw [q.1, ta185] at z; exact absurd z (by decide))).trans c178
        have c197 : I187 a0 8 = v179 := (f189 _ _ (fun q => by have z := ta0; rw [q.1, ta185] at z; exact absurd z (by decide))).trans c180
        have hM198 : NmM I187 R0 L140 a1 gQ := NmM.kp1 hM164 f189 ta185 rfl rfl hS147.1 ta1
        refine tr_aload_n dX12_readSlice_61 rfl ?_
        refine tr_getR dX12_readSlice_62 fl12_188 (kR15 hS188.1 ta0) d2 ?_
        refine tr_dup dX12_readSlice_65 rfl ?_
        refine q_getI dX12_readSlice_66 fl12_370 (kR14 hS188.1 ta1) c191 ?_
        refine q_iconst dX12_readSlice_69 (by decide) ?_
        intro v199 h200
        refine q_iaddE dX12_readSlice_70 (by intros; omega) ?_
        intro v201 h202
        refine q_putI dX12_readSlice_71 fl12_370 (kR14 hS188.1 ta1) (Or.inl rfl) hS188 ta1 (by show (0 : Int) ≤ v201.toInt ∧ v201.toInt ≤ (4 : Int); omega) rfl (by decide +kernel) ?_
        intro I203 hS204 e205 f206
        have c207 : I203 a0 13 = v165 := (f206 _ _ (fun q => absurd q.2 (by decide))).trans c192
        have c208 : I203 a0 9 = v167 := (f206 _ _ (fun q => absurd q.2 (by decide))).trans c193
        have c209 : I203 a0 10 = v170 := (f206 _ _ (fun q => absurd q.2 (by decide))).trans c194
        have c210 : I203 a0 11 = v173 := (f206 _ _ (fun q => absurd q.2 (by decide))).trans c195
        have c211 : I203 a0 12 = v177 := (f206 _ _ (fun q => absurd q.2 (by decide))).trans c196
        have c212 : I203 a0 8 = v179 := (f206 _ _ (fun q => absurd q.2 (by decide))).trans c197
        have hM213 : NmM I203 R0 L140 a1 gQ := NmM.kp1 hM198 f206 ta1 rfl rfl hS188.1 ta1
        have eF := hF.eq
        have eP := hP.eq
        obtain ⟨v214, c215⟩ : ∃ v, I203 a0 14 = v := ⟨_, rfl⟩
        exact tr_vret hZ dX12_readSlice_74 rfl (by decide) (by decide) ⟨rfl, rfl, rfl, rfl, rfl, hS204, (Or.inl ⟨(by (try rw [w120]); first | done | omega), (fun q0 z0 => by obtain rfl := Option.some.inj ((d2).symm.trans z0); (try rw [w120]); (try rw [((hS204.cell ta1 (by decide +kernel)).trans c30)]); first | done | omega), (fun q0 z0 => by obtain rfl := Option.some.inj ((d2).symm.trans z0); (try rw [w120]); (try rw [((hS204.cell ta1 (by decide +kernel)).trans c34)]); first | done | omega), (fun q0 z0 => by obtain rfl := Option.some.inj ((d2).symm.trans z0); (try rw [w120]); (try rw [((hS204.cell ta1 (by decide +kernel)).trans c38)]); first | done | omega), (fun q0 z0 => by obtain rfl := Option.some.inj ((d2).symm.trans z0); (try rw [w120]); (try rw [((hS204.cell ta1 (by decide +kernel)).trans c42)]); first | done | omega), (fun q0 z0 => by obtain rfl := Option.some.inj ((d2).symm.trans z0); (try rw [w120]); (try rw [((hS204.cell ta1 (by decide +kernel)).trans c46)]); first | done | omega), (fun q0 z0 => by obtain rfl := Option.some.inj ((d2).symm.trans z0); (try rw [w120]); (try rw [((hS204.cell ta1 (by decide +kernel)).trans c50)]); first | done | omega), (fun q0 z0 => by obtain rfl := Option.some.inj ((d2).symm.trans z0); (try rw [w120]); (try rw [e205]); first | done | omega), (fun q0 z0 => by obtain rfl := Option.some.inj ((d2).symm.trans z0); (try rw [w120]); (try rw [((hS204.cell ta1 (by decide +kernel)).trans c58)]); first | done | omega), (by (try rw [w120]); (try rw [c207]); (try rw [c65]); first | done | omega), (by (try rw [w120]); (try rw [c208]); first | done | omega), (by (try rw [w120]); (try rw [c208]); first | done | omega), (by (try rw [w120]); (try rw [c209]); first | done | omega), (by (try rw [w120]); (try rw [c210]); first | done | omega), (by (try rw [w120]); (try rw [c176]); first | done | assumption), (by (try rw [w120]); (try rw [c211]); first | done | assumption), (by (try rw [w120]); (try rw [c212]); first | done | assumption), hL163, (fun b hb => (Option.some.inj (d2.symm.trans hb)) ▸ NmM.ln (NmM.bd (k := srt gB gs) hM213 (by omega) (by omega)) rfl), trivial⟩), trivial⟩
      · skip
        exfalso; omega
    · skip
      obtain ⟨v216, c217⟩ : ∃ v, I138 a0 9 = v := ⟨_, rfl⟩
      have b218 := iv15_9 hS147.1 ta0 c217
      rw [c217] at p160
      obtain ⟨v219, c220⟩ : ∃ v, I138 a0 13 = v := ⟨_, rfl⟩
      rw [c220] at p161
      obtain ⟨v221, c222⟩ : ∃ v, I138 a0 14 = v := ⟨_, rfl⟩
      rw [c222] at p162
      refine tr_istore_n dX12_readSlice_35 (by decide) (by decide) ?_
      refine tr_aload_n dX12_readSlice_36 rfl ?_
      refine q_getI dX12_readSlice_37 fl12_99 (kR15 hS147.1 ta0) c217 ?_
      refine q_iconst dX12_readSlice_40 (by decide) ?_
      intro v223 h224
      refine q_icmp_ne 45 dX12_readSlice_41 (by decide) (fun h225 => ?_) (fun h225 => ?_)
      · skip
        exfalso; omega
      · skip
        have eF := hF.eq
        have eP := hP.eq
        obtain ⟨v226, c227⟩ : ∃ v, I138 a0 10 = v := ⟨_, rfl⟩
        have b228 := iv15_10 hS147.1 ta0 c227
        obtain ⟨v229, c230⟩ : ∃ v, I138 a0 11 = v := ⟨_, rfl⟩
        obtain ⟨y231, c232⟩ : ∃ v, L140 a0 15 = v := ⟨_, rfl⟩
        obtain ⟨v233, c234⟩ : ∃ v, I138 a0 12 = v := ⟨_, rfl⟩
        obtain ⟨v235, c236⟩ : ∃ v, I138 a0 8 = v := ⟨_, rfl⟩
        have b237 := iv15_8 hS147.1 ta0 c236
        exact tr_vret hZ dX12_readSlice_44 rfl (by decide) (by decide) ⟨rfl, rfl, rfl, rfl, rfl, hS147, (Or.inr (⟨(by (try rw [w120]); first | done | omega), (by (try rw [w120]); (try rw [c217]); first | done | omega), (by (try rw [w120]); (try rw [c220]); first | done | omega), (by (try rw [w120]); (try rw [c222]); first | done | omega), trivial⟩)), trivial⟩
  · skip
    obtain ⟨v238, c239⟩ : ∃ v, I68 a0 9 = v := ⟨_, rfl⟩
    have b240 := iv15_9 hS76.1 ta0 c239
    rw [c239] at p90
    obtain ⟨v241, c242⟩ : ∃ v, I68 a0 13 = v := ⟨_, rfl⟩
    rw [c242] at p91
    obtain ⟨v243, c244⟩ : ∃ v, I68 a0 14 = v := ⟨_, rfl⟩
    rw [c244] at p92
    have p245 := p61
    unfold Q7M at p245
    replace hF := hF.pos (by omega)
    replace hP := hP.pos (by omega)
    clear p245
    refine tr_aload_n dX12_readSlice_12 rfl ?_
    refine tr_aload_n dX12_readSlice_13 rfl ?_
    refine tr_getR dX12_readSlice_14 fl12_188 (kR15 hS76.1 ta0) d2 ?_
    obtain ⟨a246, d247, ta246⟩ := rf14_18 hW0 ta1
    refine tr_getR dX12_readSlice_17 fl12_373 (kR14 hS76.1 ta1) d247 ?_
    refine q_bipush dX12_readSlice_20 (by decide +kernel) ?_
    intro v248 h249
    refine tr_aload_n dX12_readSlice_22 rfl ?_
    refine tr_getR dX12_readSlice_23 fl12_188 (kR15 hS76.1 ta0) d2 ?_
    refine q_getI dX12_readSlice_26 fl12_370 (kR14 hS76.1 ta1) c77 ?_
    refine q_imulE (c := 8) dX12_readSlice_29 (by omega) (by omega) ?_
    intro v250 h251
    refine q_bipush dX12_readSlice_30 (by decide +kernel) ?_
    intro v252 h253
    refine q_callVi hE (M' := mX12_readRising) (as := [_, _, _]) dX12_readSlice_32 lk12_308 inX12_readRising seX12_readRising myX12_readRising (by decide) ⟨by decide, by decide⟩ rfl (kR15 hS76.1 ta0) (Nat.le_of_ble_eq_true rfl) rfl rfl (by decide) (by decide) (k_X12_readRising hS76.1 ta0 ta246 (by omega) (by omega) (fun z => absurd (by rw [c239]; omega) z) ⟨_, d2⟩) ?_
    rintro v258 cn' K' N' I254 R255 L256 ⟨rfl, rfl, rfl, rfl, g257, h259, w260, -⟩
    have hS261 := hS76.tr g257 (by decide +kernel) (by decide +kernel)
    have c262 : I254 a1 6 = v53 := (g257.cell ta1 (by decide +kernel)).trans c77
    have ov263 := w260.over (by rw [c239]; omega)
    obtain ⟨v264, c265⟩ : ∃ v, I254 a0 9 = v := ⟨_, rfl⟩
    have b266 := iv15_9 hS261.1 ta0 c265
    obtain ⟨v267, c268⟩ : ∃ v, I254 a0 13 = v := ⟨_, rfl⟩
    obtain ⟨v269, c270⟩ : ∃ v, I254 a0 14 = v := ⟨_, rfl⟩
    (try rw [c265] at ov263)
    (try rw [c268] at ov263)
    (try rw [c270] at ov263)
    (try rw [c239] at ov263)
    (try rw [c242] at ov263)
    (try rw [c244] at ov263)
    refine tr_istore_n dX12_readSlice_35 (by decide) (by decide) ?_
    refine tr_aload_n dX12_readSlice_36 rfl ?_
    refine q_getI dX12_readSlice_37 fl12_99 (kR15 hS261.1 ta0) c265 ?_
    refine q_iconst dX12_readSlice_40 (by decide) ?_
    intro v271 h272
    refine q_icmp_ne 45 dX12_readSlice_41 (by decide) (fun h273 => ?_) (fun h273 => ?_)
    · skip
      exfalso; omega
    · skip
      have eF := hF.eq
      have eP := hP.eq
      obtain ⟨v274, c275⟩ : ∃ v, I254 a0 10 = v := ⟨_, rfl⟩
      have b276 := iv15_10 hS261.1 ta0 c275
      obtain ⟨v277, c278⟩ : ∃ v, I254 a0 11 = v := ⟨_, rfl⟩
      obtain ⟨y279, c280⟩ : ∃ v, L256 a0 15 = v := ⟨_, rfl⟩
      obtain ⟨v281, c282⟩ : ∃ v, I254 a0 12 = v := ⟨_, rfl⟩
      obtain ⟨v283, c284⟩ : ∃ v, I254 a0 8 = v := ⟨_, rfl⟩
      have b285 := iv15_8 hS261.1 ta0 c284
      exact tr_vret hZ dX12_readSlice_44 rfl (by decide) (by decide) ⟨rfl, rfl, rfl, rfl, rfl, hS261, (Or.inr (⟨(by first | done | omega), (by (try rw [c265]); first | done | omega), (by (try rw [c268]); first | done | omega), (by (try rw [c270]); first | done | omega), trivial⟩)), trivial⟩
  · skip
    obtain ⟨v286, c287⟩ : ∃ v, I68 a0 9 = v := ⟨_, rfl⟩
    have b288 := iv15_9 hS76.1 ta0 c287
    rw [c287] at p95
    obtain ⟨v289, c290⟩ : ∃ v, I68 a0 13 = v := ⟨_, rfl⟩
    rw [c290] at p96
    obtain ⟨v291, c292⟩ : ∃ v, I68 a0 14 = v := ⟨_, rfl⟩
    rw [c292] at p97
    have p293 := p61
    unfold Q7M at p293
    replace hF := hF.neg (by omega)
    replace hP := hP.neg (by omega)
    replace hF := hF.pos (by omega)
    replace hP := hP.pos (by omega)
    clear p293
    refine tr_aload_n dX12_readSlice_12 rfl ?_
    refine tr_aload_n dX12_readSlice_13 rfl ?_
    refine tr_getR dX12_readSlice_14 fl12_188 (kR15 hS76.1 ta0) d2 ?_
    obtain ⟨a294, d295, ta294⟩ := rf14_18 hW0 ta1
    refine tr_getR dX12_readSlice_17 fl12_373 (kR14 hS76.1 ta1) d295 ?_
    refine q_bipush dX12_readSlice_20 (by decide +kernel) ?_
    intro v296 h297
    refine tr_aload_n dX12_readSlice_22 rfl ?_
    refine tr_getR dX12_readSlice_23 fl12_188 (kR15 hS76.1 ta0) d2 ?_
    refine q_getI dX12_readSlice_26 fl12_370 (kR14 hS76.1 ta1) c77 ?_
    refine q_imulE (c := 8) dX12_readSlice_29 (by omega) (by omega) ?_
    intro v298 h299
    refine q_bipush dX12_readSlice_30 (by decide +kernel) ?_
    intro v300 h301
    refine q_callVi hE (M' := mX12_readRising) (as := [_, _, _]) dX12_readSlice_32 lk12_308 inX12_readRising seX12_readRising myX12_readRising (by decide) ⟨by decide, by decide⟩ rfl (kR15 hS76.1 ta0) (Nat.le_of_ble_eq_true rfl) rfl rfl (by decide) (by decide) (k_X12_readRising hS76.1 ta0 ta294 (by omega) (by omega) (fun z => absurd (by rw [c287]; omega) z) ⟨_, d2⟩) ?_
    rintro v306 cn' K' N' I302 R303 L304 ⟨rfl, rfl, rfl, rfl, g305, h307, w308, -⟩
    have hS309 := hS76.tr g305 (by decide +kernel) (by decide +kernel)
    have c310 : I302 a1 6 = v53 := (g305.cell ta1 (by decide +kernel)).trans c77
    have ov311 := w308.over (by rw [c287]; omega)
    obtain ⟨v312, c313⟩ : ∃ v, I302 a0 9 = v := ⟨_, rfl⟩
    have b314 := iv15_9 hS309.1 ta0 c313
    obtain ⟨v315, c316⟩ : ∃ v, I302 a0 13 = v := ⟨_, rfl⟩
    obtain ⟨v317, c318⟩ : ∃ v, I302 a0 14 = v := ⟨_, rfl⟩
    (try rw [c313] at ov311)
    (try rw [c316] at ov311)
    (try rw [c318] at ov311)
    (try rw [c287] at ov311)
    (try rw [c290] at ov311)
    (try rw [c292] at ov311)
    refine tr_istore_n dX12_readSlice_35 (by decide) (by decide) ?_
    refine tr_aload_n dX12_readSlice_36 rfl ?_
    refine q_getI dX12_readSlice_37 fl12_99 (kR15 hS309.1 ta0) c313 ?_
    refine q_iconst dX12_readSlice_40 (by decide) ?_
    intro v319 h320
    refine q_icmp_ne 45 dX12_readSlice_41 (by decide) (fun h321 => ?_) (fun h321 => ?_)
    · skip
      exfalso; omega
    · skip
      have eF := hF.eq
      have eP := hP.eq
      obtain ⟨v322, c323⟩ : ∃ v, I302 a0 10 = v := ⟨_, rfl⟩
      have b324 := iv15_10 hS309.1 ta0 c323
      obtain ⟨v325, c326⟩ : ∃ v, I302 a0 11 = v := ⟨_, rfl⟩
      obtain ⟨y327, c328⟩ : ∃ v, L304 a0 15 = v := ⟨_, rfl⟩
      obtain ⟨v329, c330⟩ : ∃ v, I302 a0 12 = v := ⟨_, rfl⟩
      obtain ⟨v331, c332⟩ : ∃ v, I302 a0 8 = v := ⟨_, rfl⟩
      have b333 := iv15_8 hS309.1 ta0 c332
      exact tr_vret hZ dX12_readSlice_44 rfl (by decide) (by decide) ⟨rfl, rfl, rfl, rfl, rfl, hS309, (Or.inr (⟨(by first | done | omega), (by (try rw [c313]); first | done | omega), (by (try rw [c316]); first | done | omega), (by (try rw [c318]); first | done | omega), trivial⟩)), trivial⟩
def wik_X12_readCall : List Nat := [901, 968, 969, 970, 971, 972, 973, 974, 4479, 4543, 4607, 4671]
def wrk_X12_readCall : List Nat := []
def wlk_X12_readCall : List Nat := [975]
set_option maxHeartbeats 4000000 in
theorem fk_X12_readCall {l : Launch} {T : Nat → Nat} {cn : Nat} {K N : Nat → Nat} {I0 : cz_I} {R0 : cz_R} {L0 : cz_L} (hW0 : Wf T cn K N I0 R0 0) (gB : cz_B) (gs : Int) (gQ : Nat → Int) {a0 : Nat} (ta0 : T a0 = 15) (hT : ∀ t, R0 a0 5 = some t → Tx I0 t gB) (hN : ∀ b, R0 a0 4 = some b → NmM I0 R0 L0 b gQ) (pre0 : (I0 a0 9).toInt = (tkM gB gs)) (pre1 : (I0 a0 9).toInt ≤ 4) (pre2 : (I0 a0 10).toInt = (tkS gB gs)) (pre3 : (I0 a0 11).toInt = (tkG gB gs)) (pre4 : (AtW ((tkK gB gs)) ((L0 a0 15).toInt) ((tkW gB gs)))) (pre5 : (AtV ((tkK gB gs)) ((I0 a0 12).toInt) ((tkV gB gs)))) (pre6 : (AtN ((tkK gB gs)) ((I0 a0 8).toInt) ((tkN gB gs)))) (pre7 : (I0 a0 7).toInt = (gB.2)) (pre8 : ∀ b1, R0 a0 4 = some b1 → (I0 b1 0).toInt = (gQ 0)) (pre9 : ∀ b1, R0 a0 4 = some b1 → (I0 b1 1).toInt = (gQ 1)) (pre10 : ∀ b1, R0 a0 4 = some b1 → (I0 b1 2).toInt = (gQ 2)) (pre11 : ∀ b1, R0 a0 4 = some b1 → (I0 b1 3).toInt = (gQ 3)) (pre12 : ∀ b1, R0 a0 4 = some b1 → (I0 b1 4).toInt = (gQ 4)) (pre13 : ∀ b1, R0 a0 4 = some b1 → (I0 b1 5).toInt = (gQ 5)) (pre14 : ∀ b1, R0 a0 4 = some b1 → (I0 b1 6).toInt = (gQ 6)) (pre15 : ∀ b1, R0 a0 4 = some b1 → (I0 b1 9).toInt = (gQ 8)) (pre16 : (Q7M ((gQ 0)) ((gQ 7)))) (pre17 : (tkK gB gs) = 1) (pre18 : (srt gB gs) = 8) (nn4 : ∃ b, R0 a0 4 = some b) : ConE l mX12_readCall [.ref a0] cn K N I0 R0 L0 (ca_v (fun cn' K' N' I' R' L' => cn = cn' ∧ K = K' ∧ N = N' ∧ R0 = R' ∧ St T cn K N 0 wik_X12_readCall wrk_X12_readCall I0 R0 I' R0 ∧ ((((lnF gB gQ gs) = 0) ∧ (∀ b1, R0 a0 4 = some b1 → (I' b1 0).toInt = (lnQ gB gQ gs 0)) ∧ (∀ b1, R0 a0 4 = some b1 → (I' b1 1).toInt = (lnQ gB gQ gs 1)) ∧ (∀ b1, R0 a0 4 = some b1 → (I' b1 2).toInt = (lnQ gB gQ gs 2)) ∧ (∀ b1, R0 a0 4 = some b1 → (I' b1 3).toInt = (lnQ gB gQ gs 3)) ∧ (∀ b1, R0 a0 4 = some b1 → (I' b1 4).toInt = (lnQ gB gQ gs 4)) ∧ (∀ b1, R0 a0 4 = some b1 → (I' b1 5).toInt = (lnQ gB gQ gs 5)) ∧ (∀ b1, R0 a0 4 = some b1 → (I' b1 6).toInt = (lnQ gB gQ gs 6)) ∧ (∀ b1, R0 a0 4 = some b1 → (I' b1 9).toInt = (lnQ gB gQ gs 8)) ∧ ((I' a0 13).toInt = (I0 a0 13).toInt) ∧ ((I' a0 9).toInt = (tkM gB (lnS gB gQ gs))) ∧ ((I' a0 9).toInt ≤ 4) ∧ ((I' a0 10).toInt = (tkS gB (lnS gB gQ gs))) ∧ ((I' a0 11).toInt = (tkG gB (lnS gB gQ gs))) ∧ ((AtW ((tkK gB (lnS gB gQ gs))) ((L' a0 15).toInt) ((tkW gB (lnS gB gQ gs))))) ∧ ((AtV ((tkK gB (lnS gB gQ gs))) ((I' a0 12).toInt) ((tkV gB (lnS gB gQ gs))))) ∧ ((AtN ((tkK gB (lnS gB gQ gs))) ((I' a0 8).toInt) ((tkN gB (lnS gB gQ gs))))) ∧ LgS T wlk_X12_readCall L0 L' ∧ (∀ b, R0 a0 4 = some b → NmM I' R0 L' b (lnQ gB gQ gs)) ∧ True) ∨ (((lnF gB gQ gs) ≠ 0) ∧ ((I' a0 9).toInt = 5) ∧ ((I' a0 13).toInt = (lnF gB gQ gs)) ∧ ((I' a0 14).toInt = (lnP gB gQ gs)) ∧ True)) ∧ True)) := by
  refine ConE.of (by decide +kernel) rfl (Nat.le_of_ble_eq_true rfl) rfl (fun X hX hZ hE => ?_)
  subst hX
  have hS0 : St T cn K N 0 wik_X12_readCall wrk_X12_readCall I0 R0 I0 R0 := St.rf0 hW0
  have hL0 : LgS T wlk_X12_readCall L0 L0 := LgS.rf0
  obtain ⟨a1, d2⟩ := nn4
  have ta1 : T a1 = 14 := hW0.rsN ta0 rfl d2
  obtain ⟨v3, c4⟩ : ∃ v, I0 a0 9 = v := ⟨_, rfl⟩
  have b5 := iv15_9 hS0.1 ta0 c4
  have p6 := pre0
  rw [c4] at p6
  have p7 := pre1
  rw [c4] at p7
  obtain ⟨v8, c9⟩ : ∃ v, I0 a0 10 = v := ⟨_, rfl⟩
  have b10 := iv15_10 hS0.1 ta0 c9
  have p11 := pre2
  rw [c9] at p11
  obtain ⟨v12, c13⟩ : ∃ v, I0 a0 11 = v := ⟨_, rfl⟩
  have p14 := pre3
  rw [c13] at p14
  obtain ⟨y15, c16⟩ : ∃ v, L0 a0 15 = v := ⟨_, rfl⟩
  have p17 := pre4
  rw [c16] at p17
  obtain ⟨v18, c19⟩ : ∃ v, I0 a0 12 = v := ⟨_, rfl⟩
  have p20 := pre5
  rw [c19] at p20
  obtain ⟨v21, c22⟩ : ∃ v, I0 a0 8 = v := ⟨_, rfl⟩
  have b23 := iv15_8 hS0.1 ta0 c22
  have p24 := pre6
  rw [c22] at p24
  obtain ⟨v25, c26⟩ : ∃ v, I0 a0 7 = v := ⟨_, rfl⟩
  have b27 := iv15_7 hW0 ta0 c26
  have p28 := pre7
  rw [c26] at p28
  obtain ⟨v29, c30⟩ : ∃ v, I0 a1 0 = v := ⟨_, rfl⟩
  have b31 := iv14_0 hW0 ta1 c30
  have p32 := pre8 _ d2
  rw [c30] at p32
  obtain ⟨v33, c34⟩ : ∃ v, I0 a1 1 = v := ⟨_, rfl⟩
  have b35 := iv14_1 hW0 ta1 c34
  have p36 := pre9 _ d2
  rw [c34] at p36
  obtain ⟨v37, c38⟩ : ∃ v, I0 a1 2 = v := ⟨_, rfl⟩
  have b39 := iv14_2 hW0 ta1 c38
  have p40 := pre10 _ d2
  rw [c38] at p40
  obtain ⟨v41, c42⟩ : ∃ v, I0 a1 3 = v := ⟨_, rfl⟩
  have b43 := iv14_3 hW0 ta1 c42
  have p44 := pre11 _ d2
  rw [c42] at p44
  obtain ⟨v45, c46⟩ : ∃ v, I0 a1 4 = v := ⟨_, rfl⟩
  have b47 := iv14_4 hW0 ta1 c46
  have p48 := pre12 _ d2
  rw [c46] at p48
  obtain ⟨v49, c50⟩ : ∃ v, I0 a1 5 = v := ⟨_, rfl⟩
  have b51 := iv14_5 hS0.1 ta1 c50
  have p52 := pre13 _ d2
  rw [c50] at p52
  obtain ⟨v53, c54⟩ : ∃ v, I0 a1 6 = v := ⟨_, rfl⟩
  have b55 := iv14_6 hW0 ta1 c54
  have p56 := pre14 _ d2
  rw [c54] at p56
  obtain ⟨v57, c58⟩ : ∃ v, I0 a1 9 = v := ⟨_, rfl⟩
  have b59 := iv14_9 hW0 ta1 c58
  have p60 := pre15 _ d2
  rw [c58] at p60
  have p61 := pre16
  have p62 := pre17
  have p63 := pre18
  obtain ⟨v64, c65⟩ : ∃ v, I0 a0 13 = v := ⟨_, rfl⟩
  have hM0 := hN _ d2
  have hF := lnF_ch gB gQ gs
  have hP := lnP_ch gB gQ gs
  replace hF := hF.neg (by omega)
  replace hP := hP.neg (by omega)
  replace hF := hF.neg (by omega)
  replace hP := hP.neg (by omega)
  refine tr_aload_n dX12_readCall_0 rfl ?_
  refine tr_aload_n dX12_readCall_1 rfl ?_
  refine tr_getR dX12_readCall_2 fl12_188 (kR15 hS0.1 ta0) d2 ?_
  refine q_getI dX12_readCall_5 fl12_349 (kR14 hS0.1 ta1) c50 ?_
  refine q_bipush dX12_readCall_8 (by decide +kernel) ?_
  intro v66 h67
  refine q_callVv hE (M' := mX12_begins) (as := [_, _]) dX12_readCall_10 lk12_268 inX12_begins seX12_begins myX12_begins (by decide) ⟨by decide, by decide⟩ rfl (kR15 hS0.1 ta0) (Nat.le_of_ble_eq_true rfl) rfl rfl (by decide) (by decide) (fk_X12_begins hS0.1 (gB) (gs) (gQ) ta0 (TxA.kp hT hS0 ta0 rfl rfl rfl (by decide +kernel) (by decide +kernel)) (by (try rw [c4]); first | done | omega) (by (try rw [c4]); first | done | omega) (by (try rw [c9]); first | done | omega) (by (try rw [c13]); first | done | omega) (by (try rw [c16]); first | done | assumption) (by (try rw [c19]); first | done | assumption) (by (try rw [c22]); first | done | assumption) (by (try rw [c26]); first | done | omega) (fun q0 z0 => by obtain rfl := Option.some.inj ((d2).symm.trans z0); (try rw [c30]); first | done | omega) (by first | done | omega) ⟨_, d2⟩) ?_
  rintro cn' K' N' I68 R69 L70 ⟨rfl, rfl, rfl, rfl, g71, dj74, -⟩
  have hM75 : NmM I68 R0 L0 a1 gQ := NmM.kpS hM0 g71 hS0.1 ta1 (by decide +kernel) (by decide +kernel)
  have hS76 := hS0.tr g71 (by decide +kernel) (by decide +kernel)
  have c77 : I68 a1 5 = v49 := (g71.cell ta1 (by decide +kernel)).trans c50
  rcases dj74 with ⟨p78, p79, p80, p81, p82, p83, p84, p85, p86, p87, gl88, -⟩ | ⟨p89, p90, p91, p92, -⟩ | ⟨p93, p94, p95, p96, p97, -⟩
  · skip
    have hL98 := hL0.tr gl88 (by decide +kernel)
    have hM99 : NmM I68 R0 L70 a1 gQ := NmM.kpL hM75 gl88 hS76.1 ta1 (by decide +kernel)
    obtain ⟨v100, c101⟩ : ∃ v, I68 a0 13 = v := ⟨_, rfl⟩
    rw [c101] at p80
    rw [c65] at p80
    obtain ⟨v102, c103⟩ : ∃ v, I68 a0 9 = v := ⟨_, rfl⟩
    have b104 := iv15_9 hS76.1 ta0 c103
    rw [c103] at p81
    rw [c103] at p82
    obtain ⟨v105, c106⟩ : ∃ v, I68 a0 10 = v := ⟨_, rfl⟩
    have b107 := iv15_10 hS76.1 ta0 c106
    rw [c106] at p83
    obtain ⟨v108, c109⟩ : ∃ v, I68 a0 11 = v := ⟨_, rfl⟩
    rw [c109] at p84
    obtain ⟨y110, c111⟩ : ∃ v, L70 a0 15 = v := ⟨_, rfl⟩
    rw [c111] at p85
    obtain ⟨v112, c113⟩ : ∃ v, I68 a0 12 = v := ⟨_, rfl⟩
    rw [c113] at p86
    obtain ⟨v114, c115⟩ : ∃ v, I68 a0 8 = v := ⟨_, rfl⟩
    have b116 := iv15_8 hS76.1 ta0 c115
    rw [c115] at p87
    have p117 := p61
    unfold Q7M at p117
    replace hF := hF.neg (by omega)
    replace hP := hP.neg (by omega)
    replace hF := hF.neg (by omega)
    replace hP := hP.neg (by omega)
    clear p117
    obtain ⟨w118, w119, w120, w121, w122, w123, w124, w125, w126, w127, w128, w129⟩ := lnl_8 (B := gB) (Q := gQ) (s := gs) (by omega)
    replace hF := hF.to w118 (caF_ch gB gQ (tkN gB gs))
    replace hP := hP.to w119 (caP_ch gB gQ (tkN gB gs))
    refine tr_aload_n dX12_readCall_13 rfl ?_
    refine q_callVi hE (M' := mX12_isName) (as := []) dX12_readCall_14 lk12_197 inX12_isName seX12_isName myX12_isName (by decide) ⟨by decide, by decide⟩ rfl (kR15 hS76.1 ta0) (Nat.le_of_ble_eq_true rfl) rfl rfl (by decide) (by decide) (fk_X12_isName hS76.1 (gB) ((tkN gB gs)) ta0 (by (try rw [c103]); first | done | omega) (by (try rw [c111]); first | done | assumption)) ?_
    rintro v135 cn' K' N' I130 R131 L132 ⟨rfl, rfl, rfl, rfl, rfl, rfl, h136, dj137, -⟩
    rcases dj137 with ⟨p138, p139, p140, -⟩ | ⟨p141, p142, -⟩
    · skip
      replace hF := hF.neg (by omega)
      replace hP := hP.neg (by omega)
      refine q_if_ne 25 dX12_readCall_17 (by decide) (fun h143 => ?_) (fun h143 => ?_)
      · skip
        refine tr_aload_n dX12_readCall_25 rfl ?_
        refine tr_getR dX12_readCall_26 fl12_188 (kR15 hS76.1 ta0) d2 ?_
        refine tr_aload_n dX12_readCall_29 rfl ?_
        have p144 := p85 (by omega)
        refine q_getLE dX12_readCall_30 fl12_118 (kR15 hS76.1 ta0) c111 ?_
        refine q_callVi hE (M' := mX11_find) (as := [_]) dX12_readCall_33 lk12_201 inX11_find seX11_find myX11_find (by decide) ⟨by decide, by decide⟩ rfl (kR14 hS76.1 ta1) (Nat.le_of_ble_eq_true rfl) rfl rfl (by decide) (by decide) (fk_X11_find hS76.1 ((tkW gB (tkN gB gs))) ta1 (by first | done | omega)) ?_
        rintro v150 cn' K' N' I145 R146 L147 ⟨rfl, rfl, rfl, rfl, rfl, rfl, h151, rp152, -⟩
        obtain ⟨v155, c156⟩ : ∃ v, I0 a1 7 = v := ⟨_, rfl⟩
        have b157 := iv14_7 hW0 ta1 c156
        have p154 := hS76.1.2.2.2.2.1 a0 ta0 _ d2
        rw [((hS76.cell ta1 (by decide +kernel)).trans c156), ((hS76.cell ta1 (by decide +kernel)).trans c42), ((hS76.cell ta1 (by decide +kernel)).trans c46)] at p154
        have fd153 := fd_told hM99 hS76.1 ta1 rp152 (by rw [((hS76.cell ta1 (by decide +kernel)).trans c156)]; omega)
        rw [((hS76.cell ta1 (by decide +kernel)).trans c156)] at fd153
        refine tr_istore_n dX12_readCall_36 (by decide) (by decide) ?_
        refine tr_iload_n dX12_readCall_37 rfl ?_
        refine q_iconst dX12_readCall_38 (by decide) ?_
        intro v158 h159
        refine q_icmp_eq 55 dX12_readCall_39 (by decide) (fun h160 => ?_) (fun h160 => ?_)
        · skip
          replace hF := hF.pos (by omega)
          replace hP := hP.pos (by omega)
          refine tr_aload_n dX12_readCall_55 rfl ?_
          refine q_iconst dX12_readCall_56 (by decide) ?_
          intro v161 h162
          refine q_callVv hE (M' := mX12_flaw) (as := [_]) dX12_readCall_57 lk12_145 inX12_flaw seX12_flaw myX12_flaw (by decide) ⟨by decide, by decide⟩ rfl (kR15 hS76.1 ta0) (Nat.le_of_ble_eq_true rfl) rfl rfl (by decide) (by decide) (fk_X12_flaw hS76.1  ta0 (by omega) (by (try rw [c103]); first | done | omega)) ?_
          rintro cn' K' N' I163 R164 L165 ⟨rfl, rfl, rfl, rfl, rfl, g166, p169, p170, p171, -⟩
          have hM172 : NmM I163 R0 L70 a1 gQ := NmM.kpS hM99 g166 hS76.1 ta1 (by decide +kernel) (by decide +kernel)
          have hS173 := hS76.tr g166 (by decide +kernel) (by decide +kernel)
          have c174 : I163 a1 5 = v49 := (g166.cell ta1 (by decide +kernel)).trans c77
          have c175 : I163 a0 10 = v105 := (g166.cell ta0 (by decide +kernel)).trans c106
          have c176 : I163 a0 11 = v108 := (g166.cell ta0 (by decide +kernel)).trans c109
          have c177 : I163 a0 12 = v112 := (g166.cell ta0 (by decide +kernel)).trans c113
          have c178 : I163 a0 8 = v114 := (g166.cell ta0 (by decide +kernel)).trans c115
          obtain ⟨v179, c180⟩ : ∃ v, I163 a0 9 = v := ⟨_, rfl⟩
          have b181 := iv15_9 hS173.1 ta0 c180
          rw [c180] at p169
          obtain ⟨v182, c183⟩ : ∃ v, I163 a0 13 = v := ⟨_, rfl⟩
          rw [c183] at p170
          obtain ⟨v184, c185⟩ : ∃ v, I163 a0 14 = v := ⟨_, rfl⟩
          rw [c185] at p171
          rw [c106] at p171
          refine tr_aload_n dX12_readCall_60 rfl ?_
          refine q_getI dX12_readCall_61 fl12_99 (kR15 hS173.1 ta0) c180 ?_
          refine q_iconst dX12_readCall_64 (by decide) ?_
          intro v186 h187
          refine q_icmp_ne 72 dX12_readCall_65 (by decide) (fun h188 => ?_) (fun h188 => ?_)
          · skip
            exfalso; omega
          · skip
            refine q_iconst dX12_readCall_68 (by decide) ?_
            intro v189 h190
            refine tr_goto 81 dX12_readCall_69 (by decide) ?_
            refine tr_istore_n dX12_readCall_81 (by decide) (by decide) ?_
            refine tr_aload_n dX12_readCall_82 rfl ?_
            refine q_callVv hE (M' := mX12_goesOn) (as := []) dX12_readCall_83 lk12_142 inX12_goesOn seX12_goesOn myX12_goesOn (by decide) ⟨by decide, by decide⟩ rfl (kR15 hS173.1 ta0) (Nat.le_of_ble_eq_true rfl) rfl rfl (by decide) (by decide) (k_X12_goesOn hS173.1 ta0) ?_
            rintro cn' K' N' I191 R192 L193 ⟨rfl, rfl, rfl, rfl, g194, p196, p197, p198, w199, -⟩
            have hS200 := hS173.tr g194 (by decide +kernel) (by decide +kernel)
            have c201 : I191 a1 5 = v49 := (g194.cell ta1 (by decide +kernel)).trans c174
            have c202 : I191 a0 13 = v182 := (g194.cell ta0 (by decide +kernel)).trans c183
            have c203 : I191 a0 14 = v184 := (g194.cell ta0 (by decide +kernel)).trans c185
            obtain ⟨v204, c205⟩ : ∃ v, I191 a0 9 = v := ⟨_, rfl⟩
            have b206 := iv15_9 hS200.1 ta0 c205
            rw [c180] at p196
            rw [c205] at p196
            rw [c180] at p197
            rw [c205] at p197
            obtain ⟨v207, c208⟩ : ∃ v, I191 a0 8 = v := ⟨_, rfl⟩
            have b209 := iv15_8 hS200.1 ta0 c208
            rw [c208] at p198
            rw [c178] at p198
            rw [c202] at p198
            rw [c183] at p198
            have ov210 := w199.over (by rw [c180]; omega)
            obtain ⟨v211, c212⟩ : ∃ v, I191 a0 9 = v := ⟨_, rfl⟩
            have b213 := iv15_9 hS200.1 ta0 c212
            obtain ⟨v214, c215⟩ : ∃ v, I191 a0 13 = v := ⟨_, rfl⟩
            obtain ⟨v216, c217⟩ : ∃ v, I191 a0 14 = v := ⟨_, rfl⟩
            (try rw [c212] at ov210)
            (try rw [c215] at ov210)
            (try rw [c217] at ov210)
            (try rw [c180] at ov210)
            (try rw [c183] at ov210)
            (try rw [c185] at ov210)
            refine tr_aload_n dX12_readCall_86 rfl ?_
            refine tr_ldcwS dX12_readCall_87 ld12_352 ?_
            refine q_iconst dX12_readCall_90 (by decide) ?_
            intro v218 h219
            refine tr_aload_n dX12_readCall_91 rfl ?_
            refine tr_getR dX12_readCall_92 fl12_188 (kR15 hS200.1 ta0) d2 ?_
            refine q_getI dX12_readCall_95 fl12_192 (kR14 hS200.1 ta1) ((hS200.cell ta1 (by decide +kernel)).trans c30) ?_
            refine q_iconst dX12_readCall_98 (by decide) ?_
            intro v220 h221
            refine q_isubE dX12_readCall_99 (by intros; omega) ?_
            intro v222 h223
            refine q_callVi hE (M' := mX12_readPart) (as := [_, _, _]) dX12_readCall_100 lk12_249 inX12_readPart seX12_readPart myX12_readPart (by decide) ⟨by decide, by decide⟩ rfl (kR15 hS200.1 ta0) (Nat.le_of_ble_eq_true rfl) rfl rfl (by decide) (by decide) (k_X12_readPart hS200.1 ta0 (by decide)) ?_
            rintro v228 cn' K' N' I224 R225 L226 ⟨rfl, rfl, rfl, rfl, g227, p229, w230, -⟩
            have hS231 := hS200.tr g227 (by decide +kernel) (by decide +kernel)
            have c232 : I224 a1 5 = v49 := (g227.cell ta1 (by decide +kernel)).trans c201
            have b233 : 0 ≤ v228.toInt ∧ v228.toInt ≤ 239 := by omega
            clear p229
            have ov234 := w230.over (by rw [c212]; omega)
            obtain ⟨v235, c236⟩ : ∃ v, I224 a0 9 = v := ⟨_, rfl⟩
            have b237 := iv15_9 hS231.1 ta0 c236
            obtain ⟨v238, c239⟩ : ∃ v, I224 a0 13 = v := ⟨_, rfl⟩
            obtain ⟨v240, c241⟩ : ∃ v, I224 a0 14 = v := ⟨_, rfl⟩
            (try rw [c236] at ov234)
            (try rw [c239] at ov234)
            (try rw [c241] at ov234)
            (try rw [c212] at ov234)
            (try rw [c215] at ov234)
            (try rw [c217] at ov234)
            refine tr_istore_n dX12_readCall_103 (by decide) (by decide) ?_
            refine tr_aload_n dX12_readCall_104 rfl ?_
            refine tr_ldcwS dX12_readCall_105 ld12_354 ?_
            refine q_iconst dX12_readCall_108 (by decide) ?_
            intro v242 h243
            refine q_bipush dX12_readCall_109 (by decide +kernel) ?_
            intro v244 h245
            refine q_callVi hE (M' := mX12_readPart) (as := [_, _, _]) dX12_readCall_111 lk12_249 inX12_readPart seX12_readPart myX12_readPart (by decide) ⟨by decide, by decide⟩ rfl (kR15 hS231.1 ta0) (Nat.le_of_ble_eq_true rfl) rfl rfl (by decide) (by decide) (k_X12_readPart hS231.1 ta0 (by decide)) ?_
            rintro v250 cn' K' N' I246 R247 L248 ⟨rfl, rfl, rfl, rfl, g249, p251, w252, -⟩
            have hS253 := hS231.tr g249 (by decide +kernel) (by decide +kernel)
            have c254 : I246 a1 5 = v49 := (g249.cell ta1 (by decide +kernel)).trans c232
            have b255 : 1 ≤ v250.toInt ∧ v250.toInt ≤ 60 := by omega
            clear p251
            have ov256 := w252.over (by rw [c236]; omega)
            obtain ⟨v257, c258⟩ : ∃ v, I246 a0 9 = v := ⟨_, rfl⟩
            have b259 := iv15_9 hS253.1 ta0 c258
            obtain ⟨v260, c261⟩ : ∃ v, I246 a0 13 = v := ⟨_, rfl⟩
            obtain ⟨v262, c263⟩ : ∃ v, I246 a0 14 = v := ⟨_, rfl⟩
            (try rw [c258] at ov256)
            (try rw [c261] at ov256)
            (try rw [c263] at ov256)
            (try rw [c236] at ov256)
            (try rw [c239] at ov256)
            (try rw [c241] at ov256)
            refine tr_istore dX12_readCall_114 (by decide) (by decide) ?_
            refine tr_aload_n dX12_readCall_116 rfl ?_
            refine tr_ldcwS dX12_readCall_117 ld12_356 ?_
            refine q_iconst dX12_readCall_120 (by decide) ?_
            intro v264 h265
            refine q_bipush dX12_readCall_121 (by decide +kernel) ?_
            intro v266 h267
            refine q_callVi hE (M' := mX12_readPart) (as := [_, _, _]) dX12_readCall_123 lk12_249 inX12_readPart seX12_readPart myX12_readPart (by decide) ⟨by decide, by decide⟩ rfl (kR15 hS253.1 ta0) (Nat.le_of_ble_eq_true rfl) rfl rfl (by decide) (by decide) (k_X12_readPart hS253.1 ta0 (by decide)) ?_
            rintro v272 cn' K' N' I268 R269 L270 ⟨rfl, rfl, rfl, rfl, g271, p273, w274, -⟩
            have hS275 := hS253.tr g271 (by decide +kernel) (by decide +kernel)
            have c276 : I268 a1 5 = v49 := (g271.cell ta1 (by decide +kernel)).trans c254
            have b277 : 0 ≤ v272.toInt ∧ v272.toInt ≤ 99 := by omega
            clear p273
            have ov278 := w274.over (by rw [c258]; omega)
            obtain ⟨v279, c280⟩ : ∃ v, I268 a0 9 = v := ⟨_, rfl⟩
            have b281 := iv15_9 hS275.1 ta0 c280
            obtain ⟨v282, c283⟩ : ∃ v, I268 a0 13 = v := ⟨_, rfl⟩
            obtain ⟨v284, c285⟩ : ∃ v, I268 a0 14 = v := ⟨_, rfl⟩
            (try rw [c280] at ov278)
            (try rw [c283] at ov278)
            (try rw [c285] at ov278)
            (try rw [c258] at ov278)
            (try rw [c261] at ov278)
            (try rw [c263] at ov278)
            refine tr_istore dX12_readCall_126 (by decide) (by decide) ?_
            refine tr_aload_n dX12_readCall_128 rfl ?_
            refine q_getI dX12_readCall_129 fl12_99 (kR15 hS275.1 ta0) c280 ?_
            refine q_iconst dX12_readCall_132 (by decide) ?_
            intro v286 h287
            refine q_icmp_ne 137 dX12_readCall_133 (by decide) (fun h288 => ?_) (fun h288 => ?_)
            · skip
              exfalso; omega
            · skip
              have eF := hF.eq
              have eP := hP.eq
              obtain ⟨v289, c290⟩ : ∃ v, I268 a0 10 = v := ⟨_, rfl⟩
              have b291 := iv15_10 hS275.1 ta0 c290
              obtain ⟨v292, c293⟩ : ∃ v, I268 a0 11 = v := ⟨_, rfl⟩
              obtain ⟨y294, c295⟩ : ∃ v, L270 a0 15 = v := ⟨_, rfl⟩
              obtain ⟨v296, c297⟩ : ∃ v, I268 a0 12 = v := ⟨_, rfl⟩
              obtain ⟨v298, c299⟩ : ∃ v, I268 a0 8 = v := ⟨_, rfl⟩
              have b300 := iv15_8 hS275.1 ta0 c299
              exact tr_vret hZ dX12_readCall_136 rfl (by decide) (by decide) ⟨rfl, rfl, rfl, rfl, rfl, hS275, (Or.inr (⟨(by (try rw [w120]); first | done | omega), (by (try rw [w120]); (try rw [c280]); first | done | omega), (by (try rw [w120]); (try rw [c283]); first | done | omega), (by (try rw [w120]); (try rw [c285]); first | done | omega), trivial⟩)), trivial⟩
        · skip
          refine tr_aload_n dX12_readCall_42 rfl ?_
          refine tr_getR dX12_readCall_43 fl12_188 (kR15 hS76.1 ta0) d2 ?_
          obtain ⟨a301, d302, ta301⟩ := rf14_31 hW0 ta1
          refine tr_getR dX12_readCall_46 fl12_212 (kR14 hS76.1 ta1) d302 ?_
          refine tr_iload_n dX12_readCall_49 rfl ?_
          refine q_iald dX12_readCall_50 (kR74 hS76.1 ta301) (ti_in (nR74 hS76.1 ta301) (by omega) (by omega)) ?_
          intro v303 c304
          have fs305 := fd_sort hM99 hS76.1 ta1 rp152 (by rw [((hS76.cell ta1 (by decide +kernel)).trans c156)]; omega) (by omega) d302 c304
          refine q_iconst dX12_readCall_51 (by decide) ?_
          intro v306 h307
          refine q_icmp_eq 60 dX12_readCall_52 (by decide) (fun h308 => ?_) (fun h308 => ?_)
          · skip
            replace hF := hF.neg (by omega)
            replace hP := hP.neg (by omega)
            refine tr_aload_n dX12_readCall_60 rfl ?_
            refine q_getI dX12_readCall_61 fl12_99 (kR15 hS76.1 ta0) c103 ?_
            refine q_iconst dX12_readCall_64 (by decide) ?_
            intro v309 h310
            refine q_icmp_ne 72 dX12_readCall_65 (by decide) (fun h311 => ?_) (fun h311 => ?_)
            · skip
              refine tr_aload_n dX12_readCall_72 rfl ?_
              refine tr_getR dX12_readCall_73 fl12_188 (kR15 hS76.1 ta0) d2 ?_
              obtain ⟨a312, d313, ta312⟩ := rf14_32 hW0 ta1
              refine tr_getR dX12_readCall_76 fl12_215 (kR14 hS76.1 ta1) d313 ?_
              refine tr_iload_n dX12_readCall_79 rfl ?_
              refine q_iald dX12_readCall_80 (kR75 hS76.1 ta312) (ti_in (nR75 hS76.1 ta312) (by omega) (by omega)) ?_
              intro v314 c315
              refine tr_istore_n dX12_readCall_81 (by decide) (by decide) ?_
              refine tr_aload_n dX12_readCall_82 rfl ?_
              have p316 := p87 (by omega)
              refine q_callVv hE (M' := mX12_goesOn) (as := []) dX12_readCall_83 lk12_142 inX12_goesOn seX12_goesOn myX12_goesOn (by decide) ⟨by decide, by decide⟩ rfl (kR15 hS76.1 ta0) (Nat.le_of_ble_eq_true rfl) rfl rfl (by decide) (by decide) (fk_X12_goesOn hS76.1 (gB) ((tkN gB (tkN gB gs))) ta0 (TxA.kp hT hS76 ta0 rfl rfl rfl (by decide +kernel) (by decide +kernel)) (by (try rw [c115]); first | done | omega) (by (try rw [((hS76.cell ta0 (by decide +kernel)).trans c26)]); first | done | omega) (by (try rw [c103]); first | done | omega)) ?_
              rintro cn' K' N' I317 R318 L319 ⟨rfl, rfl, rfl, rfl, g320, gl321, p323, p324, p325, p326, p327, p328, p329, -⟩
              have hM330 : NmM I317 R0 L70 a1 gQ := NmM.kpS hM99 g320 hS76.1 ta1 (by decide +kernel) (by decide +kernel)
              have hS331 := hS76.tr g320 (by decide +kernel) (by decide +kernel)
              have c332 : I317 a1 5 = v49 := (g320.cell ta1 (by decide +kernel)).trans c77
              have c333 : I317 a0 13 = v100 := (g320.cell ta0 (by decide +kernel)).trans c101
              have hL334 := hL98.tr gl321 (by decide +kernel)
              have hM335 : NmM I317 R0 L319 a1 gQ := NmM.kpL hM330 gl321 hS331.1 ta1 (by decide +kernel)
              obtain ⟨v336, c337⟩ : ∃ v, I317 a0 9 = v := ⟨_, rfl⟩
              have b338 := iv15_9 hS331.1 ta0 c337
              rw [c337] at p323
              rw [c337] at p324
              obtain ⟨v339, c340⟩ : ∃ v, I317 a0 10 = v := ⟨_, rfl⟩
              have b341 := iv15_10 hS331.1 ta0 c340
              rw [c340] at p325
              obtain ⟨v342, c343⟩ : ∃ v, I317 a0 11 = v := ⟨_, rfl⟩
              rw [c343] at p326
              obtain ⟨y344, c345⟩ : ∃ v, L319 a0 15 = v := ⟨_, rfl⟩
              rw [c345] at p327
              obtain ⟨v346, c347⟩ : ∃ v, I317 a0 12 = v := ⟨_, rfl⟩
              rw [c347] at p328
              obtain ⟨v348, c349⟩ : ∃ v, I317 a0 8 = v := ⟨_, rfl⟩
              have b350 := iv15_8 hS331.1 ta0 c349
              rw [c349] at p329
              refine tr_aload_n dX12_readCall_86 rfl ?_
              refine tr_ldcwS dX12_readCall_87 ld12_352 ?_
              refine q_iconst dX12_readCall_90 (by decide) ?_
              intro v351 h352
              refine tr_aload_n dX12_readCall_91 rfl ?_
              refine tr_getR dX12_readCall_92 fl12_188 (kR15 hS331.1 ta0) d2 ?_
              refine q_getI dX12_readCall_95 fl12_192 (kR14 hS331.1 ta1) ((hS331.cell ta1 (by decide +kernel)).trans c30) ?_
              refine q_iconst dX12_readCall_98 (by decide) ?_
              intro v353 h354
              refine q_isubE dX12_readCall_99 (by intros; omega) ?_
              intro v355 h356
              refine q_callVi hE (M' := mX12_readPart) (as := [_, _, _]) dX12_readCall_100 lk12_249 inX12_readPart seX12_readPart myX12_readPart (by decide) ⟨by decide, by decide⟩ rfl (kR15 hS331.1 ta0) (Nat.le_of_ble_eq_true rfl) rfl rfl (by decide) (by decide) (fk_X12_readPart hS331.1 (gB) ((tkN gB (tkN gB gs))) ta0 (by decide) (TxA.kp hT hS331 ta0 rfl rfl rfl (by decide +kernel) (by decide +kernel)) (by (try rw [c337]); first | done | omega) (by (try rw [c337]); first | done | omega) (by (try rw [c340]); first | done | omega) (by (try rw [c343]); first | done | omega) (by (try rw [c345]); first | done | assumption) (by (try rw [c347]); first | done | assumption) (by (try rw [c349]); first | done | assumption) (by (try rw [((hS331.cell ta0 (by decide +kernel)).trans c26)]); first | done | omega)) ?_
              rintro v362 cn' K' N' I357 R358 L359 ⟨rfl, rfl, rfl, rfl, g360, dj363, -⟩
              (try rw [pk_2] at dj363)
              have hM364 : NmM I357 R0 L319 a1 gQ := NmM.kpS hM335 g360 hS331.1 ta1 (by decide +kernel) (by decide +kernel)
              have hS365 := hS331.tr g360 (by decide +kernel) (by decide +kernel)
              have c366 : I357 a1 5 = v49 := (g360.cell ta1 (by decide +kernel)).trans c332
              rcases dj363 with ⟨p367, p368, p369, p370, p371, p372, p373, p374, p375, p376, p377, p378, p379, p380, gl381, -⟩ | ⟨p382, p383, p384, p385, p386, -⟩ | ⟨p387, p388, p389, p390, p391, p392, p393, -⟩ | ⟨p394, p395, p396, p397, p398, p399, p400, p401, -⟩
              · skip
                have hL402 := hL334.tr gl381 (by decide +kernel)
                have hM403 : NmM I357 R0 L359 a1 gQ := NmM.kpL hM364 gl381 hS365.1 ta1 (by decide +kernel)
                obtain ⟨v404, c405⟩ : ∃ v, I357 a0 13 = v := ⟨_, rfl⟩
                rw [c405] at p373
                rw [c333] at p373
                obtain ⟨v406, c407⟩ : ∃ v, I357 a0 9 = v := ⟨_, rfl⟩
                have b408 := iv15_9 hS365.1 ta0 c407
                rw [c407] at p374
                rw [c407] at p375
                obtain ⟨v409, c410⟩ : ∃ v, I357 a0 10 = v := ⟨_, rfl⟩
                have b411 := iv15_10 hS365.1 ta0 c410
                rw [c410] at p376
                obtain ⟨v412, c413⟩ : ∃ v, I357 a0 11 = v := ⟨_, rfl⟩
                rw [c413] at p377
                obtain ⟨y414, c415⟩ : ∃ v, L359 a0 15 = v := ⟨_, rfl⟩
                rw [c415] at p378
                obtain ⟨v416, c417⟩ : ∃ v, I357 a0 12 = v := ⟨_, rfl⟩
                rw [c417] at p379
                obtain ⟨v418, c419⟩ : ∃ v, I357 a0 8 = v := ⟨_, rfl⟩
                have b420 := iv15_8 hS365.1 ta0 c419
                rw [c419] at p380
                replace hF := hF.neg (by omega)
                replace hP := hP.neg (by omega)
                replace hF := hF.neg (by omega)
                replace hP := hP.neg (by omega)
                replace hF := hF.neg (by omega)
                replace hP := hP.neg (by omega)
                refine tr_istore_n dX12_readCall_103 (by decide) (by decide) ?_
                refine tr_aload_n dX12_readCall_104 rfl ?_
                refine tr_ldcwS dX12_readCall_105 ld12_354 ?_
                refine q_iconst dX12_readCall_108 (by decide) ?_
                intro v421 h422
                refine q_bipush dX12_readCall_109 (by decide +kernel) ?_
                intro v423 h424
                refine q_callVi hE (M' := mX12_readPart) (as := [_, _, _]) dX12_readCall_111 lk12_249 inX12_readPart seX12_readPart myX12_readPart (by decide) ⟨by decide, by decide⟩ rfl (kR15 hS365.1 ta0) (Nat.le_of_ble_eq_true rfl) rfl rfl (by decide) (by decide) (fk_X12_readPart hS365.1 (gB) ((tkN gB (tkN gB (tkN gB (tkN gB gs))))) ta0 (by decide) (TxA.kp hT hS365 ta0 rfl rfl rfl (by decide +kernel) (by decide +kernel)) (by (try rw [c407]); first | done | omega) (by (try rw [c407]); first | done | omega) (by (try rw [c410]); first | done | omega) (by (try rw [c413]); first | done | omega) (by (try rw [c415]); first | done | assumption) (by (try rw [c417]); first | done | assumption) (by (try rw [c419]); first | done | assumption) (by (try rw [((hS365.cell ta0 (by decide +kernel)).trans c26)]); first | done | omega)) ?_
                rintro v430 cn' K' N' I425 R426 L427 ⟨rfl, rfl, rfl, rfl, g428, dj431, -⟩
                (try rw [pk_12] at dj431)
                have hM432 : NmM I425 R0 L359 a1 gQ := NmM.kpS hM403 g428 hS365.1 ta1 (by decide +kernel) (by decide +kernel)
                have hS433 := hS365.tr g428 (by decide +kernel) (by decide +kernel)
                have c434 : I425 a1 5 = v49 := (g428.cell ta1 (by decide +kernel)).trans c366
                rcases dj431 with ⟨p435, p436, p437, p438, p439, p440, p441, p442, p443, p444, p445, p446, p447, p448, gl449, -⟩ | ⟨p450, p451, p452, p453, p454, -⟩ | ⟨p455, p456, p457, p458, p459, p460, p461, -⟩ | ⟨p462, p463, p464, p465, p466, p467, p468, p469, -⟩
                · skip
                  have hL470 := hL402.tr gl449 (by decide +kernel)
                  have hM471 : NmM I425 R0 L427 a1 gQ := NmM.kpL hM432 gl449 hS433.1 ta1 (by decide +kernel)
                  obtain ⟨v472, c473⟩ : ∃ v, I425 a0 13 = v := ⟨_, rfl⟩
                  rw [c473] at p441
                  rw [c405] at p441
                  obtain ⟨v474, c475⟩ : ∃ v, I425 a0 9 = v := ⟨_, rfl⟩
                  have b476 := iv15_9 hS433.1 ta0 c475
                  rw [c475] at p442
                  rw [c475] at p443
                  obtain ⟨v477, c478⟩ : ∃ v, I425 a0 10 = v := ⟨_, rfl⟩
                  have b479 := iv15_10 hS433.1 ta0 c478
                  rw [c478] at p444
                  obtain ⟨v480, c481⟩ : ∃ v, I425 a0 11 = v := ⟨_, rfl⟩
                  rw [c481] at p445
                  obtain ⟨y482, c483⟩ : ∃ v, L427 a0 15 = v := ⟨_, rfl⟩
                  rw [c483] at p446
                  obtain ⟨v484, c485⟩ : ∃ v, I425 a0 12 = v := ⟨_, rfl⟩
                  rw [c485] at p447
                  obtain ⟨v486, c487⟩ : ∃ v, I425 a0 8 = v := ⟨_, rfl⟩
                  have b488 := iv15_8 hS433.1 ta0 c487
                  rw [c487] at p448
                  replace hF := hF.neg (by omega)
                  replace hP := hP.neg (by omega)
                  replace hF := hF.neg (by omega)
                  replace hP := hP.neg (by omega)
                  replace hF := hF.neg (by omega)
                  replace hP := hP.neg (by omega)
                  refine tr_istore dX12_readCall_114 (by decide) (by decide) ?_
                  refine tr_aload_n dX12_readCall_116 rfl ?_
                  refine tr_ldcwS dX12_readCall_117 ld12_356 ?_
                  refine q_iconst dX12_readCall_120 (by decide) ?_
                  intro v489 h490
                  refine q_bipush dX12_readCall_121 (by decide +kernel) ?_
                  intro v491 h492
                  refine q_callVi hE (M' := mX12_readPart) (as := [_, _, _]) dX12_readCall_123 lk12_249 inX12_readPart seX12_readPart myX12_readPart (by decide) ⟨by decide, by decide⟩ rfl (kR15 hS433.1 ta0) (Nat.le_of_ble_eq_true rfl) rfl rfl (by decide) (by decide) (fk_X12_readPart hS433.1 (gB) ((tkN gB (tkN gB (tkN gB (tkN gB (tkN gB (tkN gB gs))))))) ta0 (by decide) (TxA.kp hT hS433 ta0 rfl rfl rfl (by decide +kernel) (by decide +kernel)) (by (try rw [c475]); first | done | omega) (by (try rw [c475]); first | done | omega) (by (try rw [c478]); first | done | omega) (by (try rw [c481]); first | done | omega) (by (try rw [c483]); first | done | assumption) (by (try rw [c485]); first | done | assumption) (by (try rw [c487]); first | done | assumption) (by (try rw [((hS433.cell ta0 (by decide +kernel)).trans c26)]); first | done | omega)) ?_
                  rintro v498 cn' K' N' I493 R494 L495 ⟨rfl, rfl, rfl, rfl, g496, dj499, -⟩
                  (try rw [pk_8] at dj499)
                  have hM500 : NmM I493 R0 L427 a1 gQ := NmM.kpS hM471 g496 hS433.1 ta1 (by decide +kernel) (by decide +kernel)
                  have hS501 := hS433.tr g496 (by decide +kernel) (by decide +kernel)
                  have c502 : I493 a1 5 = v49 := (g496.cell ta1 (by decide +kernel)).trans c434
                  rcases dj499 with ⟨p503, p504, p505, p506, p507, p508, p509, p510, p511, p512, p513, p514, p515, p516, gl517, -⟩ | ⟨p518, p519, p520, p521, p522, -⟩ | ⟨p523, p524, p525, p526, p527, p528, p529, -⟩ | ⟨p530, p531, p532, p533, p534, p535, p536, p537, -⟩
                  · skip
                    have hL538 := hL470.tr gl517 (by decide +kernel)
                    have hM539 : NmM I493 R0 L495 a1 gQ := NmM.kpL hM500 gl517 hS501.1 ta1 (by decide +kernel)
                    obtain ⟨v540, c541⟩ : ∃ v, I493 a0 13 = v := ⟨_, rfl⟩
                    rw [c541] at p509
                    rw [c473] at p509
                    obtain ⟨v542, c543⟩ : ∃ v, I493 a0 9 = v := ⟨_, rfl⟩
                    have b544 := iv15_9 hS501.1 ta0 c543
                    rw [c543] at p510
                    rw [c543] at p511
                    obtain ⟨v545, c546⟩ : ∃ v, I493 a0 10 = v := ⟨_, rfl⟩
                    have b547 := iv15_10 hS501.1 ta0 c546
                    rw [c546] at p512
                    obtain ⟨v548, c549⟩ : ∃ v, I493 a0 11 = v := ⟨_, rfl⟩
                    rw [c549] at p513
                    obtain ⟨y550, c551⟩ : ∃ v, L495 a0 15 = v := ⟨_, rfl⟩
                    rw [c551] at p514
                    obtain ⟨v552, c553⟩ : ∃ v, I493 a0 12 = v := ⟨_, rfl⟩
                    rw [c553] at p515
                    obtain ⟨v554, c555⟩ : ∃ v, I493 a0 8 = v := ⟨_, rfl⟩
                    have b556 := iv15_8 hS501.1 ta0 c555
                    rw [c555] at p516
                    replace hF := hF.neg (by omega)
                    replace hP := hP.neg (by omega)
                    replace hF := hF.neg (by omega)
                    replace hP := hP.neg (by omega)
                    replace hF := hF.neg (by omega)
                    replace hP := hP.neg (by omega)
                    refine tr_istore dX12_readCall_126 (by decide) (by decide) ?_
                    refine tr_aload_n dX12_readCall_128 rfl ?_
                    refine q_getI dX12_readCall_129 fl12_99 (kR15 hS501.1 ta0) c543 ?_
                    refine q_iconst dX12_readCall_132 (by decide) ?_
                    intro v557 h558
                    refine q_icmp_ne 137 dX12_readCall_133 (by decide) (fun h559 => ?_) (fun h559 => ?_)
                    · skip
                      refine tr_aload_n dX12_readCall_137 rfl ?_
                      refine tr_getR dX12_readCall_138 fl12_188 (kR15 hS501.1 ta0) d2 ?_
                      obtain ⟨a560, d561, ta560⟩ := rf14_26 hW0 ta1
                      refine tr_getR dX12_readCall_141 fl12_358 (kR14 hS501.1 ta1) d561 ?_
                      refine tr_aload_n dX12_readCall_144 rfl ?_
                      refine tr_getR dX12_readCall_145 fl12_188 (kR15 hS501.1 ta0) d2 ?_
                      refine q_getI dX12_readCall_148 fl12_349 (kR14 hS501.1 ta1) c502 ?_
                      refine tr_iload_n dX12_readCall_151 rfl ?_
                      refine q_iast dX12_readCall_152 (kR69 hS501.1 ta560) (ti_in (nR69 hS501.1 ta560) (by omega) (by omega)) hS501 ta560 (iokF rfl) rfl (by rfl) ?_
                      intro I562 hS563 e565 f564
                      have c566 : I562 a1 5 = v49 := (f564 _ _ (fun q => by have z := ta1; rw [q.1, ta560] at z; exact absurd z (by decide))).trans c502
                      have c567 : I562 a0 13 = v540 := (f564 _ _ (fun q => by have z := ta0; rw [q.1, ta560] at z; exact absurd z (by decide))).trans c541
                      have c568 : I562 a0 9 = v542 := (f564 _ _ (fun q => by have z := ta0; rw [q.1, ta560] at z; exact absurd z (by decide))).trans c543
                      have c569 : I562 a0 10 = v545 := (f564 _ _ (fun q => by have z := ta0; rw [q.1, ta560] at z; exact absurd z (by decide))).trans c546
                      have c570 : I562 a0 11 = v548 := (f564 _ _ (fun q => by have z := ta0; rw [q.1, ta560] at z; exact absurd z (by decide))).trans c549
                      have c571 : I562 a0 12 = v552 := (f564 _ _ (fun q => by have z := ta0; rw [q.1, ta560] at z; exact absurd z (by decide))).trans c553
                      have c572 : I562 a0 8 = v554 := (f564 _ _ (fun q => by have z := ta0; rw [q.1, ta560] at z; exact absurd z (by decide))).trans c555
                      have hM573 : NmM I562 R0 L495 a1 gQ := NmM.kp1 hM539 f564 ta560 rfl rfl hS501.1 ta1
                      refine tr_aload_n dX12_readCall_153 rfl ?_
                      refine tr_getR dX12_readCall_154 fl12_188 (kR15 hS563.1 ta0) d2 ?_
                      obtain ⟨a574, d575, ta574⟩ := rf14_27 hW0 ta1
                      refine tr_getR dX12_readCall_157 fl12_361 (kR14 hS563.1 ta1) d575 ?_
                      refine tr_aload_n dX12_readCall_160 rfl ?_
                      refine tr_getR dX12_readCall_161 fl12_188 (kR15 hS563.1 ta0) d2 ?_
                      refine q_getI dX12_readCall_164 fl12_349 (kR14 hS563.1 ta1) c566 ?_
                      refine tr_iload_n dX12_readCall_167 rfl ?_
                      refine q_iast dX12_readCall_168 (kR70 hS563.1 ta574) (ti_in (nR70 hS563.1 ta574) (by omega) (by omega)) hS563 ta574 (iokF rfl) rfl (by rfl) ?_
                      intro I576 hS577 e579 f578
                      have c580 : I576 a1 5 = v49 := (f578 _ _ (fun q => by have z := ta1; rw [q.1, ta574] at z; exact absurd z (by decide))).trans c566
                      have c581 : I576 a0 13 = v540 := (f578 _ _ (fun q => by have z := ta0; rw [q.1, ta574] at z; exact absurd z (by decide))).trans c567
                      have c582 : I576 a0 9 = v542 := (f578 _ _ (fun q => by have z := ta0; rw [q.1, ta574] at z; exact absurd z (by decide))).trans c568
                      have c583 : I576 a0 10 = v545 := (f578 _ _ (fun q => by have z := ta0; rw [q.1, ta574] at z; exact absurd z (by decide))).trans c569
                      have c584 : I576 a0 11 = v548 := (f578 _ _ (fun q => by have z := ta0; rw [q.1, ta574] at z; exact absurd z (by decide))).trans c570
                      have c585 : I576 a0 12 = v552 := (f578 _ _ (fun q => by have z := ta0; rw [q.1, ta574] at z; exact absurd z (by decide))).trans c571
                      have c586 : I576 a0 8 = v554 := (f578 _ _ (fun q => by have z := ta0; rw [q.1, ta574] at z; exact absurd z (by decide))).trans c572
                      have hM587 : NmM I576 R0 L495 a1 gQ := NmM.kp1 hM573 f578 ta574 rfl rfl hS563.1 ta1
                      refine tr_aload_n dX12_readCall_169 rfl ?_
                      refine tr_getR dX12_readCall_170 fl12_188 (kR15 hS577.1 ta0) d2 ?_
                      obtain ⟨a588, d589, ta588⟩ := rf14_28 hW0 ta1
                      refine tr_getR dX12_readCall_173 fl12_364 (kR14 hS577.1 ta1) d589 ?_
                      refine tr_aload_n dX12_readCall_176 rfl ?_
                      refine tr_getR dX12_readCall_177 fl12_188 (kR15 hS577.1 ta0) d2 ?_
                      refine q_getI dX12_readCall_180 fl12_349 (kR14 hS577.1 ta1) c580 ?_
                      refine tr_iload dX12_readCall_183 rfl ?_
                      refine q_iast dX12_readCall_185 (kR71 hS577.1 ta588) (ti_in (nR71 hS577.1 ta588) (by omega) (by omega)) hS577 ta588 (iokF rfl) rfl (by rfl) ?_
                      intro I590 hS591 e593 f592
                      have c594 : I590 a1 5 = v49 := (f592 _ _ (fun q => by have z := ta1; rw [q.1, ta588] at z; exact absurd z (by decide))).trans c580
                      have c595 : I590 a0 13 = v540 := (f592 _ _ (fun q => by have z := ta0; rw [q.1, ta588] at z; exact absurd z (by decide))).trans c581
                      have c596 : I590 a0 9 = v542 := (f592 _ _ (fun q => by have z := ta0; rw [q.1, ta588] at z; exact absurd z (by decide))).trans c582
                      have c597 : I590 a0 10 = v545 := (f592 _ _ (fun q => by have z := ta0; rw [q.1, ta588] at z; exact absurd z (by decide))).trans c583
                      have c598 : I590 a0 11 = v548 := (f592 _ _ (fun q => by have z := ta0; rw [q.1, ta588] at z; exact absurd z (by decide))).trans c584
                      have c599 : I590 a0 12 = v552 := (f592 _ _ (fun q => by have z := ta0; rw [q.1, ta588] at z; exact absurd z (by decide))).trans c585
                      have c600 : I590 a0 8 = v554 := (f592 _ _ (fun q => by have z := ta0; rw [q.1, ta588] at z; exact absurd z (by decide))).trans c586
                      have hM601 : NmM I590 R0 L495 a1 gQ := NmM.kp1 hM587 f592 ta588 rfl rfl hS577.1 ta1
                      refine tr_aload_n dX12_readCall_186 rfl ?_
                      refine tr_getR dX12_readCall_187 fl12_188 (kR15 hS591.1 ta0) d2 ?_
                      obtain ⟨a602, d603, ta602⟩ := rf14_29 hW0 ta1
                      refine tr_getR dX12_readCall_190 fl12_367 (kR14 hS591.1 ta1) d603 ?_
                      refine tr_aload_n dX12_readCall_193 rfl ?_
                      refine tr_getR dX12_readCall_194 fl12_188 (kR15 hS591.1 ta0) d2 ?_
                      refine q_getI dX12_readCall_197 fl12_349 (kR14 hS591.1 ta1) c594 ?_
                      refine tr_iload dX12_readCall_200 rfl ?_
                      refine q_iast dX12_readCall_202 (kR72 hS591.1 ta602) (ti_in (nR72 hS591.1 ta602) (by omega) (by omega)) hS591 ta602 (iokF rfl) rfl (by rfl) ?_
                      intro I604 hS605 e607 f606
                      have c608 : I604 a1 5 = v49 := (f606 _ _ (fun q => by have z := ta1; rw [q.1, ta602] at z; exact absurd z (by decide))).trans c594
                      have c609 : I604 a0 13 = v540 := (f606 _ _ (fun q => by have z := ta0; rw [q.1, ta602] at z; exact absurd z (by decide))).trans c595
                      have c610 : I604 a0 9 = v542 := (f606 _ _ (fun q => by have z := ta0; rw [q.1, ta602] at z; exact absurd z (by decide))).trans c596
                      have c611 : I604 a0 10 = v545 := (f606 _ _ (fun q => by have z := ta0; rw [q.1, ta602] at z; exact absurd z (by decide))).trans c597
                      have c612 : I604 a0 11 = v548 := (f606 _ _ (fun q => by have z := ta0; rw [q.1, ta602] at z; exact absurd z (by decide))).trans c598
                      have c613 : I604 a0 12 = v552 := (f606 _ _ (fun q => by have z := ta0; rw [q.1, ta602] at z; exact absurd z (by decide))).trans c599
                      have c614 : I604 a0 8 = v554 := (f606 _ _ (fun q => by have z := ta0; rw [q.1, ta602] at z; exact absurd z (by decide))).trans c600
                      have hM615 : NmM I604 R0 L495 a1 gQ := NmM.kp1 hM601 f606 ta602 rfl rfl hS591.1 ta1
                      refine tr_aload_n dX12_readCall_203 rfl ?_
                      refine tr_getR dX12_readCall_204 fl12_188 (kR15 hS605.1 ta0) d2 ?_
                      refine tr_dup dX12_readCall_207 rfl ?_
                      refine q_getI dX12_readCall_208 fl12_349 (kR14 hS605.1 ta1) c608 ?_
                      refine q_iconst dX12_readCall_211 (by decide) ?_
                      intro v616 h617
                      refine q_iaddE dX12_readCall_212 (by intros; omega) ?_
                      intro v618 h619
                      refine q_putI dX12_readCall_213 fl12_349 (kR14 hS605.1 ta1) (Or.inl rfl) hS605 ta1 (by show (0 : Int) ≤ v618.toInt ∧ v618.toInt ≤ (6 : Int); omega) rfl (by decide +kernel) ?_
                      intro I620 hS621 e622 f623
                      have c624 : I620 a0 13 = v540 := (f623 _ _ (fun q => absurd q.2 (by decide))).trans c609
                      have c625 : I620 a0 9 = v542 := (f623 _ _ (fun q => absurd q.2 (by decide))).trans c610
                      have c626 : I620 a0 10 = v545 := (f623 _ _ (fun q => absurd q.2 (by decide))).trans c611
                      have c627 : I620 a0 11 = v548 := (f623 _ _ (fun q => absurd q.2 (by decide))).trans c612
                      have c628 : I620 a0 12 = v552 := (f623 _ _ (fun q => absurd q.2 (by decide))).trans c613
                      have c629 : I620 a0 8 = v554 := (f623 _ _ (fun q => absurd q.2 (by decide))).trans c614
                      have hM630 : NmM I620 R0 L495 a1 gQ := NmM.kp1 hM615 f623 ta1 rfl rfl hS605.1 ta1
                      have eF := hF.eq
                      have eP := hP.eq
                      obtain ⟨v631, c632⟩ : ∃ v, I620 a0 14 = v := ⟨_, rfl⟩
                      exact tr_vret hZ dX12_readCall_216 rfl (by decide) (by decide) ⟨rfl, rfl, rfl, rfl, rfl, hS621, (Or.inl ⟨(by (try rw [w120]); first | done | omega), (fun q0 z0 => by obtain rfl := Option.some.inj ((d2).symm.trans z0); (try rw [w120]); (try rw [((hS621.cell ta1 (by decide +kernel)).trans c30)]); first | done | omega), (fun q0 z0 => by obtain rfl := Option.some.inj ((d2).symm.trans z0); (try rw [w120]); (try rw [((hS621.cell ta1 (by decide +kernel)).trans c34)]); first | done | omega), (fun q0 z0 => by obtain rfl := Option.some.inj ((d2).symm.trans z0); (try rw [w120]); (try rw [((hS621.cell ta1 (by decide +kernel)).trans c38)]); first | done | omega), (fun q0 z0 => by obtain rfl := Option.some.inj ((d2).symm.trans z0); (try rw [w120]); (try rw [((hS621.cell ta1 (by decide +kernel)).trans c42)]); first | done | omega), (fun q0 z0 => by obtain rfl := Option.some.inj ((d2).symm.trans z0); (try rw [w120]); (try rw [((hS621.cell ta1 (by decide +kernel)).trans c46)]); first | done | omega), (fun q0 z0 => by obtain rfl := Option.some.inj ((d2).symm.trans z0); (try rw [w120]); (try rw [e622]); first | done | omega), (fun q0 z0 => by obtain rfl := Option.some.inj ((d2).symm.trans z0); (try rw [w120]); (try rw [((hS621.cell ta1 (by decide +kernel)).trans c54)]); first | done | omega), (fun q0 z0 => by obtain rfl := Option.some.inj ((d2).symm.trans z0); (try rw [w120]); (try rw [((hS621.cell ta1 (by decide +kernel)).trans c58)]); first | done | omega), (by (try rw [w120]); (try rw [c624]); (try rw [c65]); first | done | omega), (by (try rw [w120]); (try rw [c625]); first | done | omega), (by (try rw [w120]); (try rw [c625]); first | done | omega), (by (try rw [w120]); (try rw [c626]); first | done | omega), (by (try rw [w120]); (try rw [c627]); first | done | omega), (by (try rw [w120]); (try rw [c551]); first | done | assumption), (by (try rw [w120]); (try rw [c628]); first | done | assumption), (by (try rw [w120]); (try rw [c629]); first | done | assumption), hL538, (fun b hb => (Option.some.inj (d2.symm.trans hb)) ▸ NmM.ln (NmM.bd (k := srt gB gs) hM630 (by omega) (by omega)) rfl), trivial⟩), trivial⟩
                    · skip
                      exfalso; omega
                  · skip
                    obtain ⟨v633, c634⟩ : ∃ v, I493 a0 9 = v := ⟨_, rfl⟩
                    have b635 := iv15_9 hS501.1 ta0 c634
                    rw [c634] at p520
                    obtain ⟨v636, c637⟩ : ∃ v, I493 a0 13 = v := ⟨_, rfl⟩
                    rw [c637] at p521
                    obtain ⟨v638, c639⟩ : ∃ v, I493 a0 14 = v := ⟨_, rfl⟩
                    rw [c639] at p522
                    replace hF := hF.pos (by omega)
                    replace hP := hP.pos (by omega)
                    refine tr_istore dX12_readCall_126 (by decide) (by decide) ?_
                    refine tr_aload_n dX12_readCall_128 rfl ?_
                    refine q_getI dX12_readCall_129 fl12_99 (kR15 hS501.1 ta0) c634 ?_
                    refine q_iconst dX12_readCall_132 (by decide) ?_
                    intro v640 h641
                    refine q_icmp_ne 137 dX12_readCall_133 (by decide) (fun h642 => ?_) (fun h642 => ?_)
                    · skip
                      exfalso; omega
                    · skip
                      have eF := hF.eq
                      have eP := hP.eq
                      obtain ⟨v643, c644⟩ : ∃ v, I493 a0 10 = v := ⟨_, rfl⟩
                      have b645 := iv15_10 hS501.1 ta0 c644
                      obtain ⟨v646, c647⟩ : ∃ v, I493 a0 11 = v := ⟨_, rfl⟩
                      obtain ⟨y648, c649⟩ : ∃ v, L495 a0 15 = v := ⟨_, rfl⟩
                      obtain ⟨v650, c651⟩ : ∃ v, I493 a0 12 = v := ⟨_, rfl⟩
                      obtain ⟨v652, c653⟩ : ∃ v, I493 a0 8 = v := ⟨_, rfl⟩
                      have b654 := iv15_8 hS501.1 ta0 c653
                      exact tr_vret hZ dX12_readCall_136 rfl (by decide) (by decide) ⟨rfl, rfl, rfl, rfl, rfl, hS501, (Or.inr (⟨(by (try rw [w120]); first | done | omega), (by (try rw [w120]); (try rw [c634]); first | done | omega), (by (try rw [w120]); (try rw [c637]); first | done | omega), (by (try rw [w120]); (try rw [c639]); first | done | omega), trivial⟩)), trivial⟩
                  · skip
                    obtain ⟨v655, c656⟩ : ∃ v, I493 a0 9 = v := ⟨_, rfl⟩
                    have b657 := iv15_9 hS501.1 ta0 c656
                    rw [c656] at p527
                    obtain ⟨v658, c659⟩ : ∃ v, I493 a0 13 = v := ⟨_, rfl⟩
                    rw [c659] at p528
                    obtain ⟨v660, c661⟩ : ∃ v, I493 a0 14 = v := ⟨_, rfl⟩
                    rw [c661] at p529
                    replace hF := hF.neg (by omega)
                    replace hP := hP.neg (by omega)
                    replace hF := hF.pos (by omega)
                    replace hP := hP.pos (by omega)
                    refine tr_istore dX12_readCall_126 (by decide) (by decide) ?_
                    refine tr_aload_n dX12_readCall_128 rfl ?_
                    refine q_getI dX12_readCall_129 fl12_99 (kR15 hS501.1 ta0) c656 ?_
                    refine q_iconst dX12_readCall_132 (by decide) ?_
                    intro v662 h663
                    refine q_icmp_ne 137 dX12_readCall_133 (by decide) (fun h664 => ?_) (fun h664 => ?_)
                    · skip
                      exfalso; omega
                    · skip
                      have eF := hF.eq
                      have eP := hP.eq
                      obtain ⟨v665, c666⟩ : ∃ v, I493 a0 10 = v := ⟨_, rfl⟩
                      have b667 := iv15_10 hS501.1 ta0 c666
                      obtain ⟨v668, c669⟩ : ∃ v, I493 a0 11 = v := ⟨_, rfl⟩
                      obtain ⟨y670, c671⟩ : ∃ v, L495 a0 15 = v := ⟨_, rfl⟩
                      obtain ⟨v672, c673⟩ : ∃ v, I493 a0 12 = v := ⟨_, rfl⟩
                      obtain ⟨v674, c675⟩ : ∃ v, I493 a0 8 = v := ⟨_, rfl⟩
                      have b676 := iv15_8 hS501.1 ta0 c675
                      exact tr_vret hZ dX12_readCall_136 rfl (by decide) (by decide) ⟨rfl, rfl, rfl, rfl, rfl, hS501, (Or.inr (⟨(by (try rw [w120]); first | done | omega), (by (try rw [w120]); (try rw [c656]); first | done | omega), (by (try rw [w120]); (try rw [c659]); first | done | omega), (by (try rw [w120]); (try rw [c661]); first | done | omega), trivial⟩)), trivial⟩
                  · skip
                    obtain ⟨v677, c678⟩ : ∃ v, I493 a0 9 = v := ⟨_, rfl⟩
                    have b679 := iv15_9 hS501.1 ta0 c678
                    rw [c678] at p535
                    obtain ⟨v680, c681⟩ : ∃ v, I493 a0 13 = v := ⟨_, rfl⟩
                    rw [c681] at p536
                    obtain ⟨v682, c683⟩ : ∃ v, I493 a0 14 = v := ⟨_, rfl⟩
                    rw [c683] at p537
                    replace hF := hF.neg (by omega)
                    replace hP := hP.neg (by omega)
                    replace hF := hF.neg (by omega)
                    replace hP := hP.neg (by omega)
                    replace hF := hF.pos (by omega)
                    replace hP := hP.pos (by omega)
                    refine tr_istore dX12_readCall_126 (by decide) (by decide) ?_
                    refine tr_aload_n dX12_readCall_128 rfl ?_
                    refine q_getI dX12_readCall_129 fl12_99 (kR15 hS501.1 ta0) c678 ?_
                    refine q_iconst dX12_readCall_132 (by decide) ?_
                    intro v684 h685
                    refine q_icmp_ne 137 dX12_readCall_133 (by decide) (fun h686 => ?_) (fun h686 => ?_)
                    · skip
                      exfalso; omega
                    · skip
                      have eF := hF.eq
                      have eP := hP.eq
                      obtain ⟨v687, c688⟩ : ∃ v, I493 a0 10 = v := ⟨_, rfl⟩
                      have b689 := iv15_10 hS501.1 ta0 c688
                      obtain ⟨v690, c691⟩ : ∃ v, I493 a0 11 = v := ⟨_, rfl⟩
                      obtain ⟨y692, c693⟩ : ∃ v, L495 a0 15 = v := ⟨_, rfl⟩
                      obtain ⟨v694, c695⟩ : ∃ v, I493 a0 12 = v := ⟨_, rfl⟩
                      obtain ⟨v696, c697⟩ : ∃ v, I493 a0 8 = v := ⟨_, rfl⟩
                      have b698 := iv15_8 hS501.1 ta0 c697
                      exact tr_vret hZ dX12_readCall_136 rfl (by decide) (by decide) ⟨rfl, rfl, rfl, rfl, rfl, hS501, (Or.inr (⟨(by (try rw [w120]); first | done | omega), (by (try rw [w120]); (try rw [c678]); first | done | omega), (by (try rw [w120]); (try rw [c681]); first | done | omega), (by (try rw [w120]); (try rw [c683]); first | done | omega), trivial⟩)), trivial⟩
                · skip
                  obtain ⟨v699, c700⟩ : ∃ v, I425 a0 9 = v := ⟨_, rfl⟩
                  have b701 := iv15_9 hS433.1 ta0 c700
                  rw [c700] at p452
                  obtain ⟨v702, c703⟩ : ∃ v, I425 a0 13 = v := ⟨_, rfl⟩
                  rw [c703] at p453
                  obtain ⟨v704, c705⟩ : ∃ v, I425 a0 14 = v := ⟨_, rfl⟩
                  rw [c705] at p454
                  replace hF := hF.pos (by omega)
                  replace hP := hP.pos (by omega)
                  refine tr_istore dX12_readCall_114 (by decide) (by decide) ?_
                  refine tr_aload_n dX12_readCall_116 rfl ?_
                  refine tr_ldcwS dX12_readCall_117 ld12_356 ?_
                  refine q_iconst dX12_readCall_120 (by decide) ?_
                  intro v706 h707
                  refine q_bipush dX12_readCall_121 (by decide +kernel) ?_
                  intro v708 h709
                  refine q_callVi hE (M' := mX12_readPart) (as := [_, _, _]) dX12_readCall_123 lk12_249 inX12_readPart seX12_readPart myX12_readPart (by decide) ⟨by decide, by decide⟩ rfl (kR15 hS433.1 ta0) (Nat.le_of_ble_eq_true rfl) rfl rfl (by decide) (by decide) (k_X12_readPart hS433.1 ta0 (by decide)) ?_
                  rintro v714 cn' K' N' I710 R711 L712 ⟨rfl, rfl, rfl, rfl, g713, p715, w716, -⟩
                  have hS717 := hS433.tr g713 (by decide +kernel) (by decide +kernel)
                  have c718 : I710 a1 5 = v49 := (g713.cell ta1 (by decide +kernel)).trans c434
                  have b719 : 0 ≤ v714.toInt ∧ v714.toInt ≤ 99 := by omega
                  clear p715
                  have ov720 := w716.over (by rw [c700]; omega)
                  obtain ⟨v721, c722⟩ : ∃ v, I710 a0 9 = v := ⟨_, rfl⟩
                  have b723 := iv15_9 hS717.1 ta0 c722
                  obtain ⟨v724, c725⟩ : ∃ v, I710 a0 13 = v := ⟨_, rfl⟩
                  obtain ⟨v726, c727⟩ : ∃ v, I710 a0 14 = v := ⟨_, rfl⟩
                  (try rw [c722] at ov720)
                  (try rw [c725] at ov720)
                  (try rw [c727] at ov720)
                  (try rw [c700] at ov720)
                  (try rw [c703] at ov720)
                  (try rw [c705] at ov720)
                  refine tr_istore dX12_readCall_126 (by decide) (by decide) ?_
                  refine tr_aload_n dX12_readCall_128 rfl ?_
                  refine q_getI dX12_readCall_129 fl12_99 (kR15 hS717.1 ta0) c722 ?_
                  refine q_iconst dX12_readCall_132 (by decide) ?_
                  intro v728 h729
                  refine q_icmp_ne 137 dX12_readCall_133 (by decide) (fun h730 => ?_) (fun h730 => ?_)
                  · skip
                    exfalso; omega
                  · skip
                    have eF := hF.eq
                    have eP := hP.eq
                    obtain ⟨v731, c732⟩ : ∃ v, I710 a0 10 = v := ⟨_, rfl⟩
                    have b733 := iv15_10 hS717.1 ta0 c732
                    obtain ⟨v734, c735⟩ : ∃ v, I710 a0 11 = v := ⟨_, rfl⟩
                    obtain ⟨y736, c737⟩ : ∃ v, L712 a0 15 = v := ⟨_, rfl⟩
                    obtain ⟨v738, c739⟩ : ∃ v, I710 a0 12 = v := ⟨_, rfl⟩
                    obtain ⟨v740, c741⟩ : ∃ v, I710 a0 8 = v := ⟨_, rfl⟩
                    have b742 := iv15_8 hS717.1 ta0 c741
                    exact tr_vret hZ dX12_readCall_136 rfl (by decide) (by decide) ⟨rfl, rfl, rfl, rfl, rfl, hS717, (Or.inr (⟨(by (try rw [w120]); first | done | omega), (by (try rw [w120]); (try rw [c722]); first | done | omega), (by (try rw [w120]); (try rw [c725]); first | done | omega), (by (try rw [w120]); (try rw [c727]); first | done | omega), trivial⟩)), trivial⟩
                · skip
                  obtain ⟨v743, c744⟩ : ∃ v, I425 a0 9 = v := ⟨_, rfl⟩
                  have b745 := iv15_9 hS433.1 ta0 c744
                  rw [c744] at p459
                  obtain ⟨v746, c747⟩ : ∃ v, I425 a0 13 = v := ⟨_, rfl⟩
                  rw [c747] at p460
                  obtain ⟨v748, c749⟩ : ∃ v, I425 a0 14 = v := ⟨_, rfl⟩
                  rw [c749] at p461
                  replace hF := hF.neg (by omega)
                  replace hP := hP.neg (by omega)
                  replace hF := hF.pos (by omega)
                  replace hP := hP.pos (by omega)
                  refine tr_istore dX12_readCall_114 (by decide) (by decide) ?_
                  refine tr_aload_n dX12_readCall_116 rfl ?_
                  refine tr_ldcwS dX12_readCall_117 ld12_356 ?_
                  refine q_iconst dX12_readCall_120 (by decide) ?_
                  intro v750 h751
                  refine q_bipush dX12_readCall_121 (by decide +kernel) ?_
                  intro v752 h753
                  refine q_callVi hE (M' := mX12_readPart) (as := [_, _, _]) dX12_readCall_123 lk12_249 inX12_readPart seX12_readPart myX12_readPart (by decide) ⟨by decide, by decide⟩ rfl (kR15 hS433.1 ta0) (Nat.le_of_ble_eq_true rfl) rfl rfl (by decide) (by decide) (k_X12_readPart hS433.1 ta0 (by decide)) ?_
                  rintro v758 cn' K' N' I754 R755 L756 ⟨rfl, rfl, rfl, rfl, g757, p759, w760, -⟩
                  have hS761 := hS433.tr g757 (by decide +kernel) (by decide +kernel)
                  have c762 : I754 a1 5 = v49 := (g757.cell ta1 (by decide +kernel)).trans c434
                  have b763 : 0 ≤ v758.toInt ∧ v758.toInt ≤ 99 := by omega
                  clear p759
                  have ov764 := w760.over (by rw [c744]; omega)
                  obtain ⟨v765, c766⟩ : ∃ v, I754 a0 9 = v := ⟨_, rfl⟩
                  have b767 := iv15_9 hS761.1 ta0 c766
                  obtain ⟨v768, c769⟩ : ∃ v, I754 a0 13 = v := ⟨_, rfl⟩
                  obtain ⟨v770, c771⟩ : ∃ v, I754 a0 14 = v := ⟨_, rfl⟩
                  (try rw [c766] at ov764)
                  (try rw [c769] at ov764)
                  (try rw [c771] at ov764)
                  (try rw [c744] at ov764)
                  (try rw [c747] at ov764)
                  (try rw [c749] at ov764)
                  refine tr_istore dX12_readCall_126 (by decide) (by decide) ?_
                  refine tr_aload_n dX12_readCall_128 rfl ?_
                  refine q_getI dX12_readCall_129 fl12_99 (kR15 hS761.1 ta0) c766 ?_
                  refine q_iconst dX12_readCall_132 (by decide) ?_
                  intro v772 h773
                  refine q_icmp_ne 137 dX12_readCall_133 (by decide) (fun h774 => ?_) (fun h774 => ?_)
                  · skip
                    exfalso; omega
                  · skip
                    have eF := hF.eq
                    have eP := hP.eq
                    obtain ⟨v775, c776⟩ : ∃ v, I754 a0 10 = v := ⟨_, rfl⟩
                    have b777 := iv15_10 hS761.1 ta0 c776
                    obtain ⟨v778, c779⟩ : ∃ v, I754 a0 11 = v := ⟨_, rfl⟩
                    obtain ⟨y780, c781⟩ : ∃ v, L756 a0 15 = v := ⟨_, rfl⟩
                    obtain ⟨v782, c783⟩ : ∃ v, I754 a0 12 = v := ⟨_, rfl⟩
                    obtain ⟨v784, c785⟩ : ∃ v, I754 a0 8 = v := ⟨_, rfl⟩
                    have b786 := iv15_8 hS761.1 ta0 c785
                    exact tr_vret hZ dX12_readCall_136 rfl (by decide) (by decide) ⟨rfl, rfl, rfl, rfl, rfl, hS761, (Or.inr (⟨(by (try rw [w120]); first | done | omega), (by (try rw [w120]); (try rw [c766]); first | done | omega), (by (try rw [w120]); (try rw [c769]); first | done | omega), (by (try rw [w120]); (try rw [c771]); first | done | omega), trivial⟩)), trivial⟩
                · skip
                  obtain ⟨v787, c788⟩ : ∃ v, I425 a0 9 = v := ⟨_, rfl⟩
                  have b789 := iv15_9 hS433.1 ta0 c788
                  rw [c788] at p467
                  obtain ⟨v790, c791⟩ : ∃ v, I425 a0 13 = v := ⟨_, rfl⟩
                  rw [c791] at p468
                  obtain ⟨v792, c793⟩ : ∃ v, I425 a0 14 = v := ⟨_, rfl⟩
                  rw [c793] at p469
                  replace hF := hF.neg (by omega)
                  replace hP := hP.neg (by omega)
                  replace hF := hF.neg (by omega)
                  replace hP := hP.neg (by omega)
                  replace hF := hF.pos (by omega)
                  replace hP := hP.pos (by omega)
                  refine tr_istore dX12_readCall_114 (by decide) (by decide) ?_
                  refine tr_aload_n dX12_readCall_116 rfl ?_
                  refine tr_ldcwS dX12_readCall_117 ld12_356 ?_
                  refine q_iconst dX12_readCall_120 (by decide) ?_
                  intro v794 h795
                  refine q_bipush dX12_readCall_121 (by decide +kernel) ?_
                  intro v796 h797
                  refine q_callVi hE (M' := mX12_readPart) (as := [_, _, _]) dX12_readCall_123 lk12_249 inX12_readPart seX12_readPart myX12_readPart (by decide) ⟨by decide, by decide⟩ rfl (kR15 hS433.1 ta0) (Nat.le_of_ble_eq_true rfl) rfl rfl (by decide) (by decide) (k_X12_readPart hS433.1 ta0 (by decide)) ?_
                  rintro v802 cn' K' N' I798 R799 L800 ⟨rfl, rfl, rfl, rfl, g801, p803, w804, -⟩
                  have hS805 := hS433.tr g801 (by decide +kernel) (by decide +kernel)
                  have c806 : I798 a1 5 = v49 := (g801.cell ta1 (by decide +kernel)).trans c434
                  have b807 : 0 ≤ v802.toInt ∧ v802.toInt ≤ 99 := by omega
                  clear p803
                  have ov808 := w804.over (by rw [c788]; omega)
                  obtain ⟨v809, c810⟩ : ∃ v, I798 a0 9 = v := ⟨_, rfl⟩
                  have b811 := iv15_9 hS805.1 ta0 c810
                  obtain ⟨v812, c813⟩ : ∃ v, I798 a0 13 = v := ⟨_, rfl⟩
                  obtain ⟨v814, c815⟩ : ∃ v, I798 a0 14 = v := ⟨_, rfl⟩
                  (try rw [c810] at ov808)
                  (try rw [c813] at ov808)
                  (try rw [c815] at ov808)
                  (try rw [c788] at ov808)
                  (try rw [c791] at ov808)
                  (try rw [c793] at ov808)
                  refine tr_istore dX12_readCall_126 (by decide) (by decide) ?_
                  refine tr_aload_n dX12_readCall_128 rfl ?_
                  refine q_getI dX12_readCall_129 fl12_99 (kR15 hS805.1 ta0) c810 ?_
                  refine q_iconst dX12_readCall_132 (by decide) ?_
                  intro v816 h817
                  refine q_icmp_ne 137 dX12_readCall_133 (by decide) (fun h818 => ?_) (fun h818 => ?_)
                  · skip
                    exfalso; omega
                  · skip
                    have eF := hF.eq
                    have eP := hP.eq
                    obtain ⟨v819, c820⟩ : ∃ v, I798 a0 10 = v := ⟨_, rfl⟩
                    have b821 := iv15_10 hS805.1 ta0 c820
                    obtain ⟨v822, c823⟩ : ∃ v, I798 a0 11 = v := ⟨_, rfl⟩
                    obtain ⟨y824, c825⟩ : ∃ v, L800 a0 15 = v := ⟨_, rfl⟩
                    obtain ⟨v826, c827⟩ : ∃ v, I798 a0 12 = v := ⟨_, rfl⟩
                    obtain ⟨v828, c829⟩ : ∃ v, I798 a0 8 = v := ⟨_, rfl⟩
                    have b830 := iv15_8 hS805.1 ta0 c829
                    exact tr_vret hZ dX12_readCall_136 rfl (by decide) (by decide) ⟨rfl, rfl, rfl, rfl, rfl, hS805, (Or.inr (⟨(by (try rw [w120]); first | done | omega), (by (try rw [w120]); (try rw [c810]); first | done | omega), (by (try rw [w120]); (try rw [c813]); first | done | omega), (by (try rw [w120]); (try rw [c815]); first | done | omega), trivial⟩)), trivial⟩
              · skip
                obtain ⟨v831, c832⟩ : ∃ v, I357 a0 9 = v := ⟨_, rfl⟩
                have b833 := iv15_9 hS365.1 ta0 c832
                rw [c832] at p384
                obtain ⟨v834, c835⟩ : ∃ v, I357 a0 13 = v := ⟨_, rfl⟩
                rw [c835] at p385
                obtain ⟨v836, c837⟩ : ∃ v, I357 a0 14 = v := ⟨_, rfl⟩
                rw [c837] at p386
                replace hF := hF.pos (by omega)
                replace hP := hP.pos (by omega)
                refine tr_istore_n dX12_readCall_103 (by decide) (by decide) ?_
                refine tr_aload_n dX12_readCall_104 rfl ?_
                refine tr_ldcwS dX12_readCall_105 ld12_354 ?_
                refine q_iconst dX12_readCall_108 (by decide) ?_
                intro v838 h839
                refine q_bipush dX12_readCall_109 (by decide +kernel) ?_
                intro v840 h841
                refine q_callVi hE (M' := mX12_readPart) (as := [_, _, _]) dX12_readCall_111 lk12_249 inX12_readPart seX12_readPart myX12_readPart (by decide) ⟨by decide, by decide⟩ rfl (kR15 hS365.1 ta0) (Nat.le_of_ble_eq_true rfl) rfl rfl (by decide) (by decide) (k_X12_readPart hS365.1 ta0 (by decide)) ?_
                rintro v846 cn' K' N' I842 R843 L844 ⟨rfl, rfl, rfl, rfl, g845, p847, w848, -⟩
                have hS849 := hS365.tr g845 (by decide +kernel) (by decide +kernel)
                have c850 : I842 a1 5 = v49 := (g845.cell ta1 (by decide +kernel)).trans c366
                have b851 : 1 ≤ v846.toInt ∧ v846.toInt ≤ 60 := by omega
                clear p847
                have ov852 := w848.over (by rw [c832]; omega)
                obtain ⟨v853, c854⟩ : ∃ v, I842 a0 9 = v := ⟨_, rfl⟩
                have b855 := iv15_9 hS849.1 ta0 c854
                obtain ⟨v856, c857⟩ : ∃ v, I842 a0 13 = v := ⟨_, rfl⟩
                obtain ⟨v858, c859⟩ : ∃ v, I842 a0 14 = v := ⟨_, rfl⟩
                (try rw [c854] at ov852)
                (try rw [c857] at ov852)
                (try rw [c859] at ov852)
                (try rw [c832] at ov852)
                (try rw [c835] at ov852)
                (try rw [c837] at ov852)
                refine tr_istore dX12_readCall_114 (by decide) (by decide) ?_
                refine tr_aload_n dX12_readCall_116 rfl ?_
                refine tr_ldcwS dX12_readCall_117 ld12_356 ?_
                refine q_iconst dX12_readCall_120 (by decide) ?_
                intro v860 h861
                refine q_bipush dX12_readCall_121 (by decide +kernel) ?_
                intro v862 h863
                refine q_callVi hE (M' := mX12_readPart) (as := [_, _, _]) dX12_readCall_123 lk12_249 inX12_readPart seX12_readPart myX12_readPart (by decide) ⟨by decide, by decide⟩ rfl (kR15 hS849.1 ta0) (Nat.le_of_ble_eq_true rfl) rfl rfl (by decide) (by decide) (k_X12_readPart hS849.1 ta0 (by decide)) ?_
                rintro v868 cn' K' N' I864 R865 L866 ⟨rfl, rfl, rfl, rfl, g867, p869, w870, -⟩
                have hS871 := hS849.tr g867 (by decide +kernel) (by decide +kernel)
                have c872 : I864 a1 5 = v49 := (g867.cell ta1 (by decide +kernel)).trans c850
                have b873 : 0 ≤ v868.toInt ∧ v868.toInt ≤ 99 := by omega
                clear p869
                have ov874 := w870.over (by rw [c854]; omega)
                obtain ⟨v875, c876⟩ : ∃ v, I864 a0 9 = v := ⟨_, rfl⟩
                have b877 := iv15_9 hS871.1 ta0 c876
                obtain ⟨v878, c879⟩ : ∃ v, I864 a0 13 = v := ⟨_, rfl⟩
                obtain ⟨v880, c881⟩ : ∃ v, I864 a0 14 = v := ⟨_, rfl⟩
                (try rw [c876] at ov874)
                (try rw [c879] at ov874)
                (try rw [c881] at ov874)
                (try rw [c854] at ov874)
                (try rw [c857] at ov874)
                (try rw [c859] at ov874)
                refine tr_istore dX12_readCall_126 (by decide) (by decide) ?_
                refine tr_aload_n dX12_readCall_128 rfl ?_
                refine q_getI dX12_readCall_129 fl12_99 (kR15 hS871.1 ta0) c876 ?_
                refine q_iconst dX12_readCall_132 (by decide) ?_
                intro v882 h883
                refine q_icmp_ne 137 dX12_readCall_133 (by decide) (fun h884 => ?_) (fun h884 => ?_)
                · skip
                  exfalso; omega
                · skip
                  have eF := hF.eq
                  have eP := hP.eq
                  obtain ⟨v885, c886⟩ : ∃ v, I864 a0 10 = v := ⟨_, rfl⟩
                  have b887 := iv15_10 hS871.1 ta0 c886
                  obtain ⟨v888, c889⟩ : ∃ v, I864 a0 11 = v := ⟨_, rfl⟩
                  obtain ⟨y890, c891⟩ : ∃ v, L866 a0 15 = v := ⟨_, rfl⟩
                  obtain ⟨v892, c893⟩ : ∃ v, I864 a0 12 = v := ⟨_, rfl⟩
                  obtain ⟨v894, c895⟩ : ∃ v, I864 a0 8 = v := ⟨_, rfl⟩
                  have b896 := iv15_8 hS871.1 ta0 c895
                  exact tr_vret hZ dX12_readCall_136 rfl (by decide) (by decide) ⟨rfl, rfl, rfl, rfl, rfl, hS871, (Or.inr (⟨(by (try rw [w120]); first | done | omega), (by (try rw [w120]); (try rw [c876]); first | done | omega), (by (try rw [w120]); (try rw [c879]); first | done | omega), (by (try rw [w120]); (try rw [c881]); first | done | omega), trivial⟩)), trivial⟩
              · skip
                obtain ⟨v897, c898⟩ : ∃ v, I357 a0 9 = v := ⟨_, rfl⟩
                have b899 := iv15_9 hS365.1 ta0 c898
                rw [c898] at p391
                obtain ⟨v900, c901⟩ : ∃ v, I357 a0 13 = v := ⟨_, rfl⟩
                rw [c901] at p392
                obtain ⟨v902, c903⟩ : ∃ v, I357 a0 14 = v := ⟨_, rfl⟩
                rw [c903] at p393
                replace hF := hF.neg (by omega)
                replace hP := hP.neg (by omega)
                replace hF := hF.pos (by omega)
                replace hP := hP.pos (by omega)
                refine tr_istore_n dX12_readCall_103 (by decide) (by decide) ?_
                refine tr_aload_n dX12_readCall_104 rfl ?_
                refine tr_ldcwS dX12_readCall_105 ld12_354 ?_
                refine q_iconst dX12_readCall_108 (by decide) ?_
                intro v904 h905
                refine q_bipush dX12_readCall_109 (by decide +kernel) ?_
                intro v906 h907
                refine q_callVi hE (M' := mX12_readPart) (as := [_, _, _]) dX12_readCall_111 lk12_249 inX12_readPart seX12_readPart myX12_readPart (by decide) ⟨by decide, by decide⟩ rfl (kR15 hS365.1 ta0) (Nat.le_of_ble_eq_true rfl) rfl rfl (by decide) (by decide) (k_X12_readPart hS365.1 ta0 (by decide)) ?_
                rintro v912 cn' K' N' I908 R909 L910 ⟨rfl, rfl, rfl, rfl, g911, p913, w914, -⟩
                have hS915 := hS365.tr g911 (by decide +kernel) (by decide +kernel)
                have c916 : I908 a1 5 = v49 := (g911.cell ta1 (by decide +kernel)).trans c366
                have b917 : 1 ≤ v912.toInt ∧ v912.toInt ≤ 60 := by omega
                clear p913
                have ov918 := w914.over (by rw [c898]; omega)
                obtain ⟨v919, c920⟩ : ∃ v, I908 a0 9 = v := ⟨_, rfl⟩
                have b921 := iv15_9 hS915.1 ta0 c920
                obtain ⟨v922, c923⟩ : ∃ v, I908 a0 13 = v := ⟨_, rfl⟩
                obtain ⟨v924, c925⟩ : ∃ v, I908 a0 14 = v := ⟨_, rfl⟩
                (try rw [c920] at ov918)
                (try rw [c923] at ov918)
                (try rw [c925] at ov918)
                (try rw [c898] at ov918)
                (try rw [c901] at ov918)
                (try rw [c903] at ov918)
                refine tr_istore dX12_readCall_114 (by decide) (by decide) ?_
                refine tr_aload_n dX12_readCall_116 rfl ?_
                refine tr_ldcwS dX12_readCall_117 ld12_356 ?_
                refine q_iconst dX12_readCall_120 (by decide) ?_
                intro v926 h927
                refine q_bipush dX12_readCall_121 (by decide +kernel) ?_
                intro v928 h929
                refine q_callVi hE (M' := mX12_readPart) (as := [_, _, _]) dX12_readCall_123 lk12_249 inX12_readPart seX12_readPart myX12_readPart (by decide) ⟨by decide, by decide⟩ rfl (kR15 hS915.1 ta0) (Nat.le_of_ble_eq_true rfl) rfl rfl (by decide) (by decide) (k_X12_readPart hS915.1 ta0 (by decide)) ?_
                rintro v934 cn' K' N' I930 R931 L932 ⟨rfl, rfl, rfl, rfl, g933, p935, w936, -⟩
                have hS937 := hS915.tr g933 (by decide +kernel) (by decide +kernel)
                have c938 : I930 a1 5 = v49 := (g933.cell ta1 (by decide +kernel)).trans c916
                have b939 : 0 ≤ v934.toInt ∧ v934.toInt ≤ 99 := by omega
                clear p935
                have ov940 := w936.over (by rw [c920]; omega)
                obtain ⟨v941, c942⟩ : ∃ v, I930 a0 9 = v := ⟨_, rfl⟩
                have b943 := iv15_9 hS937.1 ta0 c942
                obtain ⟨v944, c945⟩ : ∃ v, I930 a0 13 = v := ⟨_, rfl⟩
                obtain ⟨v946, c947⟩ : ∃ v, I930 a0 14 = v := ⟨_, rfl⟩
                (try rw [c942] at ov940)
                (try rw [c945] at ov940)
                (try rw [c947] at ov940)
                (try rw [c920] at ov940)
                (try rw [c923] at ov940)
                (try rw [c925] at ov940)
                refine tr_istore dX12_readCall_126 (by decide) (by decide) ?_
                refine tr_aload_n dX12_readCall_128 rfl ?_
                refine q_getI dX12_readCall_129 fl12_99 (kR15 hS937.1 ta0) c942 ?_
                refine q_iconst dX12_readCall_132 (by decide) ?_
                intro v948 h949
                refine q_icmp_ne 137 dX12_readCall_133 (by decide) (fun h950 => ?_) (fun h950 => ?_)
                · skip
                  exfalso; omega
                · skip
                  have eF := hF.eq
                  have eP := hP.eq
                  obtain ⟨v951, c952⟩ : ∃ v, I930 a0 10 = v := ⟨_, rfl⟩
                  have b953 := iv15_10 hS937.1 ta0 c952
                  obtain ⟨v954, c955⟩ : ∃ v, I930 a0 11 = v := ⟨_, rfl⟩
                  obtain ⟨y956, c957⟩ : ∃ v, L932 a0 15 = v := ⟨_, rfl⟩
                  obtain ⟨v958, c959⟩ : ∃ v, I930 a0 12 = v := ⟨_, rfl⟩
                  obtain ⟨v960, c961⟩ : ∃ v, I930 a0 8 = v := ⟨_, rfl⟩
                  have b962 := iv15_8 hS937.1 ta0 c961
                  exact tr_vret hZ dX12_readCall_136 rfl (by decide) (by decide) ⟨rfl, rfl, rfl, rfl, rfl, hS937, (Or.inr (⟨(by (try rw [w120]); first | done | omega), (by (try rw [w120]); (try rw [c942]); first | done | omega), (by (try rw [w120]); (try rw [c945]); first | done | omega), (by (try rw [w120]); (try rw [c947]); first | done | omega), trivial⟩)), trivial⟩
              · skip
                obtain ⟨v963, c964⟩ : ∃ v, I357 a0 9 = v := ⟨_, rfl⟩
                have b965 := iv15_9 hS365.1 ta0 c964
                rw [c964] at p399
                obtain ⟨v966, c967⟩ : ∃ v, I357 a0 13 = v := ⟨_, rfl⟩
                rw [c967] at p400
                obtain ⟨v968, c969⟩ : ∃ v, I357 a0 14 = v := ⟨_, rfl⟩
                rw [c969] at p401
                replace hF := hF.neg (by omega)
                replace hP := hP.neg (by omega)
                replace hF := hF.neg (by omega)
                replace hP := hP.neg (by omega)
                replace hF := hF.pos (by omega)
                replace hP := hP.pos (by omega)
                refine tr_istore_n dX12_readCall_103 (by decide) (by decide) ?_
                refine tr_aload_n dX12_readCall_104 rfl ?_
                refine tr_ldcwS dX12_readCall_105 ld12_354 ?_
                refine q_iconst dX12_readCall_108 (by decide) ?_
                intro v970 h971
                refine q_bipush dX12_readCall_109 (by decide +kernel) ?_
                intro v972 h973
                refine q_callVi hE (M' := mX12_readPart) (as := [_, _, _]) dX12_readCall_111 lk12_249 inX12_readPart seX12_readPart myX12_readPart (by decide) ⟨by decide, by decide⟩ rfl (kR15 hS365.1 ta0) (Nat.le_of_ble_eq_true rfl) rfl rfl (by decide) (by decide) (k_X12_readPart hS365.1 ta0 (by decide)) ?_
                rintro v978 cn' K' N' I974 R975 L976 ⟨rfl, rfl, rfl, rfl, g977, p979, w980, -⟩
                have hS981 := hS365.tr g977 (by decide +kernel) (by decide +kernel)
                have c982 : I974 a1 5 = v49 := (g977.cell ta1 (by decide +kernel)).trans c366
                have b983 : 1 ≤ v978.toInt ∧ v978.toInt ≤ 60 := by omega
                clear p979
                have ov984 := w980.over (by rw [c964]; omega)
                obtain ⟨v985, c986⟩ : ∃ v, I974 a0 9 = v := ⟨_, rfl⟩
                have b987 := iv15_9 hS981.1 ta0 c986
                obtain ⟨v988, c989⟩ : ∃ v, I974 a0 13 = v := ⟨_, rfl⟩
                obtain ⟨v990, c991⟩ : ∃ v, I974 a0 14 = v := ⟨_, rfl⟩
                (try rw [c986] at ov984)
                (try rw [c989] at ov984)
                (try rw [c991] at ov984)
                (try rw [c964] at ov984)
                (try rw [c967] at ov984)
                (try rw [c969] at ov984)
                refine tr_istore dX12_readCall_114 (by decide) (by decide) ?_
                refine tr_aload_n dX12_readCall_116 rfl ?_
                refine tr_ldcwS dX12_readCall_117 ld12_356 ?_
                refine q_iconst dX12_readCall_120 (by decide) ?_
                intro v992 h993
                refine q_bipush dX12_readCall_121 (by decide +kernel) ?_
                intro v994 h995
                refine q_callVi hE (M' := mX12_readPart) (as := [_, _, _]) dX12_readCall_123 lk12_249 inX12_readPart seX12_readPart myX12_readPart (by decide) ⟨by decide, by decide⟩ rfl (kR15 hS981.1 ta0) (Nat.le_of_ble_eq_true rfl) rfl rfl (by decide) (by decide) (k_X12_readPart hS981.1 ta0 (by decide)) ?_
                rintro v1000 cn' K' N' I996 R997 L998 ⟨rfl, rfl, rfl, rfl, g999, p1001, w1002, -⟩
                have hS1003 := hS981.tr g999 (by decide +kernel) (by decide +kernel)
                have c1004 : I996 a1 5 = v49 := (g999.cell ta1 (by decide +kernel)).trans c982
                have b1005 : 0 ≤ v1000.toInt ∧ v1000.toInt ≤ 99 := by omega
                clear p1001
                have ov1006 := w1002.over (by rw [c986]; omega)
                obtain ⟨v1007, c1008⟩ : ∃ v, I996 a0 9 = v := ⟨_, rfl⟩
                have b1009 := iv15_9 hS1003.1 ta0 c1008
                obtain ⟨v1010, c1011⟩ : ∃ v, I996 a0 13 = v := ⟨_, rfl⟩
                obtain ⟨v1012, c1013⟩ : ∃ v, I996 a0 14 = v := ⟨_, rfl⟩
                (try rw [c1008] at ov1006)
                (try rw [c1011] at ov1006)
                (try rw [c1013] at ov1006)
                (try rw [c986] at ov1006)
                (try rw [c989] at ov1006)
                (try rw [c991] at ov1006)
                refine tr_istore dX12_readCall_126 (by decide) (by decide) ?_
                refine tr_aload_n dX12_readCall_128 rfl ?_
                refine q_getI dX12_readCall_129 fl12_99 (kR15 hS1003.1 ta0) c1008 ?_
                refine q_iconst dX12_readCall_132 (by decide) ?_
                intro v1014 h1015
                refine q_icmp_ne 137 dX12_readCall_133 (by decide) (fun h1016 => ?_) (fun h1016 => ?_)
                · skip
                  exfalso; omega
                · skip
                  have eF := hF.eq
                  have eP := hP.eq
                  obtain ⟨v1017, c1018⟩ : ∃ v, I996 a0 10 = v := ⟨_, rfl⟩
                  have b1019 := iv15_10 hS1003.1 ta0 c1018
                  obtain ⟨v1020, c1021⟩ : ∃ v, I996 a0 11 = v := ⟨_, rfl⟩
                  obtain ⟨y1022, c1023⟩ : ∃ v, L998 a0 15 = v := ⟨_, rfl⟩
                  obtain ⟨v1024, c1025⟩ : ∃ v, I996 a0 12 = v := ⟨_, rfl⟩
                  obtain ⟨v1026, c1027⟩ : ∃ v, I996 a0 8 = v := ⟨_, rfl⟩
                  have b1028 := iv15_8 hS1003.1 ta0 c1027
                  exact tr_vret hZ dX12_readCall_136 rfl (by decide) (by decide) ⟨rfl, rfl, rfl, rfl, rfl, hS1003, (Or.inr (⟨(by (try rw [w120]); first | done | omega), (by (try rw [w120]); (try rw [c1008]); first | done | omega), (by (try rw [w120]); (try rw [c1011]); first | done | omega), (by (try rw [w120]); (try rw [c1013]); first | done | omega), trivial⟩)), trivial⟩
            · skip
              exfalso; omega
          · skip
            replace hF := hF.pos (by omega)
            replace hP := hP.pos (by omega)
            refine tr_aload_n dX12_readCall_55 rfl ?_
            refine q_iconst dX12_readCall_56 (by decide) ?_
            intro v1029 h1030
            refine q_callVv hE (M' := mX12_flaw) (as := [_]) dX12_readCall_57 lk12_145 inX12_flaw seX12_flaw myX12_flaw (by decide) ⟨by decide, by decide⟩ rfl (kR15 hS76.1 ta0) (Nat.le_of_ble_eq_true rfl) rfl rfl (by decide) (by decide) (fk_X12_flaw hS76.1  ta0 (by omega) (by (try rw [c103]); first | done | omega)) ?_
            rintro cn' K' N' I1031 R1032 L1033 ⟨rfl, rfl, rfl, rfl, rfl, g1034, p1037, p1038, p1039, -⟩
            have hM1040 : NmM I1031 R0 L70 a1 gQ := NmM.kpS hM99 g1034 hS76.1 ta1 (by decide +kernel) (by decide +kernel)
            have hS1041 := hS76.tr g1034 (by decide +kernel) (by decide +kernel)
            have c1042 : I1031 a1 5 = v49 := (g1034.cell ta1 (by decide +kernel)).trans c77
            have c1043 : I1031 a0 10 = v105 := (g1034.cell ta0 (by decide +kernel)).trans c106
            have c1044 : I1031 a0 11 = v108 := (g1034.cell ta0 (by decide +kernel)).trans c109
            have c1045 : I1031 a0 12 = v112 := (g1034.cell ta0 (by decide +kernel)).trans c113
            have c1046 : I1031 a0 8 = v114 := (g1034.cell ta0 (by decide +kernel)).trans c115
            obtain ⟨v1047, c1048⟩ : ∃ v, I1031 a0 9 = v := ⟨_, rfl⟩
            have b1049 := iv15_9 hS1041.1 ta0 c1048
            rw [c1048] at p1037
            obtain ⟨v1050, c1051⟩ : ∃ v, I1031 a0 13 = v := ⟨_, rfl⟩
            rw [c1051] at p1038
            obtain ⟨v1052, c1053⟩ : ∃ v, I1031 a0 14 = v := ⟨_, rfl⟩
            rw [c1053] at p1039
            rw [c106] at p1039
            refine tr_aload_n dX12_readCall_60 rfl ?_
            refine q_getI dX12_readCall_61 fl12_99 (kR15 hS1041.1 ta0) c1048 ?_
            refine q_iconst dX12_readCall_64 (by decide) ?_
            intro v1054 h1055
            refine q_icmp_ne 72 dX12_readCall_65 (by decide) (fun h1056 => ?_) (fun h1056 => ?_)
            · skip
              exfalso; omega
            · skip
              refine q_iconst dX12_readCall_68 (by decide) ?_
              intro v1057 h1058
              refine tr_goto 81 dX12_readCall_69 (by decide) ?_
              refine tr_istore_n dX12_readCall_81 (by decide) (by decide) ?_
              refine tr_aload_n dX12_readCall_82 rfl ?_
              refine q_callVv hE (M' := mX12_goesOn) (as := []) dX12_readCall_83 lk12_142 inX12_goesOn seX12_goesOn myX12_goesOn (by decide) ⟨by decide, by decide⟩ rfl (kR15 hS1041.1 ta0) (Nat.le_of_ble_eq_true rfl) rfl rfl (by decide) (by decide) (k_X12_goesOn hS1041.1 ta0) ?_
              rintro cn' K' N' I1059 R1060 L1061 ⟨rfl, rfl, rfl, rfl, g1062, p1064, p1065, p1066, w1067, -⟩
              have hS1068 := hS1041.tr g1062 (by decide +kernel) (by decide +kernel)
              have c1069 : I1059 a1 5 = v49 := (g1062.cell ta1 (by decide +kernel)).trans c1042
              have c1070 : I1059 a0 13 = v1050 := (g1062.cell ta0 (by decide +kernel)).trans c1051
              have c1071 : I1059 a0 14 = v1052 := (g1062.cell ta0 (by decide +kernel)).trans c1053
              obtain ⟨v1072, c1073⟩ : ∃ v, I1059 a0 9 = v := ⟨_, rfl⟩
              have b1074 := iv15_9 hS1068.1 ta0 c1073
              rw [c1048] at p1064
              rw [c1073] at p1064
              rw [c1048] at p1065
              rw [c1073] at p1065
              obtain ⟨v1075, c1076⟩ : ∃ v, I1059 a0 8 = v := ⟨_, rfl⟩
              have b1077 := iv15_8 hS1068.1 ta0 c1076
              rw [c1076] at p1066
              rw [c1046] at p1066
              rw [c1070] at p1066
              rw [c1051] at p1066
              have ov1078 := w1067.over (by rw [c1048]; omega)
              obtain ⟨v1079, c1080⟩ : ∃ v, I1059 a0 9 = v := ⟨_, rfl⟩
              have b1081 := iv15_9 hS1068.1 ta0 c1080
              obtain ⟨v1082, c1083⟩ : ∃ v, I1059 a0 13 = v := ⟨_, rfl⟩
              obtain ⟨v1084, c1085⟩ : ∃ v, I1059 a0 14 = v := ⟨_, rfl⟩
              (try rw [c1080] at ov1078)
              (try rw [c1083] at ov1078)
              (try rw [c1085] at ov1078)
              (try rw [c1048] at ov1078)
              (try rw [c1051] at ov1078)
              (try rw [c1053] at ov1078)
              refine tr_aload_n dX12_readCall_86 rfl ?_
              refine tr_ldcwS dX12_readCall_87 ld12_352 ?_
              refine q_iconst dX12_readCall_90 (by decide) ?_
              intro v1086 h1087
              refine tr_aload_n dX12_readCall_91 rfl ?_
              refine tr_getR dX12_readCall_92 fl12_188 (kR15 hS1068.1 ta0) d2 ?_
              refine q_getI dX12_readCall_95 fl12_192 (kR14 hS1068.1 ta1) ((hS1068.cell ta1 (by decide +kernel)).trans c30) ?_
              refine q_iconst dX12_readCall_98 (by decide) ?_
              intro v1088 h1089
              refine q_isubE dX12_readCall_99 (by intros; omega) ?_
              intro v1090 h1091
              refine q_callVi hE (M' := mX12_readPart) (as := [_, _, _]) dX12_readCall_100 lk12_249 inX12_readPart seX12_readPart myX12_readPart (by decide) ⟨by decide, by decide⟩ rfl (kR15 hS1068.1 ta0) (Nat.le_of_ble_eq_true rfl) rfl rfl (by decide) (by decide) (k_X12_readPart hS1068.1 ta0 (by decide)) ?_
              rintro v1096 cn' K' N' I1092 R1093 L1094 ⟨rfl, rfl, rfl, rfl, g1095, p1097, w1098, -⟩
              have hS1099 := hS1068.tr g1095 (by decide +kernel) (by decide +kernel)
              have c1100 : I1092 a1 5 = v49 := (g1095.cell ta1 (by decide +kernel)).trans c1069
              have b1101 : 0 ≤ v1096.toInt ∧ v1096.toInt ≤ 239 := by omega
              clear p1097
              have ov1102 := w1098.over (by rw [c1080]; omega)
              obtain ⟨v1103, c1104⟩ : ∃ v, I1092 a0 9 = v := ⟨_, rfl⟩
              have b1105 := iv15_9 hS1099.1 ta0 c1104
              obtain ⟨v1106, c1107⟩ : ∃ v, I1092 a0 13 = v := ⟨_, rfl⟩
              obtain ⟨v1108, c1109⟩ : ∃ v, I1092 a0 14 = v := ⟨_, rfl⟩
              (try rw [c1104] at ov1102)
              (try rw [c1107] at ov1102)
              (try rw [c1109] at ov1102)
              (try rw [c1080] at ov1102)
              (try rw [c1083] at ov1102)
              (try rw [c1085] at ov1102)
              refine tr_istore_n dX12_readCall_103 (by decide) (by decide) ?_
              refine tr_aload_n dX12_readCall_104 rfl ?_
              refine tr_ldcwS dX12_readCall_105 ld12_354 ?_
              refine q_iconst dX12_readCall_108 (by decide) ?_
              intro v1110 h1111
              refine q_bipush dX12_readCall_109 (by decide +kernel) ?_
              intro v1112 h1113
              refine q_callVi hE (M' := mX12_readPart) (as := [_, _, _]) dX12_readCall_111 lk12_249 inX12_readPart seX12_readPart myX12_readPart (by decide) ⟨by decide, by decide⟩ rfl (kR15 hS1099.1 ta0) (Nat.le_of_ble_eq_true rfl) rfl rfl (by decide) (by decide) (k_X12_readPart hS1099.1 ta0 (by decide)) ?_
              rintro v1118 cn' K' N' I1114 R1115 L1116 ⟨rfl, rfl, rfl, rfl, g1117, p1119, w1120, -⟩
              have hS1121 := hS1099.tr g1117 (by decide +kernel) (by decide +kernel)
              have c1122 : I1114 a1 5 = v49 := (g1117.cell ta1 (by decide +kernel)).trans c1100
              have b1123 : 1 ≤ v1118.toInt ∧ v1118.toInt ≤ 60 := by omega
              clear p1119
              have ov1124 := w1120.over (by rw [c1104]; omega)
              obtain ⟨v1125, c1126⟩ : ∃ v, I1114 a0 9 = v := ⟨_, rfl⟩
              have b1127 := iv15_9 hS1121.1 ta0 c1126
              obtain ⟨v1128, c1129⟩ : ∃ v, I1114 a0 13 = v := ⟨_, rfl⟩
              obtain ⟨v1130, c1131⟩ : ∃ v, I1114 a0 14 = v := ⟨_, rfl⟩
              (try rw [c1126] at ov1124)
              (try rw [c1129] at ov1124)
              (try rw [c1131] at ov1124)
              (try rw [c1104] at ov1124)
              (try rw [c1107] at ov1124)
              (try rw [c1109] at ov1124)
              refine tr_istore dX12_readCall_114 (by decide) (by decide) ?_
              refine tr_aload_n dX12_readCall_116 rfl ?_
              refine tr_ldcwS dX12_readCall_117 ld12_356 ?_
              refine q_iconst dX12_readCall_120 (by decide) ?_
              intro v1132 h1133
              refine q_bipush dX12_readCall_121 (by decide +kernel) ?_
              intro v1134 h1135
              refine q_callVi hE (M' := mX12_readPart) (as := [_, _, _]) dX12_readCall_123 lk12_249 inX12_readPart seX12_readPart myX12_readPart (by decide) ⟨by decide, by decide⟩ rfl (kR15 hS1121.1 ta0) (Nat.le_of_ble_eq_true rfl) rfl rfl (by decide) (by decide) (k_X12_readPart hS1121.1 ta0 (by decide)) ?_
              rintro v1140 cn' K' N' I1136 R1137 L1138 ⟨rfl, rfl, rfl, rfl, g1139, p1141, w1142, -⟩
              have hS1143 := hS1121.tr g1139 (by decide +kernel) (by decide +kernel)
              have c1144 : I1136 a1 5 = v49 := (g1139.cell ta1 (by decide +kernel)).trans c1122
              have b1145 : 0 ≤ v1140.toInt ∧ v1140.toInt ≤ 99 := by omega
              clear p1141
              have ov1146 := w1142.over (by rw [c1126]; omega)
              obtain ⟨v1147, c1148⟩ : ∃ v, I1136 a0 9 = v := ⟨_, rfl⟩
              have b1149 := iv15_9 hS1143.1 ta0 c1148
              obtain ⟨v1150, c1151⟩ : ∃ v, I1136 a0 13 = v := ⟨_, rfl⟩
              obtain ⟨v1152, c1153⟩ : ∃ v, I1136 a0 14 = v := ⟨_, rfl⟩
              (try rw [c1148] at ov1146)
              (try rw [c1151] at ov1146)
              (try rw [c1153] at ov1146)
              (try rw [c1126] at ov1146)
              (try rw [c1129] at ov1146)
              (try rw [c1131] at ov1146)
              refine tr_istore dX12_readCall_126 (by decide) (by decide) ?_
              refine tr_aload_n dX12_readCall_128 rfl ?_
              refine q_getI dX12_readCall_129 fl12_99 (kR15 hS1143.1 ta0) c1148 ?_
              refine q_iconst dX12_readCall_132 (by decide) ?_
              intro v1154 h1155
              refine q_icmp_ne 137 dX12_readCall_133 (by decide) (fun h1156 => ?_) (fun h1156 => ?_)
              · skip
                exfalso; omega
              · skip
                have eF := hF.eq
                have eP := hP.eq
                obtain ⟨v1157, c1158⟩ : ∃ v, I1136 a0 10 = v := ⟨_, rfl⟩
                have b1159 := iv15_10 hS1143.1 ta0 c1158
                obtain ⟨v1160, c1161⟩ : ∃ v, I1136 a0 11 = v := ⟨_, rfl⟩
                obtain ⟨y1162, c1163⟩ : ∃ v, L1138 a0 15 = v := ⟨_, rfl⟩
                obtain ⟨v1164, c1165⟩ : ∃ v, I1136 a0 12 = v := ⟨_, rfl⟩
                obtain ⟨v1166, c1167⟩ : ∃ v, I1136 a0 8 = v := ⟨_, rfl⟩
                have b1168 := iv15_8 hS1143.1 ta0 c1167
                exact tr_vret hZ dX12_readCall_136 rfl (by decide) (by decide) ⟨rfl, rfl, rfl, rfl, rfl, hS1143, (Or.inr (⟨(by (try rw [w120]); first | done | omega), (by (try rw [w120]); (try rw [c1148]); first | done | omega), (by (try rw [w120]); (try rw [c1151]); first | done | omega), (by (try rw [w120]); (try rw [c1153]); first | done | omega), trivial⟩)), trivial⟩
      · skip
        exfalso; omega
    · skip
      replace hF := hF.pos (by omega)
      replace hP := hP.pos (by omega)
      refine q_if_ne 25 dX12_readCall_17 (by decide) (fun h1169 => ?_) (fun h1169 => ?_)
      · skip
        exfalso; omega
      · skip
        refine tr_aload_n dX12_readCall_20 rfl ?_
        refine q_iconst dX12_readCall_21 (by decide) ?_
        intro v1170 h1171
        refine q_callVv hE (M' := mX12_flaw) (as := [_]) dX12_readCall_22 lk12_145 inX12_flaw seX12_flaw myX12_flaw (by decide) ⟨by decide, by decide⟩ rfl (kR15 hS76.1 ta0) (Nat.le_of_ble_eq_true rfl) rfl rfl (by decide) (by decide) (fk_X12_flaw hS76.1  ta0 (by omega) (by (try rw [c103]); first | done | omega)) ?_
        rintro cn' K' N' I1172 R1173 L1174 ⟨rfl, rfl, rfl, rfl, rfl, g1175, p1178, p1179, p1180, -⟩
        have hM1181 : NmM I1172 R0 L70 a1 gQ := NmM.kpS hM99 g1175 hS76.1 ta1 (by decide +kernel) (by decide +kernel)
        have hS1182 := hS76.tr g1175 (by decide +kernel) (by decide +kernel)
        have c1183 : I1172 a1 5 = v49 := (g1175.cell ta1 (by decide +kernel)).trans c77
        have c1184 : I1172 a0 10 = v105 := (g1175.cell ta0 (by decide +kernel)).trans c106
        have c1185 : I1172 a0 11 = v108 := (g1175.cell ta0 (by decide +kernel)).trans c109
        have c1186 : I1172 a0 12 = v112 := (g1175.cell ta0 (by decide +kernel)).trans c113
        have c1187 : I1172 a0 8 = v114 := (g1175.cell ta0 (by decide +kernel)).trans c115
        obtain ⟨v1188, c1189⟩ : ∃ v, I1172 a0 9 = v := ⟨_, rfl⟩
        have b1190 := iv15_9 hS1182.1 ta0 c1189
        rw [c1189] at p1178
        obtain ⟨v1191, c1192⟩ : ∃ v, I1172 a0 13 = v := ⟨_, rfl⟩
        rw [c1192] at p1179
        obtain ⟨v1193, c1194⟩ : ∃ v, I1172 a0 14 = v := ⟨_, rfl⟩
        rw [c1194] at p1180
        rw [c106] at p1180
        refine tr_aload_n dX12_readCall_25 rfl ?_
        refine tr_getR dX12_readCall_26 fl12_188 (kR15 hS1182.1 ta0) d2 ?_
        refine tr_aload_n dX12_readCall_29 rfl ?_
        refine q_getLE dX12_readCall_30 fl12_118 (kR15 hS1182.1 ta0) c111 ?_
        refine q_callVi hE (M' := mX11_find) (as := [_]) dX12_readCall_33 lk12_201 inX11_find seX11_find myX11_find (by decide) ⟨by decide, by decide⟩ rfl (kR14 hS1182.1 ta1) (Nat.le_of_ble_eq_true rfl) rfl rfl (by decide) (by decide) (k_X11_find hS1182.1 ta1) ?_
        rintro v1199 cn' K' N' I1195 R1196 L1197 ⟨rfl, rfl, rfl, rfl, rfl, rfl, h1200, -⟩
        refine tr_istore_n dX12_readCall_36 (by decide) (by decide) ?_
        refine tr_iload_n dX12_readCall_37 rfl ?_
        refine q_iconst dX12_readCall_38 (by decide) ?_
        intro v1201 h1202
        refine q_icmp_eq 55 dX12_readCall_39 (by decide) (fun h1203 => ?_) (fun h1203 => ?_)
        · skip
          refine tr_aload_n dX12_readCall_55 rfl ?_
          refine q_iconst dX12_readCall_56 (by decide) ?_
          intro v1204 h1205
          refine q_callVv hE (M' := mX12_flaw) (as := [_]) dX12_readCall_57 lk12_145 inX12_flaw seX12_flaw myX12_flaw (by decide) ⟨by decide, by decide⟩ rfl (kR15 hS1182.1 ta0) (Nat.le_of_ble_eq_true rfl) rfl rfl (by decide) (by decide) (k_X12_flaw hS1182.1 ta0 (by omega)) ?_
          rintro cn' K' N' I1206 R1207 L1208 ⟨rfl, rfl, rfl, rfl, rfl, g1209, p1211, p1212, w1213, -⟩
          have hS1214 := hS1182.tr g1209 (by decide +kernel) (by decide +kernel)
          have c1215 : I1206 a1 5 = v49 := (g1209.cell ta1 (by decide +kernel)).trans c1183
          have c1216 : I1206 a0 10 = v105 := (g1209.cell ta0 (by decide +kernel)).trans c1184
          have c1217 : I1206 a0 11 = v108 := (g1209.cell ta0 (by decide +kernel)).trans c1185
          have c1218 : I1206 a0 12 = v112 := (g1209.cell ta0 (by decide +kernel)).trans c1186
          have c1219 : I1206 a0 8 = v114 := (g1209.cell ta0 (by decide +kernel)).trans c1187
          obtain ⟨v1220, c1221⟩ : ∃ v, I1206 a0 9 = v := ⟨_, rfl⟩
          have b1222 := iv15_9 hS1214.1 ta0 c1221
          rw [c1221] at p1211
          rw [c1219] at p1212
          rw [c1187] at p1212
          have ov1223 := w1213.over (by rw [c1189]; omega)
          obtain ⟨v1224, c1225⟩ : ∃ v, I1206 a0 9 = v := ⟨_, rfl⟩
          have b1226 := iv15_9 hS1214.1 ta0 c1225
          obtain ⟨v1227, c1228⟩ : ∃ v, I1206 a0 13 = v := ⟨_, rfl⟩
          obtain ⟨v1229, c1230⟩ : ∃ v, I1206 a0 14 = v := ⟨_, rfl⟩
          (try rw [c1225] at ov1223)
          (try rw [c1228] at ov1223)
          (try rw [c1230] at ov1223)
          (try rw [c1189] at ov1223)
          (try rw [c1192] at ov1223)
          (try rw [c1194] at ov1223)
          refine tr_aload_n dX12_readCall_60 rfl ?_
          refine q_getI dX12_readCall_61 fl12_99 (kR15 hS1214.1 ta0) c1225 ?_
          refine q_iconst dX12_readCall_64 (by decide) ?_
          intro v1231 h1232
          refine q_icmp_ne 72 dX12_readCall_65 (by decide) (fun h1233 => ?_) (fun h1233 => ?_)
          · skip
            exfalso; omega
          · skip
            refine q_iconst dX12_readCall_68 (by decide) ?_
            intro v1234 h1235
            refine tr_goto 81 dX12_readCall_69 (by decide) ?_
            refine tr_istore_n dX12_readCall_81 (by decide) (by decide) ?_
            refine tr_aload_n dX12_readCall_82 rfl ?_
            refine q_callVv hE (M' := mX12_goesOn) (as := []) dX12_readCall_83 lk12_142 inX12_goesOn seX12_goesOn myX12_goesOn (by decide) ⟨by decide, by decide⟩ rfl (kR15 hS1214.1 ta0) (Nat.le_of_ble_eq_true rfl) rfl rfl (by decide) (by decide) (k_X12_goesOn hS1214.1 ta0) ?_
            rintro cn' K' N' I1236 R1237 L1238 ⟨rfl, rfl, rfl, rfl, g1239, p1241, p1242, p1243, w1244, -⟩
            have hS1245 := hS1214.tr g1239 (by decide +kernel) (by decide +kernel)
            have c1246 : I1236 a1 5 = v49 := (g1239.cell ta1 (by decide +kernel)).trans c1215
            have c1247 : I1236 a0 13 = v1227 := (g1239.cell ta0 (by decide +kernel)).trans c1228
            have c1248 : I1236 a0 14 = v1229 := (g1239.cell ta0 (by decide +kernel)).trans c1230
            obtain ⟨v1249, c1250⟩ : ∃ v, I1236 a0 9 = v := ⟨_, rfl⟩
            have b1251 := iv15_9 hS1245.1 ta0 c1250
            rw [c1225] at p1241
            rw [c1250] at p1241
            rw [c1225] at p1242
            rw [c1250] at p1242
            obtain ⟨v1252, c1253⟩ : ∃ v, I1236 a0 8 = v := ⟨_, rfl⟩
            have b1254 := iv15_8 hS1245.1 ta0 c1253
            rw [c1253] at p1243
            rw [c1219] at p1243
            rw [c1247] at p1243
            rw [c1228] at p1243
            have ov1255 := w1244.over (by rw [c1225]; omega)
            obtain ⟨v1256, c1257⟩ : ∃ v, I1236 a0 9 = v := ⟨_, rfl⟩
            have b1258 := iv15_9 hS1245.1 ta0 c1257
            obtain ⟨v1259, c1260⟩ : ∃ v, I1236 a0 13 = v := ⟨_, rfl⟩
            obtain ⟨v1261, c1262⟩ : ∃ v, I1236 a0 14 = v := ⟨_, rfl⟩
            (try rw [c1257] at ov1255)
            (try rw [c1260] at ov1255)
            (try rw [c1262] at ov1255)
            (try rw [c1225] at ov1255)
            (try rw [c1228] at ov1255)
            (try rw [c1230] at ov1255)
            refine tr_aload_n dX12_readCall_86 rfl ?_
            refine tr_ldcwS dX12_readCall_87 ld12_352 ?_
            refine q_iconst dX12_readCall_90 (by decide) ?_
            intro v1263 h1264
            refine tr_aload_n dX12_readCall_91 rfl ?_
            refine tr_getR dX12_readCall_92 fl12_188 (kR15 hS1245.1 ta0) d2 ?_
            refine q_getI dX12_readCall_95 fl12_192 (kR14 hS1245.1 ta1) ((hS1245.cell ta1 (by decide +kernel)).trans c30) ?_
            refine q_iconst dX12_readCall_98 (by decide) ?_
            intro v1265 h1266
            refine q_isubE dX12_readCall_99 (by intros; omega) ?_
            intro v1267 h1268
            refine q_callVi hE (M' := mX12_readPart) (as := [_, _, _]) dX12_readCall_100 lk12_249 inX12_readPart seX12_readPart myX12_readPart (by decide) ⟨by decide, by decide⟩ rfl (kR15 hS1245.1 ta0) (Nat.le_of_ble_eq_true rfl) rfl rfl (by decide) (by decide) (k_X12_readPart hS1245.1 ta0 (by decide)) ?_
            rintro v1273 cn' K' N' I1269 R1270 L1271 ⟨rfl, rfl, rfl, rfl, g1272, p1274, w1275, -⟩
            have hS1276 := hS1245.tr g1272 (by decide +kernel) (by decide +kernel)
            have c1277 : I1269 a1 5 = v49 := (g1272.cell ta1 (by decide +kernel)).trans c1246
            have b1278 : 0 ≤ v1273.toInt ∧ v1273.toInt ≤ 239 := by omega
            clear p1274
            have ov1279 := w1275.over (by rw [c1257]; omega)
            obtain ⟨v1280, c1281⟩ : ∃ v, I1269 a0 9 = v := ⟨_, rfl⟩
            have b1282 := iv15_9 hS1276.1 ta0 c1281
            obtain ⟨v1283, c1284⟩ : ∃ v, I1269 a0 13 = v := ⟨_, rfl⟩
            obtain ⟨v1285, c1286⟩ : ∃ v, I1269 a0 14 = v := ⟨_, rfl⟩
            (try rw [c1281] at ov1279)
            (try rw [c1284] at ov1279)
            (try rw [c1286] at ov1279)
            (try rw [c1257] at ov1279)
            (try rw [c1260] at ov1279)
            (try rw [c1262] at ov1279)
            refine tr_istore_n dX12_readCall_103 (by decide) (by decide) ?_
            refine tr_aload_n dX12_readCall_104 rfl ?_
            refine tr_ldcwS dX12_readCall_105 ld12_354 ?_
            refine q_iconst dX12_readCall_108 (by decide) ?_
            intro v1287 h1288
            refine q_bipush dX12_readCall_109 (by decide +kernel) ?_
            intro v1289 h1290
            refine q_callVi hE (M' := mX12_readPart) (as := [_, _, _]) dX12_readCall_111 lk12_249 inX12_readPart seX12_readPart myX12_readPart (by decide) ⟨by decide, by decide⟩ rfl (kR15 hS1276.1 ta0) (Nat.le_of_ble_eq_true rfl) rfl rfl (by decide) (by decide) (k_X12_readPart hS1276.1 ta0 (by decide)) ?_
            rintro v1295 cn' K' N' I1291 R1292 L1293 ⟨rfl, rfl, rfl, rfl, g1294, p1296, w1297, -⟩
            have hS1298 := hS1276.tr g1294 (by decide +kernel) (by decide +kernel)
            have c1299 : I1291 a1 5 = v49 := (g1294.cell ta1 (by decide +kernel)).trans c1277
            have b1300 : 1 ≤ v1295.toInt ∧ v1295.toInt ≤ 60 := by omega
            clear p1296
            have ov1301 := w1297.over (by rw [c1281]; omega)
            obtain ⟨v1302, c1303⟩ : ∃ v, I1291 a0 9 = v := ⟨_, rfl⟩
            have b1304 := iv15_9 hS1298.1 ta0 c1303
            obtain ⟨v1305, c1306⟩ : ∃ v, I1291 a0 13 = v := ⟨_, rfl⟩
            obtain ⟨v1307, c1308⟩ : ∃ v, I1291 a0 14 = v := ⟨_, rfl⟩
            (try rw [c1303] at ov1301)
            (try rw [c1306] at ov1301)
            (try rw [c1308] at ov1301)
            (try rw [c1281] at ov1301)
            (try rw [c1284] at ov1301)
            (try rw [c1286] at ov1301)
            refine tr_istore dX12_readCall_114 (by decide) (by decide) ?_
            refine tr_aload_n dX12_readCall_116 rfl ?_
            refine tr_ldcwS dX12_readCall_117 ld12_356 ?_
            refine q_iconst dX12_readCall_120 (by decide) ?_
            intro v1309 h1310
            refine q_bipush dX12_readCall_121 (by decide +kernel) ?_
            intro v1311 h1312
            refine q_callVi hE (M' := mX12_readPart) (as := [_, _, _]) dX12_readCall_123 lk12_249 inX12_readPart seX12_readPart myX12_readPart (by decide) ⟨by decide, by decide⟩ rfl (kR15 hS1298.1 ta0) (Nat.le_of_ble_eq_true rfl) rfl rfl (by decide) (by decide) (k_X12_readPart hS1298.1 ta0 (by decide)) ?_
            rintro v1317 cn' K' N' I1313 R1314 L1315 ⟨rfl, rfl, rfl, rfl, g1316, p1318, w1319, -⟩
            have hS1320 := hS1298.tr g1316 (by decide +kernel) (by decide +kernel)
            have c1321 : I1313 a1 5 = v49 := (g1316.cell ta1 (by decide +kernel)).trans c1299
            have b1322 : 0 ≤ v1317.toInt ∧ v1317.toInt ≤ 99 := by omega
            clear p1318
            have ov1323 := w1319.over (by rw [c1303]; omega)
            obtain ⟨v1324, c1325⟩ : ∃ v, I1313 a0 9 = v := ⟨_, rfl⟩
            have b1326 := iv15_9 hS1320.1 ta0 c1325
            obtain ⟨v1327, c1328⟩ : ∃ v, I1313 a0 13 = v := ⟨_, rfl⟩
            obtain ⟨v1329, c1330⟩ : ∃ v, I1313 a0 14 = v := ⟨_, rfl⟩
            (try rw [c1325] at ov1323)
            (try rw [c1328] at ov1323)
            (try rw [c1330] at ov1323)
            (try rw [c1303] at ov1323)
            (try rw [c1306] at ov1323)
            (try rw [c1308] at ov1323)
            refine tr_istore dX12_readCall_126 (by decide) (by decide) ?_
            refine tr_aload_n dX12_readCall_128 rfl ?_
            refine q_getI dX12_readCall_129 fl12_99 (kR15 hS1320.1 ta0) c1325 ?_
            refine q_iconst dX12_readCall_132 (by decide) ?_
            intro v1331 h1332
            refine q_icmp_ne 137 dX12_readCall_133 (by decide) (fun h1333 => ?_) (fun h1333 => ?_)
            · skip
              exfalso; omega
            · skip
              have eF := hF.eq
              have eP := hP.eq
              obtain ⟨v1334, c1335⟩ : ∃ v, I1313 a0 10 = v := ⟨_, rfl⟩
              have b1336 := iv15_10 hS1320.1 ta0 c1335
              obtain ⟨v1337, c1338⟩ : ∃ v, I1313 a0 11 = v := ⟨_, rfl⟩
              obtain ⟨y1339, c1340⟩ : ∃ v, L1315 a0 15 = v := ⟨_, rfl⟩
              obtain ⟨v1341, c1342⟩ : ∃ v, I1313 a0 12 = v := ⟨_, rfl⟩
              obtain ⟨v1343, c1344⟩ : ∃ v, I1313 a0 8 = v := ⟨_, rfl⟩
              have b1345 := iv15_8 hS1320.1 ta0 c1344
              exact tr_vret hZ dX12_readCall_136 rfl (by decide) (by decide) ⟨rfl, rfl, rfl, rfl, rfl, hS1320, (Or.inr (⟨(by (try rw [w120]); first | done | omega), (by (try rw [w120]); (try rw [c1325]); first | done | omega), (by (try rw [w120]); (try rw [c1328]); first | done | omega), (by (try rw [w120]); (try rw [c1330]); first | done | omega), trivial⟩)), trivial⟩
        · skip
          refine tr_aload_n dX12_readCall_42 rfl ?_
          refine tr_getR dX12_readCall_43 fl12_188 (kR15 hS1182.1 ta0) d2 ?_
          obtain ⟨a1346, d1347, ta1346⟩ := rf14_31 hW0 ta1
          refine tr_getR dX12_readCall_46 fl12_212 (kR14 hS1182.1 ta1) d1347 ?_
          refine tr_iload_n dX12_readCall_49 rfl ?_
          refine q_iald dX12_readCall_50 (kR74 hS1182.1 ta1346) (ti_in (nR74 hS1182.1 ta1346) (by omega) (by omega)) ?_
          intro v1348 c1349
          refine q_iconst dX12_readCall_51 (by decide) ?_
          intro v1350 h1351
          refine q_icmp_eq 60 dX12_readCall_52 (by decide) (fun h1352 => ?_) (fun h1352 => ?_)
          · skip
            refine tr_aload_n dX12_readCall_60 rfl ?_
            refine q_getI dX12_readCall_61 fl12_99 (kR15 hS1182.1 ta0) c1189 ?_
            refine q_iconst dX12_readCall_64 (by decide) ?_
            intro v1353 h1354
            refine q_icmp_ne 72 dX12_readCall_65 (by decide) (fun h1355 => ?_) (fun h1355 => ?_)
            · skip
              exfalso; omega
            · skip
              refine q_iconst dX12_readCall_68 (by decide) ?_
              intro v1356 h1357
              refine tr_goto 81 dX12_readCall_69 (by decide) ?_
              refine tr_istore_n dX12_readCall_81 (by decide) (by decide) ?_
              refine tr_aload_n dX12_readCall_82 rfl ?_
              refine q_callVv hE (M' := mX12_goesOn) (as := []) dX12_readCall_83 lk12_142 inX12_goesOn seX12_goesOn myX12_goesOn (by decide) ⟨by decide, by decide⟩ rfl (kR15 hS1182.1 ta0) (Nat.le_of_ble_eq_true rfl) rfl rfl (by decide) (by decide) (k_X12_goesOn hS1182.1 ta0) ?_
              rintro cn' K' N' I1358 R1359 L1360 ⟨rfl, rfl, rfl, rfl, g1361, p1363, p1364, p1365, w1366, -⟩
              have hS1367 := hS1182.tr g1361 (by decide +kernel) (by decide +kernel)
              have c1368 : I1358 a1 5 = v49 := (g1361.cell ta1 (by decide +kernel)).trans c1183
              have c1369 : I1358 a0 13 = v1191 := (g1361.cell ta0 (by decide +kernel)).trans c1192
              have c1370 : I1358 a0 14 = v1193 := (g1361.cell ta0 (by decide +kernel)).trans c1194
              obtain ⟨v1371, c1372⟩ : ∃ v, I1358 a0 9 = v := ⟨_, rfl⟩
              have b1373 := iv15_9 hS1367.1 ta0 c1372
              rw [c1189] at p1363
              rw [c1372] at p1363
              rw [c1189] at p1364
              rw [c1372] at p1364
              obtain ⟨v1374, c1375⟩ : ∃ v, I1358 a0 8 = v := ⟨_, rfl⟩
              have b1376 := iv15_8 hS1367.1 ta0 c1375
              rw [c1375] at p1365
              rw [c1187] at p1365
              rw [c1369] at p1365
              rw [c1192] at p1365
              have ov1377 := w1366.over (by rw [c1189]; omega)
              obtain ⟨v1378, c1379⟩ : ∃ v, I1358 a0 9 = v := ⟨_, rfl⟩
              have b1380 := iv15_9 hS1367.1 ta0 c1379
              obtain ⟨v1381, c1382⟩ : ∃ v, I1358 a0 13 = v := ⟨_, rfl⟩
              obtain ⟨v1383, c1384⟩ : ∃ v, I1358 a0 14 = v := ⟨_, rfl⟩
              (try rw [c1379] at ov1377)
              (try rw [c1382] at ov1377)
              (try rw [c1384] at ov1377)
              (try rw [c1189] at ov1377)
              (try rw [c1192] at ov1377)
              (try rw [c1194] at ov1377)
              refine tr_aload_n dX12_readCall_86 rfl ?_
              refine tr_ldcwS dX12_readCall_87 ld12_352 ?_
              refine q_iconst dX12_readCall_90 (by decide) ?_
              intro v1385 h1386
              refine tr_aload_n dX12_readCall_91 rfl ?_
              refine tr_getR dX12_readCall_92 fl12_188 (kR15 hS1367.1 ta0) d2 ?_
              refine q_getI dX12_readCall_95 fl12_192 (kR14 hS1367.1 ta1) ((hS1367.cell ta1 (by decide +kernel)).trans c30) ?_
              refine q_iconst dX12_readCall_98 (by decide) ?_
              intro v1387 h1388
              refine q_isubE dX12_readCall_99 (by intros; omega) ?_
              intro v1389 h1390
              refine q_callVi hE (M' := mX12_readPart) (as := [_, _, _]) dX12_readCall_100 lk12_249 inX12_readPart seX12_readPart myX12_readPart (by decide) ⟨by decide, by decide⟩ rfl (kR15 hS1367.1 ta0) (Nat.le_of_ble_eq_true rfl) rfl rfl (by decide) (by decide) (k_X12_readPart hS1367.1 ta0 (by decide)) ?_
              rintro v1395 cn' K' N' I1391 R1392 L1393 ⟨rfl, rfl, rfl, rfl, g1394, p1396, w1397, -⟩
              have hS1398 := hS1367.tr g1394 (by decide +kernel) (by decide +kernel)
              have c1399 : I1391 a1 5 = v49 := (g1394.cell ta1 (by decide +kernel)).trans c1368
              have b1400 : 0 ≤ v1395.toInt ∧ v1395.toInt ≤ 239 := by omega
              clear p1396
              have ov1401 := w1397.over (by rw [c1379]; omega)
              obtain ⟨v1402, c1403⟩ : ∃ v, I1391 a0 9 = v := ⟨_, rfl⟩
              have b1404 := iv15_9 hS1398.1 ta0 c1403
              obtain ⟨v1405, c1406⟩ : ∃ v, I1391 a0 13 = v := ⟨_, rfl⟩
              obtain ⟨v1407, c1408⟩ : ∃ v, I1391 a0 14 = v := ⟨_, rfl⟩
              (try rw [c1403] at ov1401)
              (try rw [c1406] at ov1401)
              (try rw [c1408] at ov1401)
              (try rw [c1379] at ov1401)
              (try rw [c1382] at ov1401)
              (try rw [c1384] at ov1401)
              refine tr_istore_n dX12_readCall_103 (by decide) (by decide) ?_
              refine tr_aload_n dX12_readCall_104 rfl ?_
              refine tr_ldcwS dX12_readCall_105 ld12_354 ?_
              refine q_iconst dX12_readCall_108 (by decide) ?_
              intro v1409 h1410
              refine q_bipush dX12_readCall_109 (by decide +kernel) ?_
              intro v1411 h1412
              refine q_callVi hE (M' := mX12_readPart) (as := [_, _, _]) dX12_readCall_111 lk12_249 inX12_readPart seX12_readPart myX12_readPart (by decide) ⟨by decide, by decide⟩ rfl (kR15 hS1398.1 ta0) (Nat.le_of_ble_eq_true rfl) rfl rfl (by decide) (by decide) (k_X12_readPart hS1398.1 ta0 (by decide)) ?_
              rintro v1417 cn' K' N' I1413 R1414 L1415 ⟨rfl, rfl, rfl, rfl, g1416, p1418, w1419, -⟩
              have hS1420 := hS1398.tr g1416 (by decide +kernel) (by decide +kernel)
              have c1421 : I1413 a1 5 = v49 := (g1416.cell ta1 (by decide +kernel)).trans c1399
              have b1422 : 1 ≤ v1417.toInt ∧ v1417.toInt ≤ 60 := by omega
              clear p1418
              have ov1423 := w1419.over (by rw [c1403]; omega)
              obtain ⟨v1424, c1425⟩ : ∃ v, I1413 a0 9 = v := ⟨_, rfl⟩
              have b1426 := iv15_9 hS1420.1 ta0 c1425
              obtain ⟨v1427, c1428⟩ : ∃ v, I1413 a0 13 = v := ⟨_, rfl⟩
              obtain ⟨v1429, c1430⟩ : ∃ v, I1413 a0 14 = v := ⟨_, rfl⟩
              (try rw [c1425] at ov1423)
              (try rw [c1428] at ov1423)
              (try rw [c1430] at ov1423)
              (try rw [c1403] at ov1423)
              (try rw [c1406] at ov1423)
              (try rw [c1408] at ov1423)
              refine tr_istore dX12_readCall_114 (by decide) (by decide) ?_
              refine tr_aload_n dX12_readCall_116 rfl ?_
              refine tr_ldcwS dX12_readCall_117 ld12_356 ?_
              refine q_iconst dX12_readCall_120 (by decide) ?_
              intro v1431 h1432
              refine q_bipush dX12_readCall_121 (by decide +kernel) ?_
              intro v1433 h1434
              refine q_callVi hE (M' := mX12_readPart) (as := [_, _, _]) dX12_readCall_123 lk12_249 inX12_readPart seX12_readPart myX12_readPart (by decide) ⟨by decide, by decide⟩ rfl (kR15 hS1420.1 ta0) (Nat.le_of_ble_eq_true rfl) rfl rfl (by decide) (by decide) (k_X12_readPart hS1420.1 ta0 (by decide)) ?_
              rintro v1439 cn' K' N' I1435 R1436 L1437 ⟨rfl, rfl, rfl, rfl, g1438, p1440, w1441, -⟩
              have hS1442 := hS1420.tr g1438 (by decide +kernel) (by decide +kernel)
              have c1443 : I1435 a1 5 = v49 := (g1438.cell ta1 (by decide +kernel)).trans c1421
              have b1444 : 0 ≤ v1439.toInt ∧ v1439.toInt ≤ 99 := by omega
              clear p1440
              have ov1445 := w1441.over (by rw [c1425]; omega)
              obtain ⟨v1446, c1447⟩ : ∃ v, I1435 a0 9 = v := ⟨_, rfl⟩
              have b1448 := iv15_9 hS1442.1 ta0 c1447
              obtain ⟨v1449, c1450⟩ : ∃ v, I1435 a0 13 = v := ⟨_, rfl⟩
              obtain ⟨v1451, c1452⟩ : ∃ v, I1435 a0 14 = v := ⟨_, rfl⟩
              (try rw [c1447] at ov1445)
              (try rw [c1450] at ov1445)
              (try rw [c1452] at ov1445)
              (try rw [c1425] at ov1445)
              (try rw [c1428] at ov1445)
              (try rw [c1430] at ov1445)
              refine tr_istore dX12_readCall_126 (by decide) (by decide) ?_
              refine tr_aload_n dX12_readCall_128 rfl ?_
              refine q_getI dX12_readCall_129 fl12_99 (kR15 hS1442.1 ta0) c1447 ?_
              refine q_iconst dX12_readCall_132 (by decide) ?_
              intro v1453 h1454
              refine q_icmp_ne 137 dX12_readCall_133 (by decide) (fun h1455 => ?_) (fun h1455 => ?_)
              · skip
                exfalso; omega
              · skip
                have eF := hF.eq
                have eP := hP.eq
                obtain ⟨v1456, c1457⟩ : ∃ v, I1435 a0 10 = v := ⟨_, rfl⟩
                have b1458 := iv15_10 hS1442.1 ta0 c1457
                obtain ⟨v1459, c1460⟩ : ∃ v, I1435 a0 11 = v := ⟨_, rfl⟩
                obtain ⟨y1461, c1462⟩ : ∃ v, L1437 a0 15 = v := ⟨_, rfl⟩
                obtain ⟨v1463, c1464⟩ : ∃ v, I1435 a0 12 = v := ⟨_, rfl⟩
                obtain ⟨v1465, c1466⟩ : ∃ v, I1435 a0 8 = v := ⟨_, rfl⟩
                have b1467 := iv15_8 hS1442.1 ta0 c1466
                exact tr_vret hZ dX12_readCall_136 rfl (by decide) (by decide) ⟨rfl, rfl, rfl, rfl, rfl, hS1442, (Or.inr (⟨(by (try rw [w120]); first | done | omega), (by (try rw [w120]); (try rw [c1447]); first | done | omega), (by (try rw [w120]); (try rw [c1450]); first | done | omega), (by (try rw [w120]); (try rw [c1452]); first | done | omega), trivial⟩)), trivial⟩
          · skip
            refine tr_aload_n dX12_readCall_55 rfl ?_
            refine q_iconst dX12_readCall_56 (by decide) ?_
            intro v1468 h1469
            refine q_callVv hE (M' := mX12_flaw) (as := [_]) dX12_readCall_57 lk12_145 inX12_flaw seX12_flaw myX12_flaw (by decide) ⟨by decide, by decide⟩ rfl (kR15 hS1182.1 ta0) (Nat.le_of_ble_eq_true rfl) rfl rfl (by decide) (by decide) (k_X12_flaw hS1182.1 ta0 (by omega)) ?_
            rintro cn' K' N' I1470 R1471 L1472 ⟨rfl, rfl, rfl, rfl, rfl, g1473, p1475, p1476, w1477, -⟩
            have hS1478 := hS1182.tr g1473 (by decide +kernel) (by decide +kernel)
            have c1479 : I1470 a1 5 = v49 := (g1473.cell ta1 (by decide +kernel)).trans c1183
            have c1480 : I1470 a0 10 = v105 := (g1473.cell ta0 (by decide +kernel)).trans c1184
            have c1481 : I1470 a0 11 = v108 := (g1473.cell ta0 (by decide +kernel)).trans c1185
            have c1482 : I1470 a0 12 = v112 := (g1473.cell ta0 (by decide +kernel)).trans c1186
            have c1483 : I1470 a0 8 = v114 := (g1473.cell ta0 (by decide +kernel)).trans c1187
            obtain ⟨v1484, c1485⟩ : ∃ v, I1470 a0 9 = v := ⟨_, rfl⟩
            have b1486 := iv15_9 hS1478.1 ta0 c1485
            rw [c1485] at p1475
            rw [c1483] at p1476
            rw [c1187] at p1476
            have ov1487 := w1477.over (by rw [c1189]; omega)
            obtain ⟨v1488, c1489⟩ : ∃ v, I1470 a0 9 = v := ⟨_, rfl⟩
            have b1490 := iv15_9 hS1478.1 ta0 c1489
            obtain ⟨v1491, c1492⟩ : ∃ v, I1470 a0 13 = v := ⟨_, rfl⟩
            obtain ⟨v1493, c1494⟩ : ∃ v, I1470 a0 14 = v := ⟨_, rfl⟩
            (try rw [c1489] at ov1487)
            (try rw [c1492] at ov1487)
            (try rw [c1494] at ov1487)
            (try rw [c1189] at ov1487)
            (try rw [c1192] at ov1487)
            (try rw [c1194] at ov1487)
            refine tr_aload_n dX12_readCall_60 rfl ?_
            refine q_getI dX12_readCall_61 fl12_99 (kR15 hS1478.1 ta0) c1489 ?_
            refine q_iconst dX12_readCall_64 (by decide) ?_
            intro v1495 h1496
            refine q_icmp_ne 72 dX12_readCall_65 (by decide) (fun h1497 => ?_) (fun h1497 => ?_)
            · skip
              exfalso; omega
            · skip
              refine q_iconst dX12_readCall_68 (by decide) ?_
              intro v1498 h1499
              refine tr_goto 81 dX12_readCall_69 (by decide) ?_
              refine tr_istore_n dX12_readCall_81 (by decide) (by decide) ?_
              refine tr_aload_n dX12_readCall_82 rfl ?_
              refine q_callVv hE (M' := mX12_goesOn) (as := []) dX12_readCall_83 lk12_142 inX12_goesOn seX12_goesOn myX12_goesOn (by decide) ⟨by decide, by decide⟩ rfl (kR15 hS1478.1 ta0) (Nat.le_of_ble_eq_true rfl) rfl rfl (by decide) (by decide) (k_X12_goesOn hS1478.1 ta0) ?_
              rintro cn' K' N' I1500 R1501 L1502 ⟨rfl, rfl, rfl, rfl, g1503, p1505, p1506, p1507, w1508, -⟩
              have hS1509 := hS1478.tr g1503 (by decide +kernel) (by decide +kernel)
              have c1510 : I1500 a1 5 = v49 := (g1503.cell ta1 (by decide +kernel)).trans c1479
              have c1511 : I1500 a0 13 = v1491 := (g1503.cell ta0 (by decide +kernel)).trans c1492
              have c1512 : I1500 a0 14 = v1493 := (g1503.cell ta0 (by decide +kernel)).trans c1494
              obtain ⟨v1513, c1514⟩ : ∃ v, I1500 a0 9 = v := ⟨_, rfl⟩
              have b1515 := iv15_9 hS1509.1 ta0 c1514
              rw [c1489] at p1505
              rw [c1514] at p1505
              rw [c1489] at p1506
              rw [c1514] at p1506
              obtain ⟨v1516, c1517⟩ : ∃ v, I1500 a0 8 = v := ⟨_, rfl⟩
              have b1518 := iv15_8 hS1509.1 ta0 c1517
              rw [c1517] at p1507
              rw [c1483] at p1507
              rw [c1511] at p1507
              rw [c1492] at p1507
              have ov1519 := w1508.over (by rw [c1489]; omega)
              obtain ⟨v1520, c1521⟩ : ∃ v, I1500 a0 9 = v := ⟨_, rfl⟩
              have b1522 := iv15_9 hS1509.1 ta0 c1521
              obtain ⟨v1523, c1524⟩ : ∃ v, I1500 a0 13 = v := ⟨_, rfl⟩
              obtain ⟨v1525, c1526⟩ : ∃ v, I1500 a0 14 = v := ⟨_, rfl⟩
              (try rw [c1521] at ov1519)
              (try rw [c1524] at ov1519)
              (try rw [c1526] at ov1519)
              (try rw [c1489] at ov1519)
              (try rw [c1492] at ov1519)
              (try rw [c1494] at ov1519)
              refine tr_aload_n dX12_readCall_86 rfl ?_
              refine tr_ldcwS dX12_readCall_87 ld12_352 ?_
              refine q_iconst dX12_readCall_90 (by decide) ?_
              intro v1527 h1528
              refine tr_aload_n dX12_readCall_91 rfl ?_
              refine tr_getR dX12_readCall_92 fl12_188 (kR15 hS1509.1 ta0) d2 ?_
              refine q_getI dX12_readCall_95 fl12_192 (kR14 hS1509.1 ta1) ((hS1509.cell ta1 (by decide +kernel)).trans c30) ?_
              refine q_iconst dX12_readCall_98 (by decide) ?_
              intro v1529 h1530
              refine q_isubE dX12_readCall_99 (by intros; omega) ?_
              intro v1531 h1532
              refine q_callVi hE (M' := mX12_readPart) (as := [_, _, _]) dX12_readCall_100 lk12_249 inX12_readPart seX12_readPart myX12_readPart (by decide) ⟨by decide, by decide⟩ rfl (kR15 hS1509.1 ta0) (Nat.le_of_ble_eq_true rfl) rfl rfl (by decide) (by decide) (k_X12_readPart hS1509.1 ta0 (by decide)) ?_
              rintro v1537 cn' K' N' I1533 R1534 L1535 ⟨rfl, rfl, rfl, rfl, g1536, p1538, w1539, -⟩
              have hS1540 := hS1509.tr g1536 (by decide +kernel) (by decide +kernel)
              have c1541 : I1533 a1 5 = v49 := (g1536.cell ta1 (by decide +kernel)).trans c1510
              have b1542 : 0 ≤ v1537.toInt ∧ v1537.toInt ≤ 239 := by omega
              clear p1538
              have ov1543 := w1539.over (by rw [c1521]; omega)
              obtain ⟨v1544, c1545⟩ : ∃ v, I1533 a0 9 = v := ⟨_, rfl⟩
              have b1546 := iv15_9 hS1540.1 ta0 c1545
              obtain ⟨v1547, c1548⟩ : ∃ v, I1533 a0 13 = v := ⟨_, rfl⟩
              obtain ⟨v1549, c1550⟩ : ∃ v, I1533 a0 14 = v := ⟨_, rfl⟩
              (try rw [c1545] at ov1543)
              (try rw [c1548] at ov1543)
              (try rw [c1550] at ov1543)
              (try rw [c1521] at ov1543)
              (try rw [c1524] at ov1543)
              (try rw [c1526] at ov1543)
              refine tr_istore_n dX12_readCall_103 (by decide) (by decide) ?_
              refine tr_aload_n dX12_readCall_104 rfl ?_
              refine tr_ldcwS dX12_readCall_105 ld12_354 ?_
              refine q_iconst dX12_readCall_108 (by decide) ?_
              intro v1551 h1552
              refine q_bipush dX12_readCall_109 (by decide +kernel) ?_
              intro v1553 h1554
              refine q_callVi hE (M' := mX12_readPart) (as := [_, _, _]) dX12_readCall_111 lk12_249 inX12_readPart seX12_readPart myX12_readPart (by decide) ⟨by decide, by decide⟩ rfl (kR15 hS1540.1 ta0) (Nat.le_of_ble_eq_true rfl) rfl rfl (by decide) (by decide) (k_X12_readPart hS1540.1 ta0 (by decide)) ?_
              rintro v1559 cn' K' N' I1555 R1556 L1557 ⟨rfl, rfl, rfl, rfl, g1558, p1560, w1561, -⟩
              have hS1562 := hS1540.tr g1558 (by decide +kernel) (by decide +kernel)
              have c1563 : I1555 a1 5 = v49 := (g1558.cell ta1 (by decide +kernel)).trans c1541
              have b1564 : 1 ≤ v1559.toInt ∧ v1559.toInt ≤ 60 := by omega
              clear p1560
              have ov1565 := w1561.over (by rw [c1545]; omega)
              obtain ⟨v1566, c1567⟩ : ∃ v, I1555 a0 9 = v := ⟨_, rfl⟩
              have b1568 := iv15_9 hS1562.1 ta0 c1567
              obtain ⟨v1569, c1570⟩ : ∃ v, I1555 a0 13 = v := ⟨_, rfl⟩
              obtain ⟨v1571, c1572⟩ : ∃ v, I1555 a0 14 = v := ⟨_, rfl⟩
              (try rw [c1567] at ov1565)
              (try rw [c1570] at ov1565)
              (try rw [c1572] at ov1565)
              (try rw [c1545] at ov1565)
              (try rw [c1548] at ov1565)
              (try rw [c1550] at ov1565)
              refine tr_istore dX12_readCall_114 (by decide) (by decide) ?_
              refine tr_aload_n dX12_readCall_116 rfl ?_
              refine tr_ldcwS dX12_readCall_117 ld12_356 ?_
              refine q_iconst dX12_readCall_120 (by decide) ?_
              intro v1573 h1574
              refine q_bipush dX12_readCall_121 (by decide +kernel) ?_
              intro v1575 h1576
              refine q_callVi hE (M' := mX12_readPart) (as := [_, _, _]) dX12_readCall_123 lk12_249 inX12_readPart seX12_readPart myX12_readPart (by decide) ⟨by decide, by decide⟩ rfl (kR15 hS1562.1 ta0) (Nat.le_of_ble_eq_true rfl) rfl rfl (by decide) (by decide) (k_X12_readPart hS1562.1 ta0 (by decide)) ?_
              rintro v1581 cn' K' N' I1577 R1578 L1579 ⟨rfl, rfl, rfl, rfl, g1580, p1582, w1583, -⟩
              have hS1584 := hS1562.tr g1580 (by decide +kernel) (by decide +kernel)
              have c1585 : I1577 a1 5 = v49 := (g1580.cell ta1 (by decide +kernel)).trans c1563
              have b1586 : 0 ≤ v1581.toInt ∧ v1581.toInt ≤ 99 := by omega
              clear p1582
              have ov1587 := w1583.over (by rw [c1567]; omega)
              obtain ⟨v1588, c1589⟩ : ∃ v, I1577 a0 9 = v := ⟨_, rfl⟩
              have b1590 := iv15_9 hS1584.1 ta0 c1589
              obtain ⟨v1591, c1592⟩ : ∃ v, I1577 a0 13 = v := ⟨_, rfl⟩
              obtain ⟨v1593, c1594⟩ : ∃ v, I1577 a0 14 = v := ⟨_, rfl⟩
              (try rw [c1589] at ov1587)
              (try rw [c1592] at ov1587)
              (try rw [c1594] at ov1587)
              (try rw [c1567] at ov1587)
              (try rw [c1570] at ov1587)
              (try rw [c1572] at ov1587)
              refine tr_istore dX12_readCall_126 (by decide) (by decide) ?_
              refine tr_aload_n dX12_readCall_128 rfl ?_
              refine q_getI dX12_readCall_129 fl12_99 (kR15 hS1584.1 ta0) c1589 ?_
              refine q_iconst dX12_readCall_132 (by decide) ?_
              intro v1595 h1596
              refine q_icmp_ne 137 dX12_readCall_133 (by decide) (fun h1597 => ?_) (fun h1597 => ?_)
              · skip
                exfalso; omega
              · skip
                have eF := hF.eq
                have eP := hP.eq
                obtain ⟨v1598, c1599⟩ : ∃ v, I1577 a0 10 = v := ⟨_, rfl⟩
                have b1600 := iv15_10 hS1584.1 ta0 c1599
                obtain ⟨v1601, c1602⟩ : ∃ v, I1577 a0 11 = v := ⟨_, rfl⟩
                obtain ⟨y1603, c1604⟩ : ∃ v, L1579 a0 15 = v := ⟨_, rfl⟩
                obtain ⟨v1605, c1606⟩ : ∃ v, I1577 a0 12 = v := ⟨_, rfl⟩
                obtain ⟨v1607, c1608⟩ : ∃ v, I1577 a0 8 = v := ⟨_, rfl⟩
                have b1609 := iv15_8 hS1584.1 ta0 c1608
                exact tr_vret hZ dX12_readCall_136 rfl (by decide) (by decide) ⟨rfl, rfl, rfl, rfl, rfl, hS1584, (Or.inr (⟨(by (try rw [w120]); first | done | omega), (by (try rw [w120]); (try rw [c1589]); first | done | omega), (by (try rw [w120]); (try rw [c1592]); first | done | omega), (by (try rw [w120]); (try rw [c1594]); first | done | omega), trivial⟩)), trivial⟩
  · skip
    obtain ⟨v1610, c1611⟩ : ∃ v, I68 a0 9 = v := ⟨_, rfl⟩
    have b1612 := iv15_9 hS76.1 ta0 c1611
    rw [c1611] at p90
    obtain ⟨v1613, c1614⟩ : ∃ v, I68 a0 13 = v := ⟨_, rfl⟩
    rw [c1614] at p91
    obtain ⟨v1615, c1616⟩ : ∃ v, I68 a0 14 = v := ⟨_, rfl⟩
    rw [c1616] at p92
    have p1617 := p61
    unfold Q7M at p1617
    replace hF := hF.pos (by omega)
    replace hP := hP.pos (by omega)
    clear p1617
    refine tr_aload_n dX12_readCall_13 rfl ?_
    refine q_callVi hE (M' := mX12_isName) (as := []) dX12_readCall_14 lk12_197 inX12_isName seX12_isName myX12_isName (by decide) ⟨by decide, by decide⟩ rfl (kR15 hS76.1 ta0) (Nat.le_of_ble_eq_true rfl) rfl rfl (by decide) (by decide) (k_X12_isName hS76.1 ta0) ?_
    rintro v1622 cn' K' N' I1618 R1619 L1620 ⟨rfl, rfl, rfl, rfl, rfl, rfl, h1623, -⟩
    refine q_if_ne 25 dX12_readCall_17 (by decide) (fun h1624 => ?_) (fun h1624 => ?_)
    · skip
      refine tr_aload_n dX12_readCall_25 rfl ?_
      refine tr_getR dX12_readCall_26 fl12_188 (kR15 hS76.1 ta0) d2 ?_
      refine tr_aload_n dX12_readCall_29 rfl ?_
      have p1625 := p17 (by omega)
      obtain ⟨y1626, c1627⟩ : ∃ v, L70 a0 15 = v := ⟨_, rfl⟩
      refine q_getLE dX12_readCall_30 fl12_118 (kR15 hS76.1 ta0) c1627 ?_
      refine q_callVi hE (M' := mX11_find) (as := [_]) dX12_readCall_33 lk12_201 inX11_find seX11_find myX11_find (by decide) ⟨by decide, by decide⟩ rfl (kR14 hS76.1 ta1) (Nat.le_of_ble_eq_true rfl) rfl rfl (by decide) (by decide) (k_X11_find hS76.1 ta1) ?_
      rintro v1632 cn' K' N' I1628 R1629 L1630 ⟨rfl, rfl, rfl, rfl, rfl, rfl, h1633, -⟩
      refine tr_istore_n dX12_readCall_36 (by decide) (by decide) ?_
      refine tr_iload_n dX12_readCall_37 rfl ?_
      refine q_iconst dX12_readCall_38 (by decide) ?_
      intro v1634 h1635
      refine q_icmp_eq 55 dX12_readCall_39 (by decide) (fun h1636 => ?_) (fun h1636 => ?_)
      · skip
        refine tr_aload_n dX12_readCall_55 rfl ?_
        refine q_iconst dX12_readCall_56 (by decide) ?_
        intro v1637 h1638
        obtain ⟨v1639, c1640⟩ : ∃ v, I68 a0 8 = v := ⟨_, rfl⟩
        have b1641 := iv15_8 hS76.1 ta0 c1640
        refine q_callVv hE (M' := mX12_flaw) (as := [_]) dX12_readCall_57 lk12_145 inX12_flaw seX12_flaw myX12_flaw (by decide) ⟨by decide, by decide⟩ rfl (kR15 hS76.1 ta0) (Nat.le_of_ble_eq_true rfl) rfl rfl (by decide) (by decide) (k_X12_flaw hS76.1 ta0 (by omega)) ?_
        rintro cn' K' N' I1642 R1643 L1644 ⟨rfl, rfl, rfl, rfl, rfl, g1645, p1647, p1648, w1649, -⟩
        have hS1650 := hS76.tr g1645 (by decide +kernel) (by decide +kernel)
        have c1651 : I1642 a1 5 = v49 := (g1645.cell ta1 (by decide +kernel)).trans c77
        have c1652 : I1642 a0 8 = v1639 := (g1645.cell ta0 (by decide +kernel)).trans c1640
        obtain ⟨v1653, c1654⟩ : ∃ v, I1642 a0 9 = v := ⟨_, rfl⟩
        have b1655 := iv15_9 hS1650.1 ta0 c1654
        rw [c1654] at p1647
        rw [c1652] at p1648
        rw [c1640] at p1648
        have ov1656 := w1649.over (by rw [c1611]; omega)
        obtain ⟨v1657, c1658⟩ : ∃ v, I1642 a0 9 = v := ⟨_, rfl⟩
        have b1659 := iv15_9 hS1650.1 ta0 c1658
        obtain ⟨v1660, c1661⟩ : ∃ v, I1642 a0 13 = v := ⟨_, rfl⟩
        obtain ⟨v1662, c1663⟩ : ∃ v, I1642 a0 14 = v := ⟨_, rfl⟩
        (try rw [c1658] at ov1656)
        (try rw [c1661] at ov1656)
        (try rw [c1663] at ov1656)
        (try rw [c1611] at ov1656)
        (try rw [c1614] at ov1656)
        (try rw [c1616] at ov1656)
        refine tr_aload_n dX12_readCall_60 rfl ?_
        refine q_getI dX12_readCall_61 fl12_99 (kR15 hS1650.1 ta0) c1658 ?_
        refine q_iconst dX12_readCall_64 (by decide) ?_
        intro v1664 h1665
        refine q_icmp_ne 72 dX12_readCall_65 (by decide) (fun h1666 => ?_) (fun h1666 => ?_)
        · skip
          exfalso; omega
        · skip
          refine q_iconst dX12_readCall_68 (by decide) ?_
          intro v1667 h1668
          refine tr_goto 81 dX12_readCall_69 (by decide) ?_
          refine tr_istore_n dX12_readCall_81 (by decide) (by decide) ?_
          refine tr_aload_n dX12_readCall_82 rfl ?_
          refine q_callVv hE (M' := mX12_goesOn) (as := []) dX12_readCall_83 lk12_142 inX12_goesOn seX12_goesOn myX12_goesOn (by decide) ⟨by decide, by decide⟩ rfl (kR15 hS1650.1 ta0) (Nat.le_of_ble_eq_true rfl) rfl rfl (by decide) (by decide) (k_X12_goesOn hS1650.1 ta0) ?_
          rintro cn' K' N' I1669 R1670 L1671 ⟨rfl, rfl, rfl, rfl, g1672, p1674, p1675, p1676, w1677, -⟩
          have hS1678 := hS1650.tr g1672 (by decide +kernel) (by decide +kernel)
          have c1679 : I1669 a1 5 = v49 := (g1672.cell ta1 (by decide +kernel)).trans c1651
          have c1680 : I1669 a0 13 = v1660 := (g1672.cell ta0 (by decide +kernel)).trans c1661
          have c1681 : I1669 a0 14 = v1662 := (g1672.cell ta0 (by decide +kernel)).trans c1663
          obtain ⟨v1682, c1683⟩ : ∃ v, I1669 a0 9 = v := ⟨_, rfl⟩
          have b1684 := iv15_9 hS1678.1 ta0 c1683
          rw [c1658] at p1674
          rw [c1683] at p1674
          rw [c1658] at p1675
          rw [c1683] at p1675
          obtain ⟨v1685, c1686⟩ : ∃ v, I1669 a0 8 = v := ⟨_, rfl⟩
          have b1687 := iv15_8 hS1678.1 ta0 c1686
          rw [c1686] at p1676
          rw [c1652] at p1676
          rw [c1680] at p1676
          rw [c1661] at p1676
          have ov1688 := w1677.over (by rw [c1658]; omega)
          obtain ⟨v1689, c1690⟩ : ∃ v, I1669 a0 9 = v := ⟨_, rfl⟩
          have b1691 := iv15_9 hS1678.1 ta0 c1690
          obtain ⟨v1692, c1693⟩ : ∃ v, I1669 a0 13 = v := ⟨_, rfl⟩
          obtain ⟨v1694, c1695⟩ : ∃ v, I1669 a0 14 = v := ⟨_, rfl⟩
          (try rw [c1690] at ov1688)
          (try rw [c1693] at ov1688)
          (try rw [c1695] at ov1688)
          (try rw [c1658] at ov1688)
          (try rw [c1661] at ov1688)
          (try rw [c1663] at ov1688)
          refine tr_aload_n dX12_readCall_86 rfl ?_
          refine tr_ldcwS dX12_readCall_87 ld12_352 ?_
          refine q_iconst dX12_readCall_90 (by decide) ?_
          intro v1696 h1697
          refine tr_aload_n dX12_readCall_91 rfl ?_
          refine tr_getR dX12_readCall_92 fl12_188 (kR15 hS1678.1 ta0) d2 ?_
          refine q_getI dX12_readCall_95 fl12_192 (kR14 hS1678.1 ta1) ((hS1678.cell ta1 (by decide +kernel)).trans c30) ?_
          refine q_iconst dX12_readCall_98 (by decide) ?_
          intro v1698 h1699
          refine q_isubE dX12_readCall_99 (by intros; omega) ?_
          intro v1700 h1701
          refine q_callVi hE (M' := mX12_readPart) (as := [_, _, _]) dX12_readCall_100 lk12_249 inX12_readPart seX12_readPart myX12_readPart (by decide) ⟨by decide, by decide⟩ rfl (kR15 hS1678.1 ta0) (Nat.le_of_ble_eq_true rfl) rfl rfl (by decide) (by decide) (k_X12_readPart hS1678.1 ta0 (by decide)) ?_
          rintro v1706 cn' K' N' I1702 R1703 L1704 ⟨rfl, rfl, rfl, rfl, g1705, p1707, w1708, -⟩
          have hS1709 := hS1678.tr g1705 (by decide +kernel) (by decide +kernel)
          have c1710 : I1702 a1 5 = v49 := (g1705.cell ta1 (by decide +kernel)).trans c1679
          have b1711 : 0 ≤ v1706.toInt ∧ v1706.toInt ≤ 239 := by omega
          clear p1707
          have ov1712 := w1708.over (by rw [c1690]; omega)
          obtain ⟨v1713, c1714⟩ : ∃ v, I1702 a0 9 = v := ⟨_, rfl⟩
          have b1715 := iv15_9 hS1709.1 ta0 c1714
          obtain ⟨v1716, c1717⟩ : ∃ v, I1702 a0 13 = v := ⟨_, rfl⟩
          obtain ⟨v1718, c1719⟩ : ∃ v, I1702 a0 14 = v := ⟨_, rfl⟩
          (try rw [c1714] at ov1712)
          (try rw [c1717] at ov1712)
          (try rw [c1719] at ov1712)
          (try rw [c1690] at ov1712)
          (try rw [c1693] at ov1712)
          (try rw [c1695] at ov1712)
          refine tr_istore_n dX12_readCall_103 (by decide) (by decide) ?_
          refine tr_aload_n dX12_readCall_104 rfl ?_
          refine tr_ldcwS dX12_readCall_105 ld12_354 ?_
          refine q_iconst dX12_readCall_108 (by decide) ?_
          intro v1720 h1721
          refine q_bipush dX12_readCall_109 (by decide +kernel) ?_
          intro v1722 h1723
          refine q_callVi hE (M' := mX12_readPart) (as := [_, _, _]) dX12_readCall_111 lk12_249 inX12_readPart seX12_readPart myX12_readPart (by decide) ⟨by decide, by decide⟩ rfl (kR15 hS1709.1 ta0) (Nat.le_of_ble_eq_true rfl) rfl rfl (by decide) (by decide) (k_X12_readPart hS1709.1 ta0 (by decide)) ?_
          rintro v1728 cn' K' N' I1724 R1725 L1726 ⟨rfl, rfl, rfl, rfl, g1727, p1729, w1730, -⟩
          have hS1731 := hS1709.tr g1727 (by decide +kernel) (by decide +kernel)
          have c1732 : I1724 a1 5 = v49 := (g1727.cell ta1 (by decide +kernel)).trans c1710
          have b1733 : 1 ≤ v1728.toInt ∧ v1728.toInt ≤ 60 := by omega
          clear p1729
          have ov1734 := w1730.over (by rw [c1714]; omega)
          obtain ⟨v1735, c1736⟩ : ∃ v, I1724 a0 9 = v := ⟨_, rfl⟩
          have b1737 := iv15_9 hS1731.1 ta0 c1736
          obtain ⟨v1738, c1739⟩ : ∃ v, I1724 a0 13 = v := ⟨_, rfl⟩
          obtain ⟨v1740, c1741⟩ : ∃ v, I1724 a0 14 = v := ⟨_, rfl⟩
          (try rw [c1736] at ov1734)
          (try rw [c1739] at ov1734)
          (try rw [c1741] at ov1734)
          (try rw [c1714] at ov1734)
          (try rw [c1717] at ov1734)
          (try rw [c1719] at ov1734)
          refine tr_istore dX12_readCall_114 (by decide) (by decide) ?_
          refine tr_aload_n dX12_readCall_116 rfl ?_
          refine tr_ldcwS dX12_readCall_117 ld12_356 ?_
          refine q_iconst dX12_readCall_120 (by decide) ?_
          intro v1742 h1743
          refine q_bipush dX12_readCall_121 (by decide +kernel) ?_
          intro v1744 h1745
          refine q_callVi hE (M' := mX12_readPart) (as := [_, _, _]) dX12_readCall_123 lk12_249 inX12_readPart seX12_readPart myX12_readPart (by decide) ⟨by decide, by decide⟩ rfl (kR15 hS1731.1 ta0) (Nat.le_of_ble_eq_true rfl) rfl rfl (by decide) (by decide) (k_X12_readPart hS1731.1 ta0 (by decide)) ?_
          rintro v1750 cn' K' N' I1746 R1747 L1748 ⟨rfl, rfl, rfl, rfl, g1749, p1751, w1752, -⟩
          have hS1753 := hS1731.tr g1749 (by decide +kernel) (by decide +kernel)
          have c1754 : I1746 a1 5 = v49 := (g1749.cell ta1 (by decide +kernel)).trans c1732
          have b1755 : 0 ≤ v1750.toInt ∧ v1750.toInt ≤ 99 := by omega
          clear p1751
          have ov1756 := w1752.over (by rw [c1736]; omega)
          obtain ⟨v1757, c1758⟩ : ∃ v, I1746 a0 9 = v := ⟨_, rfl⟩
          have b1759 := iv15_9 hS1753.1 ta0 c1758
          obtain ⟨v1760, c1761⟩ : ∃ v, I1746 a0 13 = v := ⟨_, rfl⟩
          obtain ⟨v1762, c1763⟩ : ∃ v, I1746 a0 14 = v := ⟨_, rfl⟩
          (try rw [c1758] at ov1756)
          (try rw [c1761] at ov1756)
          (try rw [c1763] at ov1756)
          (try rw [c1736] at ov1756)
          (try rw [c1739] at ov1756)
          (try rw [c1741] at ov1756)
          refine tr_istore dX12_readCall_126 (by decide) (by decide) ?_
          refine tr_aload_n dX12_readCall_128 rfl ?_
          refine q_getI dX12_readCall_129 fl12_99 (kR15 hS1753.1 ta0) c1758 ?_
          refine q_iconst dX12_readCall_132 (by decide) ?_
          intro v1764 h1765
          refine q_icmp_ne 137 dX12_readCall_133 (by decide) (fun h1766 => ?_) (fun h1766 => ?_)
          · skip
            exfalso; omega
          · skip
            have eF := hF.eq
            have eP := hP.eq
            obtain ⟨v1767, c1768⟩ : ∃ v, I1746 a0 10 = v := ⟨_, rfl⟩
            have b1769 := iv15_10 hS1753.1 ta0 c1768
            obtain ⟨v1770, c1771⟩ : ∃ v, I1746 a0 11 = v := ⟨_, rfl⟩
            obtain ⟨y1772, c1773⟩ : ∃ v, L1748 a0 15 = v := ⟨_, rfl⟩
            obtain ⟨v1774, c1775⟩ : ∃ v, I1746 a0 12 = v := ⟨_, rfl⟩
            obtain ⟨v1776, c1777⟩ : ∃ v, I1746 a0 8 = v := ⟨_, rfl⟩
            have b1778 := iv15_8 hS1753.1 ta0 c1777
            exact tr_vret hZ dX12_readCall_136 rfl (by decide) (by decide) ⟨rfl, rfl, rfl, rfl, rfl, hS1753, (Or.inr (⟨(by first | done | omega), (by (try rw [c1758]); first | done | omega), (by (try rw [c1761]); first | done | omega), (by (try rw [c1763]); first | done | omega), trivial⟩)), trivial⟩
      · skip
        refine tr_aload_n dX12_readCall_42 rfl ?_
        refine tr_getR dX12_readCall_43 fl12_188 (kR15 hS76.1 ta0) d2 ?_
        obtain ⟨a1779, d1780, ta1779⟩ := rf14_31 hW0 ta1
        refine tr_getR dX12_readCall_46 fl12_212 (kR14 hS76.1 ta1) d1780 ?_
        refine tr_iload_n dX12_readCall_49 rfl ?_
        refine q_iald dX12_readCall_50 (kR74 hS76.1 ta1779) (ti_in (nR74 hS76.1 ta1779) (by omega) (by omega)) ?_
        intro v1781 c1782
        refine q_iconst dX12_readCall_51 (by decide) ?_
        intro v1783 h1784
        refine q_icmp_eq 60 dX12_readCall_52 (by decide) (fun h1785 => ?_) (fun h1785 => ?_)
        · skip
          refine tr_aload_n dX12_readCall_60 rfl ?_
          refine q_getI dX12_readCall_61 fl12_99 (kR15 hS76.1 ta0) c1611 ?_
          refine q_iconst dX12_readCall_64 (by decide) ?_
          intro v1786 h1787
          refine q_icmp_ne 72 dX12_readCall_65 (by decide) (fun h1788 => ?_) (fun h1788 => ?_)
          · skip
            exfalso; omega
          · skip
            refine q_iconst dX12_readCall_68 (by decide) ?_
            intro v1789 h1790
            refine tr_goto 81 dX12_readCall_69 (by decide) ?_
            refine tr_istore_n dX12_readCall_81 (by decide) (by decide) ?_
            refine tr_aload_n dX12_readCall_82 rfl ?_
            obtain ⟨v1791, c1792⟩ : ∃ v, I68 a0 8 = v := ⟨_, rfl⟩
            have b1793 := iv15_8 hS76.1 ta0 c1792
            refine q_callVv hE (M' := mX12_goesOn) (as := []) dX12_readCall_83 lk12_142 inX12_goesOn seX12_goesOn myX12_goesOn (by decide) ⟨by decide, by decide⟩ rfl (kR15 hS76.1 ta0) (Nat.le_of_ble_eq_true rfl) rfl rfl (by decide) (by decide) (k_X12_goesOn hS76.1 ta0) ?_
            rintro cn' K' N' I1794 R1795 L1796 ⟨rfl, rfl, rfl, rfl, g1797, p1799, p1800, p1801, w1802, -⟩
            have hS1803 := hS76.tr g1797 (by decide +kernel) (by decide +kernel)
            have c1804 : I1794 a1 5 = v49 := (g1797.cell ta1 (by decide +kernel)).trans c77
            have c1805 : I1794 a0 13 = v1613 := (g1797.cell ta0 (by decide +kernel)).trans c1614
            have c1806 : I1794 a0 14 = v1615 := (g1797.cell ta0 (by decide +kernel)).trans c1616
            obtain ⟨v1807, c1808⟩ : ∃ v, I1794 a0 9 = v := ⟨_, rfl⟩
            have b1809 := iv15_9 hS1803.1 ta0 c1808
            rw [c1611] at p1799
            rw [c1808] at p1799
            rw [c1611] at p1800
            rw [c1808] at p1800
            obtain ⟨v1810, c1811⟩ : ∃ v, I1794 a0 8 = v := ⟨_, rfl⟩
            have b1812 := iv15_8 hS1803.1 ta0 c1811
            rw [c1811] at p1801
            rw [c1792] at p1801
            rw [c1805] at p1801
            rw [c1614] at p1801
            have ov1813 := w1802.over (by rw [c1611]; omega)
            obtain ⟨v1814, c1815⟩ : ∃ v, I1794 a0 9 = v := ⟨_, rfl⟩
            have b1816 := iv15_9 hS1803.1 ta0 c1815
            obtain ⟨v1817, c1818⟩ : ∃ v, I1794 a0 13 = v := ⟨_, rfl⟩
            obtain ⟨v1819, c1820⟩ : ∃ v, I1794 a0 14 = v := ⟨_, rfl⟩
            (try rw [c1815] at ov1813)
            (try rw [c1818] at ov1813)
            (try rw [c1820] at ov1813)
            (try rw [c1611] at ov1813)
            (try rw [c1614] at ov1813)
            (try rw [c1616] at ov1813)
            refine tr_aload_n dX12_readCall_86 rfl ?_
            refine tr_ldcwS dX12_readCall_87 ld12_352 ?_
            refine q_iconst dX12_readCall_90 (by decide) ?_
            intro v1821 h1822
            refine tr_aload_n dX12_readCall_91 rfl ?_
            refine tr_getR dX12_readCall_92 fl12_188 (kR15 hS1803.1 ta0) d2 ?_
            refine q_getI dX12_readCall_95 fl12_192 (kR14 hS1803.1 ta1) ((hS1803.cell ta1 (by decide +kernel)).trans c30) ?_
            refine q_iconst dX12_readCall_98 (by decide) ?_
            intro v1823 h1824
            refine q_isubE dX12_readCall_99 (by intros; omega) ?_
            intro v1825 h1826
            refine q_callVi hE (M' := mX12_readPart) (as := [_, _, _]) dX12_readCall_100 lk12_249 inX12_readPart seX12_readPart myX12_readPart (by decide) ⟨by decide, by decide⟩ rfl (kR15 hS1803.1 ta0) (Nat.le_of_ble_eq_true rfl) rfl rfl (by decide) (by decide) (k_X12_readPart hS1803.1 ta0 (by decide)) ?_
            rintro v1831 cn' K' N' I1827 R1828 L1829 ⟨rfl, rfl, rfl, rfl, g1830, p1832, w1833, -⟩
            have hS1834 := hS1803.tr g1830 (by decide +kernel) (by decide +kernel)
            have c1835 : I1827 a1 5 = v49 := (g1830.cell ta1 (by decide +kernel)).trans c1804
            have b1836 : 0 ≤ v1831.toInt ∧ v1831.toInt ≤ 239 := by omega
            clear p1832
            have ov1837 := w1833.over (by rw [c1815]; omega)
            obtain ⟨v1838, c1839⟩ : ∃ v, I1827 a0 9 = v := ⟨_, rfl⟩
            have b1840 := iv15_9 hS1834.1 ta0 c1839
            obtain ⟨v1841, c1842⟩ : ∃ v, I1827 a0 13 = v := ⟨_, rfl⟩
            obtain ⟨v1843, c1844⟩ : ∃ v, I1827 a0 14 = v := ⟨_, rfl⟩
            (try rw [c1839] at ov1837)
            (try rw [c1842] at ov1837)
            (try rw [c1844] at ov1837)
            (try rw [c1815] at ov1837)
            (try rw [c1818] at ov1837)
            (try rw [c1820] at ov1837)
            refine tr_istore_n dX12_readCall_103 (by decide) (by decide) ?_
            refine tr_aload_n dX12_readCall_104 rfl ?_
            refine tr_ldcwS dX12_readCall_105 ld12_354 ?_
            refine q_iconst dX12_readCall_108 (by decide) ?_
            intro v1845 h1846
            refine q_bipush dX12_readCall_109 (by decide +kernel) ?_
            intro v1847 h1848
            refine q_callVi hE (M' := mX12_readPart) (as := [_, _, _]) dX12_readCall_111 lk12_249 inX12_readPart seX12_readPart myX12_readPart (by decide) ⟨by decide, by decide⟩ rfl (kR15 hS1834.1 ta0) (Nat.le_of_ble_eq_true rfl) rfl rfl (by decide) (by decide) (k_X12_readPart hS1834.1 ta0 (by decide)) ?_
            rintro v1853 cn' K' N' I1849 R1850 L1851 ⟨rfl, rfl, rfl, rfl, g1852, p1854, w1855, -⟩
            have hS1856 := hS1834.tr g1852 (by decide +kernel) (by decide +kernel)
            have c1857 : I1849 a1 5 = v49 := (g1852.cell ta1 (by decide +kernel)).trans c1835
            have b1858 : 1 ≤ v1853.toInt ∧ v1853.toInt ≤ 60 := by omega
            clear p1854
            have ov1859 := w1855.over (by rw [c1839]; omega)
            obtain ⟨v1860, c1861⟩ : ∃ v, I1849 a0 9 = v := ⟨_, rfl⟩
            have b1862 := iv15_9 hS1856.1 ta0 c1861
            obtain ⟨v1863, c1864⟩ : ∃ v, I1849 a0 13 = v := ⟨_, rfl⟩
            obtain ⟨v1865, c1866⟩ : ∃ v, I1849 a0 14 = v := ⟨_, rfl⟩
            (try rw [c1861] at ov1859)
            (try rw [c1864] at ov1859)
            (try rw [c1866] at ov1859)
            (try rw [c1839] at ov1859)
            (try rw [c1842] at ov1859)
            (try rw [c1844] at ov1859)
            refine tr_istore dX12_readCall_114 (by decide) (by decide) ?_
            refine tr_aload_n dX12_readCall_116 rfl ?_
            refine tr_ldcwS dX12_readCall_117 ld12_356 ?_
            refine q_iconst dX12_readCall_120 (by decide) ?_
            intro v1867 h1868
            refine q_bipush dX12_readCall_121 (by decide +kernel) ?_
            intro v1869 h1870
            refine q_callVi hE (M' := mX12_readPart) (as := [_, _, _]) dX12_readCall_123 lk12_249 inX12_readPart seX12_readPart myX12_readPart (by decide) ⟨by decide, by decide⟩ rfl (kR15 hS1856.1 ta0) (Nat.le_of_ble_eq_true rfl) rfl rfl (by decide) (by decide) (k_X12_readPart hS1856.1 ta0 (by decide)) ?_
            rintro v1875 cn' K' N' I1871 R1872 L1873 ⟨rfl, rfl, rfl, rfl, g1874, p1876, w1877, -⟩
            have hS1878 := hS1856.tr g1874 (by decide +kernel) (by decide +kernel)
            have c1879 : I1871 a1 5 = v49 := (g1874.cell ta1 (by decide +kernel)).trans c1857
            have b1880 : 0 ≤ v1875.toInt ∧ v1875.toInt ≤ 99 := by omega
            clear p1876
            have ov1881 := w1877.over (by rw [c1861]; omega)
            obtain ⟨v1882, c1883⟩ : ∃ v, I1871 a0 9 = v := ⟨_, rfl⟩
            have b1884 := iv15_9 hS1878.1 ta0 c1883
            obtain ⟨v1885, c1886⟩ : ∃ v, I1871 a0 13 = v := ⟨_, rfl⟩
            obtain ⟨v1887, c1888⟩ : ∃ v, I1871 a0 14 = v := ⟨_, rfl⟩
            (try rw [c1883] at ov1881)
            (try rw [c1886] at ov1881)
            (try rw [c1888] at ov1881)
            (try rw [c1861] at ov1881)
            (try rw [c1864] at ov1881)
            (try rw [c1866] at ov1881)
            refine tr_istore dX12_readCall_126 (by decide) (by decide) ?_
            refine tr_aload_n dX12_readCall_128 rfl ?_
            refine q_getI dX12_readCall_129 fl12_99 (kR15 hS1878.1 ta0) c1883 ?_
            refine q_iconst dX12_readCall_132 (by decide) ?_
            intro v1889 h1890
            refine q_icmp_ne 137 dX12_readCall_133 (by decide) (fun h1891 => ?_) (fun h1891 => ?_)
            · skip
              exfalso; omega
            · skip
              have eF := hF.eq
              have eP := hP.eq
              obtain ⟨v1892, c1893⟩ : ∃ v, I1871 a0 10 = v := ⟨_, rfl⟩
              have b1894 := iv15_10 hS1878.1 ta0 c1893
              obtain ⟨v1895, c1896⟩ : ∃ v, I1871 a0 11 = v := ⟨_, rfl⟩
              obtain ⟨y1897, c1898⟩ : ∃ v, L1873 a0 15 = v := ⟨_, rfl⟩
              obtain ⟨v1899, c1900⟩ : ∃ v, I1871 a0 12 = v := ⟨_, rfl⟩
              obtain ⟨v1901, c1902⟩ : ∃ v, I1871 a0 8 = v := ⟨_, rfl⟩
              have b1903 := iv15_8 hS1878.1 ta0 c1902
              exact tr_vret hZ dX12_readCall_136 rfl (by decide) (by decide) ⟨rfl, rfl, rfl, rfl, rfl, hS1878, (Or.inr (⟨(by first | done | omega), (by (try rw [c1883]); first | done | omega), (by (try rw [c1886]); first | done | omega), (by (try rw [c1888]); first | done | omega), trivial⟩)), trivial⟩
        · skip
          refine tr_aload_n dX12_readCall_55 rfl ?_
          refine q_iconst dX12_readCall_56 (by decide) ?_
          intro v1904 h1905
          obtain ⟨v1906, c1907⟩ : ∃ v, I68 a0 8 = v := ⟨_, rfl⟩
          have b1908 := iv15_8 hS76.1 ta0 c1907
          refine q_callVv hE (M' := mX12_flaw) (as := [_]) dX12_readCall_57 lk12_145 inX12_flaw seX12_flaw myX12_flaw (by decide) ⟨by decide, by decide⟩ rfl (kR15 hS76.1 ta0) (Nat.le_of_ble_eq_true rfl) rfl rfl (by decide) (by decide) (k_X12_flaw hS76.1 ta0 (by omega)) ?_
          rintro cn' K' N' I1909 R1910 L1911 ⟨rfl, rfl, rfl, rfl, rfl, g1912, p1914, p1915, w1916, -⟩
          have hS1917 := hS76.tr g1912 (by decide +kernel) (by decide +kernel)
          have c1918 : I1909 a1 5 = v49 := (g1912.cell ta1 (by decide +kernel)).trans c77
          have c1919 : I1909 a0 8 = v1906 := (g1912.cell ta0 (by decide +kernel)).trans c1907
          obtain ⟨v1920, c1921⟩ : ∃ v, I1909 a0 9 = v := ⟨_, rfl⟩
          have b1922 := iv15_9 hS1917.1 ta0 c1921
          rw [c1921] at p1914
          rw [c1919] at p1915
          rw [c1907] at p1915
          have ov1923 := w1916.over (by rw [c1611]; omega)
          obtain ⟨v1924, c1925⟩ : ∃ v, I1909 a0 9 = v := ⟨_, rfl⟩
          have b1926 := iv15_9 hS1917.1 ta0 c1925
          obtain ⟨v1927, c1928⟩ : ∃ v, I1909 a0 13 = v := ⟨_, rfl⟩
          obtain ⟨v1929, c1930⟩ : ∃ v, I1909 a0 14 = v := ⟨_, rfl⟩
          (try rw [c1925] at ov1923)
          (try rw [c1928] at ov1923)
          (try rw [c1930] at ov1923)
          (try rw [c1611] at ov1923)
          (try rw [c1614] at ov1923)
          (try rw [c1616] at ov1923)
          refine tr_aload_n dX12_readCall_60 rfl ?_
          refine q_getI dX12_readCall_61 fl12_99 (kR15 hS1917.1 ta0) c1925 ?_
          refine q_iconst dX12_readCall_64 (by decide) ?_
          intro v1931 h1932
          refine q_icmp_ne 72 dX12_readCall_65 (by decide) (fun h1933 => ?_) (fun h1933 => ?_)
          · skip
            exfalso; omega
          · skip
            refine q_iconst dX12_readCall_68 (by decide) ?_
            intro v1934 h1935
            refine tr_goto 81 dX12_readCall_69 (by decide) ?_
            refine tr_istore_n dX12_readCall_81 (by decide) (by decide) ?_
            refine tr_aload_n dX12_readCall_82 rfl ?_
            refine q_callVv hE (M' := mX12_goesOn) (as := []) dX12_readCall_83 lk12_142 inX12_goesOn seX12_goesOn myX12_goesOn (by decide) ⟨by decide, by decide⟩ rfl (kR15 hS1917.1 ta0) (Nat.le_of_ble_eq_true rfl) rfl rfl (by decide) (by decide) (k_X12_goesOn hS1917.1 ta0) ?_
            rintro cn' K' N' I1936 R1937 L1938 ⟨rfl, rfl, rfl, rfl, g1939, p1941, p1942, p1943, w1944, -⟩
            have hS1945 := hS1917.tr g1939 (by decide +kernel) (by decide +kernel)
            have c1946 : I1936 a1 5 = v49 := (g1939.cell ta1 (by decide +kernel)).trans c1918
            have c1947 : I1936 a0 13 = v1927 := (g1939.cell ta0 (by decide +kernel)).trans c1928
            have c1948 : I1936 a0 14 = v1929 := (g1939.cell ta0 (by decide +kernel)).trans c1930
            obtain ⟨v1949, c1950⟩ : ∃ v, I1936 a0 9 = v := ⟨_, rfl⟩
            have b1951 := iv15_9 hS1945.1 ta0 c1950
            rw [c1925] at p1941
            rw [c1950] at p1941
            rw [c1925] at p1942
            rw [c1950] at p1942
            obtain ⟨v1952, c1953⟩ : ∃ v, I1936 a0 8 = v := ⟨_, rfl⟩
            have b1954 := iv15_8 hS1945.1 ta0 c1953
            rw [c1953] at p1943
            rw [c1919] at p1943
            rw [c1947] at p1943
            rw [c1928] at p1943
            have ov1955 := w1944.over (by rw [c1925]; omega)
            obtain ⟨v1956, c1957⟩ : ∃ v, I1936 a0 9 = v := ⟨_, rfl⟩
            have b1958 := iv15_9 hS1945.1 ta0 c1957
            obtain ⟨v1959, c1960⟩ : ∃ v, I1936 a0 13 = v := ⟨_, rfl⟩
            obtain ⟨v1961, c1962⟩ : ∃ v, I1936 a0 14 = v := ⟨_, rfl⟩
            (try rw [c1957] at ov1955)
            (try rw [c1960] at ov1955)
            (try rw [c1962] at ov1955)
            (try rw [c1925] at ov1955)
            (try rw [c1928] at ov1955)
            (try rw [c1930] at ov1955)
            refine tr_aload_n dX12_readCall_86 rfl ?_
            refine tr_ldcwS dX12_readCall_87 ld12_352 ?_
            refine q_iconst dX12_readCall_90 (by decide) ?_
            intro v1963 h1964
            refine tr_aload_n dX12_readCall_91 rfl ?_
            refine tr_getR dX12_readCall_92 fl12_188 (kR15 hS1945.1 ta0) d2 ?_
            refine q_getI dX12_readCall_95 fl12_192 (kR14 hS1945.1 ta1) ((hS1945.cell ta1 (by decide +kernel)).trans c30) ?_
            refine q_iconst dX12_readCall_98 (by decide) ?_
            intro v1965 h1966
            refine q_isubE dX12_readCall_99 (by intros; omega) ?_
            intro v1967 h1968
            refine q_callVi hE (M' := mX12_readPart) (as := [_, _, _]) dX12_readCall_100 lk12_249 inX12_readPart seX12_readPart myX12_readPart (by decide) ⟨by decide, by decide⟩ rfl (kR15 hS1945.1 ta0) (Nat.le_of_ble_eq_true rfl) rfl rfl (by decide) (by decide) (k_X12_readPart hS1945.1 ta0 (by decide)) ?_
            rintro v1973 cn' K' N' I1969 R1970 L1971 ⟨rfl, rfl, rfl, rfl, g1972, p1974, w1975, -⟩
            have hS1976 := hS1945.tr g1972 (by decide +kernel) (by decide +kernel)
            have c1977 : I1969 a1 5 = v49 := (g1972.cell ta1 (by decide +kernel)).trans c1946
            have b1978 : 0 ≤ v1973.toInt ∧ v1973.toInt ≤ 239 := by omega
            clear p1974
            have ov1979 := w1975.over (by rw [c1957]; omega)
            obtain ⟨v1980, c1981⟩ : ∃ v, I1969 a0 9 = v := ⟨_, rfl⟩
            have b1982 := iv15_9 hS1976.1 ta0 c1981
            obtain ⟨v1983, c1984⟩ : ∃ v, I1969 a0 13 = v := ⟨_, rfl⟩
            obtain ⟨v1985, c1986⟩ : ∃ v, I1969 a0 14 = v := ⟨_, rfl⟩
            (try rw [c1981] at ov1979)
            (try rw [c1984] at ov1979)
            (try rw [c1986] at ov1979)
            (try rw [c1957] at ov1979)
            (try rw [c1960] at ov1979)
            (try rw [c1962] at ov1979)
            refine tr_istore_n dX12_readCall_103 (by decide) (by decide) ?_
            refine tr_aload_n dX12_readCall_104 rfl ?_
            refine tr_ldcwS dX12_readCall_105 ld12_354 ?_
            refine q_iconst dX12_readCall_108 (by decide) ?_
            intro v1987 h1988
            refine q_bipush dX12_readCall_109 (by decide +kernel) ?_
            intro v1989 h1990
            refine q_callVi hE (M' := mX12_readPart) (as := [_, _, _]) dX12_readCall_111 lk12_249 inX12_readPart seX12_readPart myX12_readPart (by decide) ⟨by decide, by decide⟩ rfl (kR15 hS1976.1 ta0) (Nat.le_of_ble_eq_true rfl) rfl rfl (by decide) (by decide) (k_X12_readPart hS1976.1 ta0 (by decide)) ?_
            rintro v1995 cn' K' N' I1991 R1992 L1993 ⟨rfl, rfl, rfl, rfl, g1994, p1996, w1997, -⟩
            have hS1998 := hS1976.tr g1994 (by decide +kernel) (by decide +kernel)
            have c1999 : I1991 a1 5 = v49 := (g1994.cell ta1 (by decide +kernel)).trans c1977
            have b2000 : 1 ≤ v1995.toInt ∧ v1995.toInt ≤ 60 := by omega
            clear p1996
            have ov2001 := w1997.over (by rw [c1981]; omega)
            obtain ⟨v2002, c2003⟩ : ∃ v, I1991 a0 9 = v := ⟨_, rfl⟩
            have b2004 := iv15_9 hS1998.1 ta0 c2003
            obtain ⟨v2005, c2006⟩ : ∃ v, I1991 a0 13 = v := ⟨_, rfl⟩
            obtain ⟨v2007, c2008⟩ : ∃ v, I1991 a0 14 = v := ⟨_, rfl⟩
            (try rw [c2003] at ov2001)
            (try rw [c2006] at ov2001)
            (try rw [c2008] at ov2001)
            (try rw [c1981] at ov2001)
            (try rw [c1984] at ov2001)
            (try rw [c1986] at ov2001)
            refine tr_istore dX12_readCall_114 (by decide) (by decide) ?_
            refine tr_aload_n dX12_readCall_116 rfl ?_
            refine tr_ldcwS dX12_readCall_117 ld12_356 ?_
            refine q_iconst dX12_readCall_120 (by decide) ?_
            intro v2009 h2010
            refine q_bipush dX12_readCall_121 (by decide +kernel) ?_
            intro v2011 h2012
            refine q_callVi hE (M' := mX12_readPart) (as := [_, _, _]) dX12_readCall_123 lk12_249 inX12_readPart seX12_readPart myX12_readPart (by decide) ⟨by decide, by decide⟩ rfl (kR15 hS1998.1 ta0) (Nat.le_of_ble_eq_true rfl) rfl rfl (by decide) (by decide) (k_X12_readPart hS1998.1 ta0 (by decide)) ?_
            rintro v2017 cn' K' N' I2013 R2014 L2015 ⟨rfl, rfl, rfl, rfl, g2016, p2018, w2019, -⟩
            have hS2020 := hS1998.tr g2016 (by decide +kernel) (by decide +kernel)
            have c2021 : I2013 a1 5 = v49 := (g2016.cell ta1 (by decide +kernel)).trans c1999
            have b2022 : 0 ≤ v2017.toInt ∧ v2017.toInt ≤ 99 := by omega
            clear p2018
            have ov2023 := w2019.over (by rw [c2003]; omega)
            obtain ⟨v2024, c2025⟩ : ∃ v, I2013 a0 9 = v := ⟨_, rfl⟩
            have b2026 := iv15_9 hS2020.1 ta0 c2025
            obtain ⟨v2027, c2028⟩ : ∃ v, I2013 a0 13 = v := ⟨_, rfl⟩
            obtain ⟨v2029, c2030⟩ : ∃ v, I2013 a0 14 = v := ⟨_, rfl⟩
            (try rw [c2025] at ov2023)
            (try rw [c2028] at ov2023)
            (try rw [c2030] at ov2023)
            (try rw [c2003] at ov2023)
            (try rw [c2006] at ov2023)
            (try rw [c2008] at ov2023)
            refine tr_istore dX12_readCall_126 (by decide) (by decide) ?_
            refine tr_aload_n dX12_readCall_128 rfl ?_
            refine q_getI dX12_readCall_129 fl12_99 (kR15 hS2020.1 ta0) c2025 ?_
            refine q_iconst dX12_readCall_132 (by decide) ?_
            intro v2031 h2032
            refine q_icmp_ne 137 dX12_readCall_133 (by decide) (fun h2033 => ?_) (fun h2033 => ?_)
            · skip
              exfalso; omega
            · skip
              have eF := hF.eq
              have eP := hP.eq
              obtain ⟨v2034, c2035⟩ : ∃ v, I2013 a0 10 = v := ⟨_, rfl⟩
              have b2036 := iv15_10 hS2020.1 ta0 c2035
              obtain ⟨v2037, c2038⟩ : ∃ v, I2013 a0 11 = v := ⟨_, rfl⟩
              obtain ⟨y2039, c2040⟩ : ∃ v, L2015 a0 15 = v := ⟨_, rfl⟩
              obtain ⟨v2041, c2042⟩ : ∃ v, I2013 a0 12 = v := ⟨_, rfl⟩
              obtain ⟨v2043, c2044⟩ : ∃ v, I2013 a0 8 = v := ⟨_, rfl⟩
              have b2045 := iv15_8 hS2020.1 ta0 c2044
              exact tr_vret hZ dX12_readCall_136 rfl (by decide) (by decide) ⟨rfl, rfl, rfl, rfl, rfl, hS2020, (Or.inr (⟨(by first | done | omega), (by (try rw [c2025]); first | done | omega), (by (try rw [c2028]); first | done | omega), (by (try rw [c2030]); first | done | omega), trivial⟩)), trivial⟩
    · skip
      refine tr_aload_n dX12_readCall_20 rfl ?_
      refine q_iconst dX12_readCall_21 (by decide) ?_
      intro v2046 h2047
      obtain ⟨v2048, c2049⟩ : ∃ v, I68 a0 8 = v := ⟨_, rfl⟩
      have b2050 := iv15_8 hS76.1 ta0 c2049
      refine q_callVv hE (M' := mX12_flaw) (as := [_]) dX12_readCall_22 lk12_145 inX12_flaw seX12_flaw myX12_flaw (by decide) ⟨by decide, by decide⟩ rfl (kR15 hS76.1 ta0) (Nat.le_of_ble_eq_true rfl) rfl rfl (by decide) (by decide) (k_X12_flaw hS76.1 ta0 (by omega)) ?_
      rintro cn' K' N' I2051 R2052 L2053 ⟨rfl, rfl, rfl, rfl, rfl, g2054, p2056, p2057, w2058, -⟩
      have hS2059 := hS76.tr g2054 (by decide +kernel) (by decide +kernel)
      have c2060 : I2051 a1 5 = v49 := (g2054.cell ta1 (by decide +kernel)).trans c77
      have c2061 : I2051 a0 8 = v2048 := (g2054.cell ta0 (by decide +kernel)).trans c2049
      obtain ⟨v2062, c2063⟩ : ∃ v, I2051 a0 9 = v := ⟨_, rfl⟩
      have b2064 := iv15_9 hS2059.1 ta0 c2063
      rw [c2063] at p2056
      rw [c2061] at p2057
      rw [c2049] at p2057
      have ov2065 := w2058.over (by rw [c1611]; omega)
      obtain ⟨v2066, c2067⟩ : ∃ v, I2051 a0 9 = v := ⟨_, rfl⟩
      have b2068 := iv15_9 hS2059.1 ta0 c2067
      obtain ⟨v2069, c2070⟩ : ∃ v, I2051 a0 13 = v := ⟨_, rfl⟩
      obtain ⟨v2071, c2072⟩ : ∃ v, I2051 a0 14 = v := ⟨_, rfl⟩
      (try rw [c2067] at ov2065)
      (try rw [c2070] at ov2065)
      (try rw [c2072] at ov2065)
      (try rw [c1611] at ov2065)
      (try rw [c1614] at ov2065)
      (try rw [c1616] at ov2065)
      refine tr_aload_n dX12_readCall_25 rfl ?_
      refine tr_getR dX12_readCall_26 fl12_188 (kR15 hS2059.1 ta0) d2 ?_
      refine tr_aload_n dX12_readCall_29 rfl ?_
      have p2073 := p17 (by omega)
      obtain ⟨y2074, c2075⟩ : ∃ v, L70 a0 15 = v := ⟨_, rfl⟩
      refine q_getLE dX12_readCall_30 fl12_118 (kR15 hS2059.1 ta0) c2075 ?_
      refine q_callVi hE (M' := mX11_find) (as := [_]) dX12_readCall_33 lk12_201 inX11_find seX11_find myX11_find (by decide) ⟨by decide, by decide⟩ rfl (kR14 hS2059.1 ta1) (Nat.le_of_ble_eq_true rfl) rfl rfl (by decide) (by decide) (k_X11_find hS2059.1 ta1) ?_
      rintro v2080 cn' K' N' I2076 R2077 L2078 ⟨rfl, rfl, rfl, rfl, rfl, rfl, h2081, -⟩
      refine tr_istore_n dX12_readCall_36 (by decide) (by decide) ?_
      refine tr_iload_n dX12_readCall_37 rfl ?_
      refine q_iconst dX12_readCall_38 (by decide) ?_
      intro v2082 h2083
      refine q_icmp_eq 55 dX12_readCall_39 (by decide) (fun h2084 => ?_) (fun h2084 => ?_)
      · skip
        refine tr_aload_n dX12_readCall_55 rfl ?_
        refine q_iconst dX12_readCall_56 (by decide) ?_
        intro v2085 h2086
        refine q_callVv hE (M' := mX12_flaw) (as := [_]) dX12_readCall_57 lk12_145 inX12_flaw seX12_flaw myX12_flaw (by decide) ⟨by decide, by decide⟩ rfl (kR15 hS2059.1 ta0) (Nat.le_of_ble_eq_true rfl) rfl rfl (by decide) (by decide) (k_X12_flaw hS2059.1 ta0 (by omega)) ?_
        rintro cn' K' N' I2087 R2088 L2089 ⟨rfl, rfl, rfl, rfl, rfl, g2090, p2092, p2093, w2094, -⟩
        have hS2095 := hS2059.tr g2090 (by decide +kernel) (by decide +kernel)
        have c2096 : I2087 a1 5 = v49 := (g2090.cell ta1 (by decide +kernel)).trans c2060
        have c2097 : I2087 a0 8 = v2048 := (g2090.cell ta0 (by decide +kernel)).trans c2061
        obtain ⟨v2098, c2099⟩ : ∃ v, I2087 a0 9 = v := ⟨_, rfl⟩
        have b2100 := iv15_9 hS2095.1 ta0 c2099
        rw [c2099] at p2092
        rw [c2097] at p2093
        rw [c2061] at p2093
        have ov2101 := w2094.over (by rw [c2067]; omega)
        obtain ⟨v2102, c2103⟩ : ∃ v, I2087 a0 9 = v := ⟨_, rfl⟩
        have b2104 := iv15_9 hS2095.1 ta0 c2103
        obtain ⟨v2105, c2106⟩ : ∃ v, I2087 a0 13 = v := ⟨_, rfl⟩
        obtain ⟨v2107, c2108⟩ : ∃ v, I2087 a0 14 = v := ⟨_, rfl⟩
        (try rw [c2103] at ov2101)
        (try rw [c2106] at ov2101)
        (try rw [c2108] at ov2101)
        (try rw [c2067] at ov2101)
        (try rw [c2070] at ov2101)
        (try rw [c2072] at ov2101)
        refine tr_aload_n dX12_readCall_60 rfl ?_
        refine q_getI dX12_readCall_61 fl12_99 (kR15 hS2095.1 ta0) c2103 ?_
        refine q_iconst dX12_readCall_64 (by decide) ?_
        intro v2109 h2110
        refine q_icmp_ne 72 dX12_readCall_65 (by decide) (fun h2111 => ?_) (fun h2111 => ?_)
        · skip
          exfalso; omega
        · skip
          refine q_iconst dX12_readCall_68 (by decide) ?_
          intro v2112 h2113
          refine tr_goto 81 dX12_readCall_69 (by decide) ?_
          refine tr_istore_n dX12_readCall_81 (by decide) (by decide) ?_
          refine tr_aload_n dX12_readCall_82 rfl ?_
          refine q_callVv hE (M' := mX12_goesOn) (as := []) dX12_readCall_83 lk12_142 inX12_goesOn seX12_goesOn myX12_goesOn (by decide) ⟨by decide, by decide⟩ rfl (kR15 hS2095.1 ta0) (Nat.le_of_ble_eq_true rfl) rfl rfl (by decide) (by decide) (k_X12_goesOn hS2095.1 ta0) ?_
          rintro cn' K' N' I2114 R2115 L2116 ⟨rfl, rfl, rfl, rfl, g2117, p2119, p2120, p2121, w2122, -⟩
          have hS2123 := hS2095.tr g2117 (by decide +kernel) (by decide +kernel)
          have c2124 : I2114 a1 5 = v49 := (g2117.cell ta1 (by decide +kernel)).trans c2096
          have c2125 : I2114 a0 13 = v2105 := (g2117.cell ta0 (by decide +kernel)).trans c2106
          have c2126 : I2114 a0 14 = v2107 := (g2117.cell ta0 (by decide +kernel)).trans c2108
          obtain ⟨v2127, c2128⟩ : ∃ v, I2114 a0 9 = v := ⟨_, rfl⟩
          have b2129 := iv15_9 hS2123.1 ta0 c2128
          rw [c2103] at p2119
          rw [c2128] at p2119
          rw [c2103] at p2120
          rw [c2128] at p2120
          obtain ⟨v2130, c2131⟩ : ∃ v, I2114 a0 8 = v := ⟨_, rfl⟩
          have b2132 := iv15_8 hS2123.1 ta0 c2131
          rw [c2131] at p2121
          rw [c2097] at p2121
          rw [c2125] at p2121
          rw [c2106] at p2121
          have ov2133 := w2122.over (by rw [c2103]; omega)
          obtain ⟨v2134, c2135⟩ : ∃ v, I2114 a0 9 = v := ⟨_, rfl⟩
          have b2136 := iv15_9 hS2123.1 ta0 c2135
          obtain ⟨v2137, c2138⟩ : ∃ v, I2114 a0 13 = v := ⟨_, rfl⟩
          obtain ⟨v2139, c2140⟩ : ∃ v, I2114 a0 14 = v := ⟨_, rfl⟩
          (try rw [c2135] at ov2133)
          (try rw [c2138] at ov2133)
          (try rw [c2140] at ov2133)
          (try rw [c2103] at ov2133)
          (try rw [c2106] at ov2133)
          (try rw [c2108] at ov2133)
          refine tr_aload_n dX12_readCall_86 rfl ?_
          refine tr_ldcwS dX12_readCall_87 ld12_352 ?_
          refine q_iconst dX12_readCall_90 (by decide) ?_
          intro v2141 h2142
          refine tr_aload_n dX12_readCall_91 rfl ?_
          refine tr_getR dX12_readCall_92 fl12_188 (kR15 hS2123.1 ta0) d2 ?_
          refine q_getI dX12_readCall_95 fl12_192 (kR14 hS2123.1 ta1) ((hS2123.cell ta1 (by decide +kernel)).trans c30) ?_
          refine q_iconst dX12_readCall_98 (by decide) ?_
          intro v2143 h2144
          refine q_isubE dX12_readCall_99 (by intros; omega) ?_
          intro v2145 h2146
          refine q_callVi hE (M' := mX12_readPart) (as := [_, _, _]) dX12_readCall_100 lk12_249 inX12_readPart seX12_readPart myX12_readPart (by decide) ⟨by decide, by decide⟩ rfl (kR15 hS2123.1 ta0) (Nat.le_of_ble_eq_true rfl) rfl rfl (by decide) (by decide) (k_X12_readPart hS2123.1 ta0 (by decide)) ?_
          rintro v2151 cn' K' N' I2147 R2148 L2149 ⟨rfl, rfl, rfl, rfl, g2150, p2152, w2153, -⟩
          have hS2154 := hS2123.tr g2150 (by decide +kernel) (by decide +kernel)
          have c2155 : I2147 a1 5 = v49 := (g2150.cell ta1 (by decide +kernel)).trans c2124
          have b2156 : 0 ≤ v2151.toInt ∧ v2151.toInt ≤ 239 := by omega
          clear p2152
          have ov2157 := w2153.over (by rw [c2135]; omega)
          obtain ⟨v2158, c2159⟩ : ∃ v, I2147 a0 9 = v := ⟨_, rfl⟩
          have b2160 := iv15_9 hS2154.1 ta0 c2159
          obtain ⟨v2161, c2162⟩ : ∃ v, I2147 a0 13 = v := ⟨_, rfl⟩
          obtain ⟨v2163, c2164⟩ : ∃ v, I2147 a0 14 = v := ⟨_, rfl⟩
          (try rw [c2159] at ov2157)
          (try rw [c2162] at ov2157)
          (try rw [c2164] at ov2157)
          (try rw [c2135] at ov2157)
          (try rw [c2138] at ov2157)
          (try rw [c2140] at ov2157)
          refine tr_istore_n dX12_readCall_103 (by decide) (by decide) ?_
          refine tr_aload_n dX12_readCall_104 rfl ?_
          refine tr_ldcwS dX12_readCall_105 ld12_354 ?_
          refine q_iconst dX12_readCall_108 (by decide) ?_
          intro v2165 h2166
          refine q_bipush dX12_readCall_109 (by decide +kernel) ?_
          intro v2167 h2168
          refine q_callVi hE (M' := mX12_readPart) (as := [_, _, _]) dX12_readCall_111 lk12_249 inX12_readPart seX12_readPart myX12_readPart (by decide) ⟨by decide, by decide⟩ rfl (kR15 hS2154.1 ta0) (Nat.le_of_ble_eq_true rfl) rfl rfl (by decide) (by decide) (k_X12_readPart hS2154.1 ta0 (by decide)) ?_
          rintro v2173 cn' K' N' I2169 R2170 L2171 ⟨rfl, rfl, rfl, rfl, g2172, p2174, w2175, -⟩
          have hS2176 := hS2154.tr g2172 (by decide +kernel) (by decide +kernel)
          have c2177 : I2169 a1 5 = v49 := (g2172.cell ta1 (by decide +kernel)).trans c2155
          have b2178 : 1 ≤ v2173.toInt ∧ v2173.toInt ≤ 60 := by omega
          clear p2174
          have ov2179 := w2175.over (by rw [c2159]; omega)
          obtain ⟨v2180, c2181⟩ : ∃ v, I2169 a0 9 = v := ⟨_, rfl⟩
          have b2182 := iv15_9 hS2176.1 ta0 c2181
          obtain ⟨v2183, c2184⟩ : ∃ v, I2169 a0 13 = v := ⟨_, rfl⟩
          obtain ⟨v2185, c2186⟩ : ∃ v, I2169 a0 14 = v := ⟨_, rfl⟩
          (try rw [c2181] at ov2179)
          (try rw [c2184] at ov2179)
          (try rw [c2186] at ov2179)
          (try rw [c2159] at ov2179)
          (try rw [c2162] at ov2179)
          (try rw [c2164] at ov2179)
          refine tr_istore dX12_readCall_114 (by decide) (by decide) ?_
          refine tr_aload_n dX12_readCall_116 rfl ?_
          refine tr_ldcwS dX12_readCall_117 ld12_356 ?_
          refine q_iconst dX12_readCall_120 (by decide) ?_
          intro v2187 h2188
          refine q_bipush dX12_readCall_121 (by decide +kernel) ?_
          intro v2189 h2190
          refine q_callVi hE (M' := mX12_readPart) (as := [_, _, _]) dX12_readCall_123 lk12_249 inX12_readPart seX12_readPart myX12_readPart (by decide) ⟨by decide, by decide⟩ rfl (kR15 hS2176.1 ta0) (Nat.le_of_ble_eq_true rfl) rfl rfl (by decide) (by decide) (k_X12_readPart hS2176.1 ta0 (by decide)) ?_
          rintro v2195 cn' K' N' I2191 R2192 L2193 ⟨rfl, rfl, rfl, rfl, g2194, p2196, w2197, -⟩
          have hS2198 := hS2176.tr g2194 (by decide +kernel) (by decide +kernel)
          have c2199 : I2191 a1 5 = v49 := (g2194.cell ta1 (by decide +kernel)).trans c2177
          have b2200 : 0 ≤ v2195.toInt ∧ v2195.toInt ≤ 99 := by omega
          clear p2196
          have ov2201 := w2197.over (by rw [c2181]; omega)
          obtain ⟨v2202, c2203⟩ : ∃ v, I2191 a0 9 = v := ⟨_, rfl⟩
          have b2204 := iv15_9 hS2198.1 ta0 c2203
          obtain ⟨v2205, c2206⟩ : ∃ v, I2191 a0 13 = v := ⟨_, rfl⟩
          obtain ⟨v2207, c2208⟩ : ∃ v, I2191 a0 14 = v := ⟨_, rfl⟩
          (try rw [c2203] at ov2201)
          (try rw [c2206] at ov2201)
          (try rw [c2208] at ov2201)
          (try rw [c2181] at ov2201)
          (try rw [c2184] at ov2201)
          (try rw [c2186] at ov2201)
          refine tr_istore dX12_readCall_126 (by decide) (by decide) ?_
          refine tr_aload_n dX12_readCall_128 rfl ?_
          refine q_getI dX12_readCall_129 fl12_99 (kR15 hS2198.1 ta0) c2203 ?_
          refine q_iconst dX12_readCall_132 (by decide) ?_
          intro v2209 h2210
          refine q_icmp_ne 137 dX12_readCall_133 (by decide) (fun h2211 => ?_) (fun h2211 => ?_)
          · skip
            exfalso; omega
          · skip
            have eF := hF.eq
            have eP := hP.eq
            obtain ⟨v2212, c2213⟩ : ∃ v, I2191 a0 10 = v := ⟨_, rfl⟩
            have b2214 := iv15_10 hS2198.1 ta0 c2213
            obtain ⟨v2215, c2216⟩ : ∃ v, I2191 a0 11 = v := ⟨_, rfl⟩
            obtain ⟨y2217, c2218⟩ : ∃ v, L2193 a0 15 = v := ⟨_, rfl⟩
            obtain ⟨v2219, c2220⟩ : ∃ v, I2191 a0 12 = v := ⟨_, rfl⟩
            obtain ⟨v2221, c2222⟩ : ∃ v, I2191 a0 8 = v := ⟨_, rfl⟩
            have b2223 := iv15_8 hS2198.1 ta0 c2222
            exact tr_vret hZ dX12_readCall_136 rfl (by decide) (by decide) ⟨rfl, rfl, rfl, rfl, rfl, hS2198, (Or.inr (⟨(by first | done | omega), (by (try rw [c2203]); first | done | omega), (by (try rw [c2206]); first | done | omega), (by (try rw [c2208]); first | done | omega), trivial⟩)), trivial⟩
      · skip
        refine tr_aload_n dX12_readCall_42 rfl ?_
        refine tr_getR dX12_readCall_43 fl12_188 (kR15 hS2059.1 ta0) d2 ?_
        obtain ⟨a2224, d2225, ta2224⟩ := rf14_31 hW0 ta1
        refine tr_getR dX12_readCall_46 fl12_212 (kR14 hS2059.1 ta1) d2225 ?_
        refine tr_iload_n dX12_readCall_49 rfl ?_
        refine q_iald dX12_readCall_50 (kR74 hS2059.1 ta2224) (ti_in (nR74 hS2059.1 ta2224) (by omega) (by omega)) ?_
        intro v2226 c2227
        refine q_iconst dX12_readCall_51 (by decide) ?_
        intro v2228 h2229
        refine q_icmp_eq 60 dX12_readCall_52 (by decide) (fun h2230 => ?_) (fun h2230 => ?_)
        · skip
          refine tr_aload_n dX12_readCall_60 rfl ?_
          refine q_getI dX12_readCall_61 fl12_99 (kR15 hS2059.1 ta0) c2067 ?_
          refine q_iconst dX12_readCall_64 (by decide) ?_
          intro v2231 h2232
          refine q_icmp_ne 72 dX12_readCall_65 (by decide) (fun h2233 => ?_) (fun h2233 => ?_)
          · skip
            exfalso; omega
          · skip
            refine q_iconst dX12_readCall_68 (by decide) ?_
            intro v2234 h2235
            refine tr_goto 81 dX12_readCall_69 (by decide) ?_
            refine tr_istore_n dX12_readCall_81 (by decide) (by decide) ?_
            refine tr_aload_n dX12_readCall_82 rfl ?_
            refine q_callVv hE (M' := mX12_goesOn) (as := []) dX12_readCall_83 lk12_142 inX12_goesOn seX12_goesOn myX12_goesOn (by decide) ⟨by decide, by decide⟩ rfl (kR15 hS2059.1 ta0) (Nat.le_of_ble_eq_true rfl) rfl rfl (by decide) (by decide) (k_X12_goesOn hS2059.1 ta0) ?_
            rintro cn' K' N' I2236 R2237 L2238 ⟨rfl, rfl, rfl, rfl, g2239, p2241, p2242, p2243, w2244, -⟩
            have hS2245 := hS2059.tr g2239 (by decide +kernel) (by decide +kernel)
            have c2246 : I2236 a1 5 = v49 := (g2239.cell ta1 (by decide +kernel)).trans c2060
            have c2247 : I2236 a0 13 = v2069 := (g2239.cell ta0 (by decide +kernel)).trans c2070
            have c2248 : I2236 a0 14 = v2071 := (g2239.cell ta0 (by decide +kernel)).trans c2072
            obtain ⟨v2249, c2250⟩ : ∃ v, I2236 a0 9 = v := ⟨_, rfl⟩
            have b2251 := iv15_9 hS2245.1 ta0 c2250
            rw [c2067] at p2241
            rw [c2250] at p2241
            rw [c2067] at p2242
            rw [c2250] at p2242
            obtain ⟨v2252, c2253⟩ : ∃ v, I2236 a0 8 = v := ⟨_, rfl⟩
            have b2254 := iv15_8 hS2245.1 ta0 c2253
            rw [c2253] at p2243
            rw [c2061] at p2243
            rw [c2247] at p2243
            rw [c2070] at p2243
            have ov2255 := w2244.over (by rw [c2067]; omega)
            obtain ⟨v2256, c2257⟩ : ∃ v, I2236 a0 9 = v := ⟨_, rfl⟩
            have b2258 := iv15_9 hS2245.1 ta0 c2257
            obtain ⟨v2259, c2260⟩ : ∃ v, I2236 a0 13 = v := ⟨_, rfl⟩
            obtain ⟨v2261, c2262⟩ : ∃ v, I2236 a0 14 = v := ⟨_, rfl⟩
            (try rw [c2257] at ov2255)
            (try rw [c2260] at ov2255)
            (try rw [c2262] at ov2255)
            (try rw [c2067] at ov2255)
            (try rw [c2070] at ov2255)
            (try rw [c2072] at ov2255)
            refine tr_aload_n dX12_readCall_86 rfl ?_
            refine tr_ldcwS dX12_readCall_87 ld12_352 ?_
            refine q_iconst dX12_readCall_90 (by decide) ?_
            intro v2263 h2264
            refine tr_aload_n dX12_readCall_91 rfl ?_
            refine tr_getR dX12_readCall_92 fl12_188 (kR15 hS2245.1 ta0) d2 ?_
            refine q_getI dX12_readCall_95 fl12_192 (kR14 hS2245.1 ta1) ((hS2245.cell ta1 (by decide +kernel)).trans c30) ?_
            refine q_iconst dX12_readCall_98 (by decide) ?_
            intro v2265 h2266
            refine q_isubE dX12_readCall_99 (by intros; omega) ?_
            intro v2267 h2268
            refine q_callVi hE (M' := mX12_readPart) (as := [_, _, _]) dX12_readCall_100 lk12_249 inX12_readPart seX12_readPart myX12_readPart (by decide) ⟨by decide, by decide⟩ rfl (kR15 hS2245.1 ta0) (Nat.le_of_ble_eq_true rfl) rfl rfl (by decide) (by decide) (k_X12_readPart hS2245.1 ta0 (by decide)) ?_
            rintro v2273 cn' K' N' I2269 R2270 L2271 ⟨rfl, rfl, rfl, rfl, g2272, p2274, w2275, -⟩
            have hS2276 := hS2245.tr g2272 (by decide +kernel) (by decide +kernel)
            have c2277 : I2269 a1 5 = v49 := (g2272.cell ta1 (by decide +kernel)).trans c2246
            have b2278 : 0 ≤ v2273.toInt ∧ v2273.toInt ≤ 239 := by omega
            clear p2274
            have ov2279 := w2275.over (by rw [c2257]; omega)
            obtain ⟨v2280, c2281⟩ : ∃ v, I2269 a0 9 = v := ⟨_, rfl⟩
            have b2282 := iv15_9 hS2276.1 ta0 c2281
            obtain ⟨v2283, c2284⟩ : ∃ v, I2269 a0 13 = v := ⟨_, rfl⟩
            obtain ⟨v2285, c2286⟩ : ∃ v, I2269 a0 14 = v := ⟨_, rfl⟩
            (try rw [c2281] at ov2279)
            (try rw [c2284] at ov2279)
            (try rw [c2286] at ov2279)
            (try rw [c2257] at ov2279)
            (try rw [c2260] at ov2279)
            (try rw [c2262] at ov2279)
            refine tr_istore_n dX12_readCall_103 (by decide) (by decide) ?_
            refine tr_aload_n dX12_readCall_104 rfl ?_
            refine tr_ldcwS dX12_readCall_105 ld12_354 ?_
            refine q_iconst dX12_readCall_108 (by decide) ?_
            intro v2287 h2288
            refine q_bipush dX12_readCall_109 (by decide +kernel) ?_
            intro v2289 h2290
            refine q_callVi hE (M' := mX12_readPart) (as := [_, _, _]) dX12_readCall_111 lk12_249 inX12_readPart seX12_readPart myX12_readPart (by decide) ⟨by decide, by decide⟩ rfl (kR15 hS2276.1 ta0) (Nat.le_of_ble_eq_true rfl) rfl rfl (by decide) (by decide) (k_X12_readPart hS2276.1 ta0 (by decide)) ?_
            rintro v2295 cn' K' N' I2291 R2292 L2293 ⟨rfl, rfl, rfl, rfl, g2294, p2296, w2297, -⟩
            have hS2298 := hS2276.tr g2294 (by decide +kernel) (by decide +kernel)
            have c2299 : I2291 a1 5 = v49 := (g2294.cell ta1 (by decide +kernel)).trans c2277
            have b2300 : 1 ≤ v2295.toInt ∧ v2295.toInt ≤ 60 := by omega
            clear p2296
            have ov2301 := w2297.over (by rw [c2281]; omega)
            obtain ⟨v2302, c2303⟩ : ∃ v, I2291 a0 9 = v := ⟨_, rfl⟩
            have b2304 := iv15_9 hS2298.1 ta0 c2303
            obtain ⟨v2305, c2306⟩ : ∃ v, I2291 a0 13 = v := ⟨_, rfl⟩
            obtain ⟨v2307, c2308⟩ : ∃ v, I2291 a0 14 = v := ⟨_, rfl⟩
            (try rw [c2303] at ov2301)
            (try rw [c2306] at ov2301)
            (try rw [c2308] at ov2301)
            (try rw [c2281] at ov2301)
            (try rw [c2284] at ov2301)
            (try rw [c2286] at ov2301)
            refine tr_istore dX12_readCall_114 (by decide) (by decide) ?_
            refine tr_aload_n dX12_readCall_116 rfl ?_
            refine tr_ldcwS dX12_readCall_117 ld12_356 ?_
            refine q_iconst dX12_readCall_120 (by decide) ?_
            intro v2309 h2310
            refine q_bipush dX12_readCall_121 (by decide +kernel) ?_
            intro v2311 h2312
            refine q_callVi hE (M' := mX12_readPart) (as := [_, _, _]) dX12_readCall_123 lk12_249 inX12_readPart seX12_readPart myX12_readPart (by decide) ⟨by decide, by decide⟩ rfl (kR15 hS2298.1 ta0) (Nat.le_of_ble_eq_true rfl) rfl rfl (by decide) (by decide) (k_X12_readPart hS2298.1 ta0 (by decide)) ?_
            rintro v2317 cn' K' N' I2313 R2314 L2315 ⟨rfl, rfl, rfl, rfl, g2316, p2318, w2319, -⟩
            have hS2320 := hS2298.tr g2316 (by decide +kernel) (by decide +kernel)
            have c2321 : I2313 a1 5 = v49 := (g2316.cell ta1 (by decide +kernel)).trans c2299
            have b2322 : 0 ≤ v2317.toInt ∧ v2317.toInt ≤ 99 := by omega
            clear p2318
            have ov2323 := w2319.over (by rw [c2303]; omega)
            obtain ⟨v2324, c2325⟩ : ∃ v, I2313 a0 9 = v := ⟨_, rfl⟩
            have b2326 := iv15_9 hS2320.1 ta0 c2325
            obtain ⟨v2327, c2328⟩ : ∃ v, I2313 a0 13 = v := ⟨_, rfl⟩
            obtain ⟨v2329, c2330⟩ : ∃ v, I2313 a0 14 = v := ⟨_, rfl⟩
            (try rw [c2325] at ov2323)
            (try rw [c2328] at ov2323)
            (try rw [c2330] at ov2323)
            (try rw [c2303] at ov2323)
            (try rw [c2306] at ov2323)
            (try rw [c2308] at ov2323)
            refine tr_istore dX12_readCall_126 (by decide) (by decide) ?_
            refine tr_aload_n dX12_readCall_128 rfl ?_
            refine q_getI dX12_readCall_129 fl12_99 (kR15 hS2320.1 ta0) c2325 ?_
            refine q_iconst dX12_readCall_132 (by decide) ?_
            intro v2331 h2332
            refine q_icmp_ne 137 dX12_readCall_133 (by decide) (fun h2333 => ?_) (fun h2333 => ?_)
            · skip
              exfalso; omega
            · skip
              have eF := hF.eq
              have eP := hP.eq
              obtain ⟨v2334, c2335⟩ : ∃ v, I2313 a0 10 = v := ⟨_, rfl⟩
              have b2336 := iv15_10 hS2320.1 ta0 c2335
              obtain ⟨v2337, c2338⟩ : ∃ v, I2313 a0 11 = v := ⟨_, rfl⟩
              obtain ⟨y2339, c2340⟩ : ∃ v, L2315 a0 15 = v := ⟨_, rfl⟩
              obtain ⟨v2341, c2342⟩ : ∃ v, I2313 a0 12 = v := ⟨_, rfl⟩
              obtain ⟨v2343, c2344⟩ : ∃ v, I2313 a0 8 = v := ⟨_, rfl⟩
              have b2345 := iv15_8 hS2320.1 ta0 c2344
              exact tr_vret hZ dX12_readCall_136 rfl (by decide) (by decide) ⟨rfl, rfl, rfl, rfl, rfl, hS2320, (Or.inr (⟨(by first | done | omega), (by (try rw [c2325]); first | done | omega), (by (try rw [c2328]); first | done | omega), (by (try rw [c2330]); first | done | omega), trivial⟩)), trivial⟩
        · skip
          refine tr_aload_n dX12_readCall_55 rfl ?_
          refine q_iconst dX12_readCall_56 (by decide) ?_
          intro v2346 h2347
          refine q_callVv hE (M' := mX12_flaw) (as := [_]) dX12_readCall_57 lk12_145 inX12_flaw seX12_flaw myX12_flaw (by decide) ⟨by decide, by decide⟩ rfl (kR15 hS2059.1 ta0) (Nat.le_of_ble_eq_true rfl) rfl rfl (by decide) (by decide) (k_X12_flaw hS2059.1 ta0 (by omega)) ?_
          rintro cn' K' N' I2348 R2349 L2350 ⟨rfl, rfl, rfl, rfl, rfl, g2351, p2353, p2354, w2355, -⟩
          have hS2356 := hS2059.tr g2351 (by decide +kernel) (by decide +kernel)
          have c2357 : I2348 a1 5 = v49 := (g2351.cell ta1 (by decide +kernel)).trans c2060
          have c2358 : I2348 a0 8 = v2048 := (g2351.cell ta0 (by decide +kernel)).trans c2061
          obtain ⟨v2359, c2360⟩ : ∃ v, I2348 a0 9 = v := ⟨_, rfl⟩
          have b2361 := iv15_9 hS2356.1 ta0 c2360
          rw [c2360] at p2353
          rw [c2358] at p2354
          rw [c2061] at p2354
          have ov2362 := w2355.over (by rw [c2067]; omega)
          obtain ⟨v2363, c2364⟩ : ∃ v, I2348 a0 9 = v := ⟨_, rfl⟩
          have b2365 := iv15_9 hS2356.1 ta0 c2364
          obtain ⟨v2366, c2367⟩ : ∃ v, I2348 a0 13 = v := ⟨_, rfl⟩
          obtain ⟨v2368, c2369⟩ : ∃ v, I2348 a0 14 = v := ⟨_, rfl⟩
          (try rw [c2364] at ov2362)
          (try rw [c2367] at ov2362)
          (try rw [c2369] at ov2362)
          (try rw [c2067] at ov2362)
          (try rw [c2070] at ov2362)
          (try rw [c2072] at ov2362)
          refine tr_aload_n dX12_readCall_60 rfl ?_
          refine q_getI dX12_readCall_61 fl12_99 (kR15 hS2356.1 ta0) c2364 ?_
          refine q_iconst dX12_readCall_64 (by decide) ?_
          intro v2370 h2371
          refine q_icmp_ne 72 dX12_readCall_65 (by decide) (fun h2372 => ?_) (fun h2372 => ?_)
          · skip
            exfalso; omega
          · skip
            refine q_iconst dX12_readCall_68 (by decide) ?_
            intro v2373 h2374
            refine tr_goto 81 dX12_readCall_69 (by decide) ?_
            refine tr_istore_n dX12_readCall_81 (by decide) (by decide) ?_
            refine tr_aload_n dX12_readCall_82 rfl ?_
            refine q_callVv hE (M' := mX12_goesOn) (as := []) dX12_readCall_83 lk12_142 inX12_goesOn seX12_goesOn myX12_goesOn (by decide) ⟨by decide, by decide⟩ rfl (kR15 hS2356.1 ta0) (Nat.le_of_ble_eq_true rfl) rfl rfl (by decide) (by decide) (k_X12_goesOn hS2356.1 ta0) ?_
            rintro cn' K' N' I2375 R2376 L2377 ⟨rfl, rfl, rfl, rfl, g2378, p2380, p2381, p2382, w2383, -⟩
            have hS2384 := hS2356.tr g2378 (by decide +kernel) (by decide +kernel)
            have c2385 : I2375 a1 5 = v49 := (g2378.cell ta1 (by decide +kernel)).trans c2357
            have c2386 : I2375 a0 13 = v2366 := (g2378.cell ta0 (by decide +kernel)).trans c2367
            have c2387 : I2375 a0 14 = v2368 := (g2378.cell ta0 (by decide +kernel)).trans c2369
            obtain ⟨v2388, c2389⟩ : ∃ v, I2375 a0 9 = v := ⟨_, rfl⟩
            have b2390 := iv15_9 hS2384.1 ta0 c2389
            rw [c2364] at p2380
            rw [c2389] at p2380
            rw [c2364] at p2381
            rw [c2389] at p2381
            obtain ⟨v2391, c2392⟩ : ∃ v, I2375 a0 8 = v := ⟨_, rfl⟩
            have b2393 := iv15_8 hS2384.1 ta0 c2392
            rw [c2392] at p2382
            rw [c2358] at p2382
            rw [c2386] at p2382
            rw [c2367] at p2382
            have ov2394 := w2383.over (by rw [c2364]; omega)
            obtain ⟨v2395, c2396⟩ : ∃ v, I2375 a0 9 = v := ⟨_, rfl⟩
            have b2397 := iv15_9 hS2384.1 ta0 c2396
            obtain ⟨v2398, c2399⟩ : ∃ v, I2375 a0 13 = v := ⟨_, rfl⟩
            obtain ⟨v2400, c2401⟩ : ∃ v, I2375 a0 14 = v := ⟨_, rfl⟩
            (try rw [c2396] at ov2394)
            (try rw [c2399] at ov2394)
            (try rw [c2401] at ov2394)
            (try rw [c2364] at ov2394)
            (try rw [c2367] at ov2394)
            (try rw [c2369] at ov2394)
            refine tr_aload_n dX12_readCall_86 rfl ?_
            refine tr_ldcwS dX12_readCall_87 ld12_352 ?_
            refine q_iconst dX12_readCall_90 (by decide) ?_
            intro v2402 h2403
            refine tr_aload_n dX12_readCall_91 rfl ?_
            refine tr_getR dX12_readCall_92 fl12_188 (kR15 hS2384.1 ta0) d2 ?_
            refine q_getI dX12_readCall_95 fl12_192 (kR14 hS2384.1 ta1) ((hS2384.cell ta1 (by decide +kernel)).trans c30) ?_
            refine q_iconst dX12_readCall_98 (by decide) ?_
            intro v2404 h2405
            refine q_isubE dX12_readCall_99 (by intros; omega) ?_
            intro v2406 h2407
            refine q_callVi hE (M' := mX12_readPart) (as := [_, _, _]) dX12_readCall_100 lk12_249 inX12_readPart seX12_readPart myX12_readPart (by decide) ⟨by decide, by decide⟩ rfl (kR15 hS2384.1 ta0) (Nat.le_of_ble_eq_true rfl) rfl rfl (by decide) (by decide) (k_X12_readPart hS2384.1 ta0 (by decide)) ?_
            rintro v2412 cn' K' N' I2408 R2409 L2410 ⟨rfl, rfl, rfl, rfl, g2411, p2413, w2414, -⟩
            have hS2415 := hS2384.tr g2411 (by decide +kernel) (by decide +kernel)
            have c2416 : I2408 a1 5 = v49 := (g2411.cell ta1 (by decide +kernel)).trans c2385
            have b2417 : 0 ≤ v2412.toInt ∧ v2412.toInt ≤ 239 := by omega
            clear p2413
            have ov2418 := w2414.over (by rw [c2396]; omega)
            obtain ⟨v2419, c2420⟩ : ∃ v, I2408 a0 9 = v := ⟨_, rfl⟩
            have b2421 := iv15_9 hS2415.1 ta0 c2420
            obtain ⟨v2422, c2423⟩ : ∃ v, I2408 a0 13 = v := ⟨_, rfl⟩
            obtain ⟨v2424, c2425⟩ : ∃ v, I2408 a0 14 = v := ⟨_, rfl⟩
            (try rw [c2420] at ov2418)
            (try rw [c2423] at ov2418)
            (try rw [c2425] at ov2418)
            (try rw [c2396] at ov2418)
            (try rw [c2399] at ov2418)
            (try rw [c2401] at ov2418)
            refine tr_istore_n dX12_readCall_103 (by decide) (by decide) ?_
            refine tr_aload_n dX12_readCall_104 rfl ?_
            refine tr_ldcwS dX12_readCall_105 ld12_354 ?_
            refine q_iconst dX12_readCall_108 (by decide) ?_
            intro v2426 h2427
            refine q_bipush dX12_readCall_109 (by decide +kernel) ?_
            intro v2428 h2429
            refine q_callVi hE (M' := mX12_readPart) (as := [_, _, _]) dX12_readCall_111 lk12_249 inX12_readPart seX12_readPart myX12_readPart (by decide) ⟨by decide, by decide⟩ rfl (kR15 hS2415.1 ta0) (Nat.le_of_ble_eq_true rfl) rfl rfl (by decide) (by decide) (k_X12_readPart hS2415.1 ta0 (by decide)) ?_
            rintro v2434 cn' K' N' I2430 R2431 L2432 ⟨rfl, rfl, rfl, rfl, g2433, p2435, w2436, -⟩
            have hS2437 := hS2415.tr g2433 (by decide +kernel) (by decide +kernel)
            have c2438 : I2430 a1 5 = v49 := (g2433.cell ta1 (by decide +kernel)).trans c2416
            have b2439 : 1 ≤ v2434.toInt ∧ v2434.toInt ≤ 60 := by omega
            clear p2435
            have ov2440 := w2436.over (by rw [c2420]; omega)
            obtain ⟨v2441, c2442⟩ : ∃ v, I2430 a0 9 = v := ⟨_, rfl⟩
            have b2443 := iv15_9 hS2437.1 ta0 c2442
            obtain ⟨v2444, c2445⟩ : ∃ v, I2430 a0 13 = v := ⟨_, rfl⟩
            obtain ⟨v2446, c2447⟩ : ∃ v, I2430 a0 14 = v := ⟨_, rfl⟩
            (try rw [c2442] at ov2440)
            (try rw [c2445] at ov2440)
            (try rw [c2447] at ov2440)
            (try rw [c2420] at ov2440)
            (try rw [c2423] at ov2440)
            (try rw [c2425] at ov2440)
            refine tr_istore dX12_readCall_114 (by decide) (by decide) ?_
            refine tr_aload_n dX12_readCall_116 rfl ?_
            refine tr_ldcwS dX12_readCall_117 ld12_356 ?_
            refine q_iconst dX12_readCall_120 (by decide) ?_
            intro v2448 h2449
            refine q_bipush dX12_readCall_121 (by decide +kernel) ?_
            intro v2450 h2451
            refine q_callVi hE (M' := mX12_readPart) (as := [_, _, _]) dX12_readCall_123 lk12_249 inX12_readPart seX12_readPart myX12_readPart (by decide) ⟨by decide, by decide⟩ rfl (kR15 hS2437.1 ta0) (Nat.le_of_ble_eq_true rfl) rfl rfl (by decide) (by decide) (k_X12_readPart hS2437.1 ta0 (by decide)) ?_
            rintro v2456 cn' K' N' I2452 R2453 L2454 ⟨rfl, rfl, rfl, rfl, g2455, p2457, w2458, -⟩
            have hS2459 := hS2437.tr g2455 (by decide +kernel) (by decide +kernel)
            have c2460 : I2452 a1 5 = v49 := (g2455.cell ta1 (by decide +kernel)).trans c2438
            have b2461 : 0 ≤ v2456.toInt ∧ v2456.toInt ≤ 99 := by omega
            clear p2457
            have ov2462 := w2458.over (by rw [c2442]; omega)
            obtain ⟨v2463, c2464⟩ : ∃ v, I2452 a0 9 = v := ⟨_, rfl⟩
            have b2465 := iv15_9 hS2459.1 ta0 c2464
            obtain ⟨v2466, c2467⟩ : ∃ v, I2452 a0 13 = v := ⟨_, rfl⟩
            obtain ⟨v2468, c2469⟩ : ∃ v, I2452 a0 14 = v := ⟨_, rfl⟩
            (try rw [c2464] at ov2462)
            (try rw [c2467] at ov2462)
            (try rw [c2469] at ov2462)
            (try rw [c2442] at ov2462)
            (try rw [c2445] at ov2462)
            (try rw [c2447] at ov2462)
            refine tr_istore dX12_readCall_126 (by decide) (by decide) ?_
            refine tr_aload_n dX12_readCall_128 rfl ?_
            refine q_getI dX12_readCall_129 fl12_99 (kR15 hS2459.1 ta0) c2464 ?_
            refine q_iconst dX12_readCall_132 (by decide) ?_
            intro v2470 h2471
            refine q_icmp_ne 137 dX12_readCall_133 (by decide) (fun h2472 => ?_) (fun h2472 => ?_)
            · skip
              exfalso; omega
            · skip
              have eF := hF.eq
              have eP := hP.eq
              obtain ⟨v2473, c2474⟩ : ∃ v, I2452 a0 10 = v := ⟨_, rfl⟩
              have b2475 := iv15_10 hS2459.1 ta0 c2474
              obtain ⟨v2476, c2477⟩ : ∃ v, I2452 a0 11 = v := ⟨_, rfl⟩
              obtain ⟨y2478, c2479⟩ : ∃ v, L2454 a0 15 = v := ⟨_, rfl⟩
              obtain ⟨v2480, c2481⟩ : ∃ v, I2452 a0 12 = v := ⟨_, rfl⟩
              obtain ⟨v2482, c2483⟩ : ∃ v, I2452 a0 8 = v := ⟨_, rfl⟩
              have b2484 := iv15_8 hS2459.1 ta0 c2483
              exact tr_vret hZ dX12_readCall_136 rfl (by decide) (by decide) ⟨rfl, rfl, rfl, rfl, rfl, hS2459, (Or.inr (⟨(by first | done | omega), (by (try rw [c2464]); first | done | omega), (by (try rw [c2467]); first | done | omega), (by (try rw [c2469]); first | done | omega), trivial⟩)), trivial⟩
  · skip
    obtain ⟨v2485, c2486⟩ : ∃ v, I68 a0 9 = v := ⟨_, rfl⟩
    have b2487 := iv15_9 hS76.1 ta0 c2486
    rw [c2486] at p95
    obtain ⟨v2488, c2489⟩ : ∃ v, I68 a0 13 = v := ⟨_, rfl⟩
    rw [c2489] at p96
    obtain ⟨v2490, c2491⟩ : ∃ v, I68 a0 14 = v := ⟨_, rfl⟩
    rw [c2491] at p97
    have p2492 := p61
    unfold Q7M at p2492
    replace hF := hF.neg (by omega)
    replace hP := hP.neg (by omega)
    replace hF := hF.pos (by omega)
    replace hP := hP.pos (by omega)
    clear p2492
    refine tr_aload_n dX12_readCall_13 rfl ?_
    refine q_callVi hE (M' := mX12_isName) (as := []) dX12_readCall_14 lk12_197 inX12_isName seX12_isName myX12_isName (by decide) ⟨by decide, by decide⟩ rfl (kR15 hS76.1 ta0) (Nat.le_of_ble_eq_true rfl) rfl rfl (by decide) (by decide) (k_X12_isName hS76.1 ta0) ?_
    rintro v2497 cn' K' N' I2493 R2494 L2495 ⟨rfl, rfl, rfl, rfl, rfl, rfl, h2498, -⟩
    refine q_if_ne 25 dX12_readCall_17 (by decide) (fun h2499 => ?_) (fun h2499 => ?_)
    · skip
      refine tr_aload_n dX12_readCall_25 rfl ?_
      refine tr_getR dX12_readCall_26 fl12_188 (kR15 hS76.1 ta0) d2 ?_
      refine tr_aload_n dX12_readCall_29 rfl ?_
      have p2500 := p17 (by omega)
      obtain ⟨y2501, c2502⟩ : ∃ v, L70 a0 15 = v := ⟨_, rfl⟩
      refine q_getLE dX12_readCall_30 fl12_118 (kR15 hS76.1 ta0) c2502 ?_
      refine q_callVi hE (M' := mX11_find) (as := [_]) dX12_readCall_33 lk12_201 inX11_find seX11_find myX11_find (by decide) ⟨by decide, by decide⟩ rfl (kR14 hS76.1 ta1) (Nat.le_of_ble_eq_true rfl) rfl rfl (by decide) (by decide) (k_X11_find hS76.1 ta1) ?_
      rintro v2507 cn' K' N' I2503 R2504 L2505 ⟨rfl, rfl, rfl, rfl, rfl, rfl, h2508, -⟩
      refine tr_istore_n dX12_readCall_36 (by decide) (by decide) ?_
      refine tr_iload_n dX12_readCall_37 rfl ?_
      refine q_iconst dX12_readCall_38 (by decide) ?_
      intro v2509 h2510
      refine q_icmp_eq 55 dX12_readCall_39 (by decide) (fun h2511 => ?_) (fun h2511 => ?_)
      · skip
        refine tr_aload_n dX12_readCall_55 rfl ?_
        refine q_iconst dX12_readCall_56 (by decide) ?_
        intro v2512 h2513
        obtain ⟨v2514, c2515⟩ : ∃ v, I68 a0 8 = v := ⟨_, rfl⟩
        have b2516 := iv15_8 hS76.1 ta0 c2515
        refine q_callVv hE (M' := mX12_flaw) (as := [_]) dX12_readCall_57 lk12_145 inX12_flaw seX12_flaw myX12_flaw (by decide) ⟨by decide, by decide⟩ rfl (kR15 hS76.1 ta0) (Nat.le_of_ble_eq_true rfl) rfl rfl (by decide) (by decide) (k_X12_flaw hS76.1 ta0 (by omega)) ?_
        rintro cn' K' N' I2517 R2518 L2519 ⟨rfl, rfl, rfl, rfl, rfl, g2520, p2522, p2523, w2524, -⟩
        have hS2525 := hS76.tr g2520 (by decide +kernel) (by decide +kernel)
        have c2526 : I2517 a1 5 = v49 := (g2520.cell ta1 (by decide +kernel)).trans c77
        have c2527 : I2517 a0 8 = v2514 := (g2520.cell ta0 (by decide +kernel)).trans c2515
        obtain ⟨v2528, c2529⟩ : ∃ v, I2517 a0 9 = v := ⟨_, rfl⟩
        have b2530 := iv15_9 hS2525.1 ta0 c2529
        rw [c2529] at p2522
        rw [c2527] at p2523
        rw [c2515] at p2523
        have ov2531 := w2524.over (by rw [c2486]; omega)
        obtain ⟨v2532, c2533⟩ : ∃ v, I2517 a0 9 = v := ⟨_, rfl⟩
        have b2534 := iv15_9 hS2525.1 ta0 c2533
        obtain ⟨v2535, c2536⟩ : ∃ v, I2517 a0 13 = v := ⟨_, rfl⟩
        obtain ⟨v2537, c2538⟩ : ∃ v, I2517 a0 14 = v := ⟨_, rfl⟩
        (try rw [c2533] at ov2531)
        (try rw [c2536] at ov2531)
        (try rw [c2538] at ov2531)
        (try rw [c2486] at ov2531)
        (try rw [c2489] at ov2531)
        (try rw [c2491] at ov2531)
        refine tr_aload_n dX12_readCall_60 rfl ?_
        refine q_getI dX12_readCall_61 fl12_99 (kR15 hS2525.1 ta0) c2533 ?_
        refine q_iconst dX12_readCall_64 (by decide) ?_
        intro v2539 h2540
        refine q_icmp_ne 72 dX12_readCall_65 (by decide) (fun h2541 => ?_) (fun h2541 => ?_)
        · skip
          exfalso; omega
        · skip
          refine q_iconst dX12_readCall_68 (by decide) ?_
          intro v2542 h2543
          refine tr_goto 81 dX12_readCall_69 (by decide) ?_
          refine tr_istore_n dX12_readCall_81 (by decide) (by decide) ?_
          refine tr_aload_n dX12_readCall_82 rfl ?_
          refine q_callVv hE (M' := mX12_goesOn) (as := []) dX12_readCall_83 lk12_142 inX12_goesOn seX12_goesOn myX12_goesOn (by decide) ⟨by decide, by decide⟩ rfl (kR15 hS2525.1 ta0) (Nat.le_of_ble_eq_true rfl) rfl rfl (by decide) (by decide) (k_X12_goesOn hS2525.1 ta0) ?_
          rintro cn' K' N' I2544 R2545 L2546 ⟨rfl, rfl, rfl, rfl, g2547, p2549, p2550, p2551, w2552, -⟩
          have hS2553 := hS2525.tr g2547 (by decide +kernel) (by decide +kernel)
          have c2554 : I2544 a1 5 = v49 := (g2547.cell ta1 (by decide +kernel)).trans c2526
          have c2555 : I2544 a0 13 = v2535 := (g2547.cell ta0 (by decide +kernel)).trans c2536
          have c2556 : I2544 a0 14 = v2537 := (g2547.cell ta0 (by decide +kernel)).trans c2538
          obtain ⟨v2557, c2558⟩ : ∃ v, I2544 a0 9 = v := ⟨_, rfl⟩
          have b2559 := iv15_9 hS2553.1 ta0 c2558
          rw [c2533] at p2549
          rw [c2558] at p2549
          rw [c2533] at p2550
          rw [c2558] at p2550
          obtain ⟨v2560, c2561⟩ : ∃ v, I2544 a0 8 = v := ⟨_, rfl⟩
          have b2562 := iv15_8 hS2553.1 ta0 c2561
          rw [c2561] at p2551
          rw [c2527] at p2551
          rw [c2555] at p2551
          rw [c2536] at p2551
          have ov2563 := w2552.over (by rw [c2533]; omega)
          obtain ⟨v2564, c2565⟩ : ∃ v, I2544 a0 9 = v := ⟨_, rfl⟩
          have b2566 := iv15_9 hS2553.1 ta0 c2565
          obtain ⟨v2567, c2568⟩ : ∃ v, I2544 a0 13 = v := ⟨_, rfl⟩
          obtain ⟨v2569, c2570⟩ : ∃ v, I2544 a0 14 = v := ⟨_, rfl⟩
          (try rw [c2565] at ov2563)
          (try rw [c2568] at ov2563)
          (try rw [c2570] at ov2563)
          (try rw [c2533] at ov2563)
          (try rw [c2536] at ov2563)
          (try rw [c2538] at ov2563)
          refine tr_aload_n dX12_readCall_86 rfl ?_
          refine tr_ldcwS dX12_readCall_87 ld12_352 ?_
          refine q_iconst dX12_readCall_90 (by decide) ?_
          intro v2571 h2572
          refine tr_aload_n dX12_readCall_91 rfl ?_
          refine tr_getR dX12_readCall_92 fl12_188 (kR15 hS2553.1 ta0) d2 ?_
          refine q_getI dX12_readCall_95 fl12_192 (kR14 hS2553.1 ta1) ((hS2553.cell ta1 (by decide +kernel)).trans c30) ?_
          refine q_iconst dX12_readCall_98 (by decide) ?_
          intro v2573 h2574
          refine q_isubE dX12_readCall_99 (by intros; omega) ?_
          intro v2575 h2576
          refine q_callVi hE (M' := mX12_readPart) (as := [_, _, _]) dX12_readCall_100 lk12_249 inX12_readPart seX12_readPart myX12_readPart (by decide) ⟨by decide, by decide⟩ rfl (kR15 hS2553.1 ta0) (Nat.le_of_ble_eq_true rfl) rfl rfl (by decide) (by decide) (k_X12_readPart hS2553.1 ta0 (by decide)) ?_
          rintro v2581 cn' K' N' I2577 R2578 L2579 ⟨rfl, rfl, rfl, rfl, g2580, p2582, w2583, -⟩
          have hS2584 := hS2553.tr g2580 (by decide +kernel) (by decide +kernel)
          have c2585 : I2577 a1 5 = v49 := (g2580.cell ta1 (by decide +kernel)).trans c2554
          have b2586 : 0 ≤ v2581.toInt ∧ v2581.toInt ≤ 0 := by omega
          clear p2582
          have ov2587 := w2583.over (by rw [c2565]; omega)
          obtain ⟨v2588, c2589⟩ : ∃ v, I2577 a0 9 = v := ⟨_, rfl⟩
          have b2590 := iv15_9 hS2584.1 ta0 c2589
          obtain ⟨v2591, c2592⟩ : ∃ v, I2577 a0 13 = v := ⟨_, rfl⟩
          obtain ⟨v2593, c2594⟩ : ∃ v, I2577 a0 14 = v := ⟨_, rfl⟩
          (try rw [c2589] at ov2587)
          (try rw [c2592] at ov2587)
          (try rw [c2594] at ov2587)
          (try rw [c2565] at ov2587)
          (try rw [c2568] at ov2587)
          (try rw [c2570] at ov2587)
          refine tr_istore_n dX12_readCall_103 (by decide) (by decide) ?_
          refine tr_aload_n dX12_readCall_104 rfl ?_
          refine tr_ldcwS dX12_readCall_105 ld12_354 ?_
          refine q_iconst dX12_readCall_108 (by decide) ?_
          intro v2595 h2596
          refine q_bipush dX12_readCall_109 (by decide +kernel) ?_
          intro v2597 h2598
          refine q_callVi hE (M' := mX12_readPart) (as := [_, _, _]) dX12_readCall_111 lk12_249 inX12_readPart seX12_readPart myX12_readPart (by decide) ⟨by decide, by decide⟩ rfl (kR15 hS2584.1 ta0) (Nat.le_of_ble_eq_true rfl) rfl rfl (by decide) (by decide) (k_X12_readPart hS2584.1 ta0 (by decide)) ?_
          rintro v2603 cn' K' N' I2599 R2600 L2601 ⟨rfl, rfl, rfl, rfl, g2602, p2604, w2605, -⟩
          have hS2606 := hS2584.tr g2602 (by decide +kernel) (by decide +kernel)
          have c2607 : I2599 a1 5 = v49 := (g2602.cell ta1 (by decide +kernel)).trans c2585
          have b2608 : 1 ≤ v2603.toInt ∧ v2603.toInt ≤ 60 := by omega
          clear p2604
          have ov2609 := w2605.over (by rw [c2589]; omega)
          obtain ⟨v2610, c2611⟩ : ∃ v, I2599 a0 9 = v := ⟨_, rfl⟩
          have b2612 := iv15_9 hS2606.1 ta0 c2611
          obtain ⟨v2613, c2614⟩ : ∃ v, I2599 a0 13 = v := ⟨_, rfl⟩
          obtain ⟨v2615, c2616⟩ : ∃ v, I2599 a0 14 = v := ⟨_, rfl⟩
          (try rw [c2611] at ov2609)
          (try rw [c2614] at ov2609)
          (try rw [c2616] at ov2609)
          (try rw [c2589] at ov2609)
          (try rw [c2592] at ov2609)
          (try rw [c2594] at ov2609)
          refine tr_istore dX12_readCall_114 (by decide) (by decide) ?_
          refine tr_aload_n dX12_readCall_116 rfl ?_
          refine tr_ldcwS dX12_readCall_117 ld12_356 ?_
          refine q_iconst dX12_readCall_120 (by decide) ?_
          intro v2617 h2618
          refine q_bipush dX12_readCall_121 (by decide +kernel) ?_
          intro v2619 h2620
          refine q_callVi hE (M' := mX12_readPart) (as := [_, _, _]) dX12_readCall_123 lk12_249 inX12_readPart seX12_readPart myX12_readPart (by decide) ⟨by decide, by decide⟩ rfl (kR15 hS2606.1 ta0) (Nat.le_of_ble_eq_true rfl) rfl rfl (by decide) (by decide) (k_X12_readPart hS2606.1 ta0 (by decide)) ?_
          rintro v2625 cn' K' N' I2621 R2622 L2623 ⟨rfl, rfl, rfl, rfl, g2624, p2626, w2627, -⟩
          have hS2628 := hS2606.tr g2624 (by decide +kernel) (by decide +kernel)
          have c2629 : I2621 a1 5 = v49 := (g2624.cell ta1 (by decide +kernel)).trans c2607
          have b2630 : 0 ≤ v2625.toInt ∧ v2625.toInt ≤ 99 := by omega
          clear p2626
          have ov2631 := w2627.over (by rw [c2611]; omega)
          obtain ⟨v2632, c2633⟩ : ∃ v, I2621 a0 9 = v := ⟨_, rfl⟩
          have b2634 := iv15_9 hS2628.1 ta0 c2633
          obtain ⟨v2635, c2636⟩ : ∃ v, I2621 a0 13 = v := ⟨_, rfl⟩
          obtain ⟨v2637, c2638⟩ : ∃ v, I2621 a0 14 = v := ⟨_, rfl⟩
          (try rw [c2633] at ov2631)
          (try rw [c2636] at ov2631)
          (try rw [c2638] at ov2631)
          (try rw [c2611] at ov2631)
          (try rw [c2614] at ov2631)
          (try rw [c2616] at ov2631)
          refine tr_istore dX12_readCall_126 (by decide) (by decide) ?_
          refine tr_aload_n dX12_readCall_128 rfl ?_
          refine q_getI dX12_readCall_129 fl12_99 (kR15 hS2628.1 ta0) c2633 ?_
          refine q_iconst dX12_readCall_132 (by decide) ?_
          intro v2639 h2640
          refine q_icmp_ne 137 dX12_readCall_133 (by decide) (fun h2641 => ?_) (fun h2641 => ?_)
          · skip
            exfalso; omega
          · skip
            have eF := hF.eq
            have eP := hP.eq
            obtain ⟨v2642, c2643⟩ : ∃ v, I2621 a0 10 = v := ⟨_, rfl⟩
            have b2644 := iv15_10 hS2628.1 ta0 c2643
            obtain ⟨v2645, c2646⟩ : ∃ v, I2621 a0 11 = v := ⟨_, rfl⟩
            obtain ⟨y2647, c2648⟩ : ∃ v, L2623 a0 15 = v := ⟨_, rfl⟩
            obtain ⟨v2649, c2650⟩ : ∃ v, I2621 a0 12 = v := ⟨_, rfl⟩
            obtain ⟨v2651, c2652⟩ : ∃ v, I2621 a0 8 = v := ⟨_, rfl⟩
            have b2653 := iv15_8 hS2628.1 ta0 c2652
            exact tr_vret hZ dX12_readCall_136 rfl (by decide) (by decide) ⟨rfl, rfl, rfl, rfl, rfl, hS2628, (Or.inr (⟨(by first | done | omega), (by (try rw [c2633]); first | done | omega), (by (try rw [c2636]); first | done | omega), (by (try rw [c2638]); first | done | omega), trivial⟩)), trivial⟩
      · skip
        refine tr_aload_n dX12_readCall_42 rfl ?_
        refine tr_getR dX12_readCall_43 fl12_188 (kR15 hS76.1 ta0) d2 ?_
        obtain ⟨a2654, d2655, ta2654⟩ := rf14_31 hW0 ta1
        refine tr_getR dX12_readCall_46 fl12_212 (kR14 hS76.1 ta1) d2655 ?_
        refine tr_iload_n dX12_readCall_49 rfl ?_
        refine q_iald dX12_readCall_50 (kR74 hS76.1 ta2654) (ti_in (nR74 hS76.1 ta2654) (by omega) (by omega)) ?_
        intro v2656 c2657
        refine q_iconst dX12_readCall_51 (by decide) ?_
        intro v2658 h2659
        refine q_icmp_eq 60 dX12_readCall_52 (by decide) (fun h2660 => ?_) (fun h2660 => ?_)
        · skip
          refine tr_aload_n dX12_readCall_60 rfl ?_
          refine q_getI dX12_readCall_61 fl12_99 (kR15 hS76.1 ta0) c2486 ?_
          refine q_iconst dX12_readCall_64 (by decide) ?_
          intro v2661 h2662
          refine q_icmp_ne 72 dX12_readCall_65 (by decide) (fun h2663 => ?_) (fun h2663 => ?_)
          · skip
            exfalso; omega
          · skip
            refine q_iconst dX12_readCall_68 (by decide) ?_
            intro v2664 h2665
            refine tr_goto 81 dX12_readCall_69 (by decide) ?_
            refine tr_istore_n dX12_readCall_81 (by decide) (by decide) ?_
            refine tr_aload_n dX12_readCall_82 rfl ?_
            obtain ⟨v2666, c2667⟩ : ∃ v, I68 a0 8 = v := ⟨_, rfl⟩
            have b2668 := iv15_8 hS76.1 ta0 c2667
            refine q_callVv hE (M' := mX12_goesOn) (as := []) dX12_readCall_83 lk12_142 inX12_goesOn seX12_goesOn myX12_goesOn (by decide) ⟨by decide, by decide⟩ rfl (kR15 hS76.1 ta0) (Nat.le_of_ble_eq_true rfl) rfl rfl (by decide) (by decide) (k_X12_goesOn hS76.1 ta0) ?_
            rintro cn' K' N' I2669 R2670 L2671 ⟨rfl, rfl, rfl, rfl, g2672, p2674, p2675, p2676, w2677, -⟩
            have hS2678 := hS76.tr g2672 (by decide +kernel) (by decide +kernel)
            have c2679 : I2669 a1 5 = v49 := (g2672.cell ta1 (by decide +kernel)).trans c77
            have c2680 : I2669 a0 13 = v2488 := (g2672.cell ta0 (by decide +kernel)).trans c2489
            have c2681 : I2669 a0 14 = v2490 := (g2672.cell ta0 (by decide +kernel)).trans c2491
            obtain ⟨v2682, c2683⟩ : ∃ v, I2669 a0 9 = v := ⟨_, rfl⟩
            have b2684 := iv15_9 hS2678.1 ta0 c2683
            rw [c2486] at p2674
            rw [c2683] at p2674
            rw [c2486] at p2675
            rw [c2683] at p2675
            obtain ⟨v2685, c2686⟩ : ∃ v, I2669 a0 8 = v := ⟨_, rfl⟩
            have b2687 := iv15_8 hS2678.1 ta0 c2686
            rw [c2686] at p2676
            rw [c2667] at p2676
            rw [c2680] at p2676
            rw [c2489] at p2676
            have ov2688 := w2677.over (by rw [c2486]; omega)
            obtain ⟨v2689, c2690⟩ : ∃ v, I2669 a0 9 = v := ⟨_, rfl⟩
            have b2691 := iv15_9 hS2678.1 ta0 c2690
            obtain ⟨v2692, c2693⟩ : ∃ v, I2669 a0 13 = v := ⟨_, rfl⟩
            obtain ⟨v2694, c2695⟩ : ∃ v, I2669 a0 14 = v := ⟨_, rfl⟩
            (try rw [c2690] at ov2688)
            (try rw [c2693] at ov2688)
            (try rw [c2695] at ov2688)
            (try rw [c2486] at ov2688)
            (try rw [c2489] at ov2688)
            (try rw [c2491] at ov2688)
            refine tr_aload_n dX12_readCall_86 rfl ?_
            refine tr_ldcwS dX12_readCall_87 ld12_352 ?_
            refine q_iconst dX12_readCall_90 (by decide) ?_
            intro v2696 h2697
            refine tr_aload_n dX12_readCall_91 rfl ?_
            refine tr_getR dX12_readCall_92 fl12_188 (kR15 hS2678.1 ta0) d2 ?_
            refine q_getI dX12_readCall_95 fl12_192 (kR14 hS2678.1 ta1) ((hS2678.cell ta1 (by decide +kernel)).trans c30) ?_
            refine q_iconst dX12_readCall_98 (by decide) ?_
            intro v2698 h2699
            refine q_isubE dX12_readCall_99 (by intros; omega) ?_
            intro v2700 h2701
            refine q_callVi hE (M' := mX12_readPart) (as := [_, _, _]) dX12_readCall_100 lk12_249 inX12_readPart seX12_readPart myX12_readPart (by decide) ⟨by decide, by decide⟩ rfl (kR15 hS2678.1 ta0) (Nat.le_of_ble_eq_true rfl) rfl rfl (by decide) (by decide) (k_X12_readPart hS2678.1 ta0 (by decide)) ?_
            rintro v2706 cn' K' N' I2702 R2703 L2704 ⟨rfl, rfl, rfl, rfl, g2705, p2707, w2708, -⟩
            have hS2709 := hS2678.tr g2705 (by decide +kernel) (by decide +kernel)
            have c2710 : I2702 a1 5 = v49 := (g2705.cell ta1 (by decide +kernel)).trans c2679
            have b2711 : 0 ≤ v2706.toInt ∧ v2706.toInt ≤ 0 := by omega
            clear p2707
            have ov2712 := w2708.over (by rw [c2690]; omega)
            obtain ⟨v2713, c2714⟩ : ∃ v, I2702 a0 9 = v := ⟨_, rfl⟩
            have b2715 := iv15_9 hS2709.1 ta0 c2714
            obtain ⟨v2716, c2717⟩ : ∃ v, I2702 a0 13 = v := ⟨_, rfl⟩
            obtain ⟨v2718, c2719⟩ : ∃ v, I2702 a0 14 = v := ⟨_, rfl⟩
            (try rw [c2714] at ov2712)
            (try rw [c2717] at ov2712)
            (try rw [c2719] at ov2712)
            (try rw [c2690] at ov2712)
            (try rw [c2693] at ov2712)
            (try rw [c2695] at ov2712)
            refine tr_istore_n dX12_readCall_103 (by decide) (by decide) ?_
            refine tr_aload_n dX12_readCall_104 rfl ?_
            refine tr_ldcwS dX12_readCall_105 ld12_354 ?_
            refine q_iconst dX12_readCall_108 (by decide) ?_
            intro v2720 h2721
            refine q_bipush dX12_readCall_109 (by decide +kernel) ?_
            intro v2722 h2723
            refine q_callVi hE (M' := mX12_readPart) (as := [_, _, _]) dX12_readCall_111 lk12_249 inX12_readPart seX12_readPart myX12_readPart (by decide) ⟨by decide, by decide⟩ rfl (kR15 hS2709.1 ta0) (Nat.le_of_ble_eq_true rfl) rfl rfl (by decide) (by decide) (k_X12_readPart hS2709.1 ta0 (by decide)) ?_
            rintro v2728 cn' K' N' I2724 R2725 L2726 ⟨rfl, rfl, rfl, rfl, g2727, p2729, w2730, -⟩
            have hS2731 := hS2709.tr g2727 (by decide +kernel) (by decide +kernel)
            have c2732 : I2724 a1 5 = v49 := (g2727.cell ta1 (by decide +kernel)).trans c2710
            have b2733 : 1 ≤ v2728.toInt ∧ v2728.toInt ≤ 60 := by omega
            clear p2729
            have ov2734 := w2730.over (by rw [c2714]; omega)
            obtain ⟨v2735, c2736⟩ : ∃ v, I2724 a0 9 = v := ⟨_, rfl⟩
            have b2737 := iv15_9 hS2731.1 ta0 c2736
            obtain ⟨v2738, c2739⟩ : ∃ v, I2724 a0 13 = v := ⟨_, rfl⟩
            obtain ⟨v2740, c2741⟩ : ∃ v, I2724 a0 14 = v := ⟨_, rfl⟩
            (try rw [c2736] at ov2734)
            (try rw [c2739] at ov2734)
            (try rw [c2741] at ov2734)
            (try rw [c2714] at ov2734)
            (try rw [c2717] at ov2734)
            (try rw [c2719] at ov2734)
            refine tr_istore dX12_readCall_114 (by decide) (by decide) ?_
            refine tr_aload_n dX12_readCall_116 rfl ?_
            refine tr_ldcwS dX12_readCall_117 ld12_356 ?_
            refine q_iconst dX12_readCall_120 (by decide) ?_
            intro v2742 h2743
            refine q_bipush dX12_readCall_121 (by decide +kernel) ?_
            intro v2744 h2745
            refine q_callVi hE (M' := mX12_readPart) (as := [_, _, _]) dX12_readCall_123 lk12_249 inX12_readPart seX12_readPart myX12_readPart (by decide) ⟨by decide, by decide⟩ rfl (kR15 hS2731.1 ta0) (Nat.le_of_ble_eq_true rfl) rfl rfl (by decide) (by decide) (k_X12_readPart hS2731.1 ta0 (by decide)) ?_
            rintro v2750 cn' K' N' I2746 R2747 L2748 ⟨rfl, rfl, rfl, rfl, g2749, p2751, w2752, -⟩
            have hS2753 := hS2731.tr g2749 (by decide +kernel) (by decide +kernel)
            have c2754 : I2746 a1 5 = v49 := (g2749.cell ta1 (by decide +kernel)).trans c2732
            have b2755 : 0 ≤ v2750.toInt ∧ v2750.toInt ≤ 99 := by omega
            clear p2751
            have ov2756 := w2752.over (by rw [c2736]; omega)
            obtain ⟨v2757, c2758⟩ : ∃ v, I2746 a0 9 = v := ⟨_, rfl⟩
            have b2759 := iv15_9 hS2753.1 ta0 c2758
            obtain ⟨v2760, c2761⟩ : ∃ v, I2746 a0 13 = v := ⟨_, rfl⟩
            obtain ⟨v2762, c2763⟩ : ∃ v, I2746 a0 14 = v := ⟨_, rfl⟩
            (try rw [c2758] at ov2756)
            (try rw [c2761] at ov2756)
            (try rw [c2763] at ov2756)
            (try rw [c2736] at ov2756)
            (try rw [c2739] at ov2756)
            (try rw [c2741] at ov2756)
            refine tr_istore dX12_readCall_126 (by decide) (by decide) ?_
            refine tr_aload_n dX12_readCall_128 rfl ?_
            refine q_getI dX12_readCall_129 fl12_99 (kR15 hS2753.1 ta0) c2758 ?_
            refine q_iconst dX12_readCall_132 (by decide) ?_
            intro v2764 h2765
            refine q_icmp_ne 137 dX12_readCall_133 (by decide) (fun h2766 => ?_) (fun h2766 => ?_)
            · skip
              exfalso; omega
            · skip
              have eF := hF.eq
              have eP := hP.eq
              obtain ⟨v2767, c2768⟩ : ∃ v, I2746 a0 10 = v := ⟨_, rfl⟩
              have b2769 := iv15_10 hS2753.1 ta0 c2768
              obtain ⟨v2770, c2771⟩ : ∃ v, I2746 a0 11 = v := ⟨_, rfl⟩
              obtain ⟨y2772, c2773⟩ : ∃ v, L2748 a0 15 = v := ⟨_, rfl⟩
              obtain ⟨v2774, c2775⟩ : ∃ v, I2746 a0 12 = v := ⟨_, rfl⟩
              obtain ⟨v2776, c2777⟩ : ∃ v, I2746 a0 8 = v := ⟨_, rfl⟩
              have b2778 := iv15_8 hS2753.1 ta0 c2777
              exact tr_vret hZ dX12_readCall_136 rfl (by decide) (by decide) ⟨rfl, rfl, rfl, rfl, rfl, hS2753, (Or.inr (⟨(by first | done | omega), (by (try rw [c2758]); first | done | omega), (by (try rw [c2761]); first | done | omega), (by (try rw [c2763]); first | done | omega), trivial⟩)), trivial⟩
        · skip
          refine tr_aload_n dX12_readCall_55 rfl ?_
          refine q_iconst dX12_readCall_56 (by decide) ?_
          intro v2779 h2780
          obtain ⟨v2781, c2782⟩ : ∃ v, I68 a0 8 = v := ⟨_, rfl⟩
          have b2783 := iv15_8 hS76.1 ta0 c2782
          refine q_callVv hE (M' := mX12_flaw) (as := [_]) dX12_readCall_57 lk12_145 inX12_flaw seX12_flaw myX12_flaw (by decide) ⟨by decide, by decide⟩ rfl (kR15 hS76.1 ta0) (Nat.le_of_ble_eq_true rfl) rfl rfl (by decide) (by decide) (k_X12_flaw hS76.1 ta0 (by omega)) ?_
          rintro cn' K' N' I2784 R2785 L2786 ⟨rfl, rfl, rfl, rfl, rfl, g2787, p2789, p2790, w2791, -⟩
          have hS2792 := hS76.tr g2787 (by decide +kernel) (by decide +kernel)
          have c2793 : I2784 a1 5 = v49 := (g2787.cell ta1 (by decide +kernel)).trans c77
          have c2794 : I2784 a0 8 = v2781 := (g2787.cell ta0 (by decide +kernel)).trans c2782
          obtain ⟨v2795, c2796⟩ : ∃ v, I2784 a0 9 = v := ⟨_, rfl⟩
          have b2797 := iv15_9 hS2792.1 ta0 c2796
          rw [c2796] at p2789
          rw [c2794] at p2790
          rw [c2782] at p2790
          have ov2798 := w2791.over (by rw [c2486]; omega)
          obtain ⟨v2799, c2800⟩ : ∃ v, I2784 a0 9 = v := ⟨_, rfl⟩
          have b2801 := iv15_9 hS2792.1 ta0 c2800
          obtain ⟨v2802, c2803⟩ : ∃ v, I2784 a0 13 = v := ⟨_, rfl⟩
          obtain ⟨v2804, c2805⟩ : ∃ v, I2784 a0 14 = v := ⟨_, rfl⟩
          (try rw [c2800] at ov2798)
          (try rw [c2803] at ov2798)
          (try rw [c2805] at ov2798)
          (try rw [c2486] at ov2798)
          (try rw [c2489] at ov2798)
          (try rw [c2491] at ov2798)
          refine tr_aload_n dX12_readCall_60 rfl ?_
          refine q_getI dX12_readCall_61 fl12_99 (kR15 hS2792.1 ta0) c2800 ?_
          refine q_iconst dX12_readCall_64 (by decide) ?_
          intro v2806 h2807
          refine q_icmp_ne 72 dX12_readCall_65 (by decide) (fun h2808 => ?_) (fun h2808 => ?_)
          · skip
            exfalso; omega
          · skip
            refine q_iconst dX12_readCall_68 (by decide) ?_
            intro v2809 h2810
            refine tr_goto 81 dX12_readCall_69 (by decide) ?_
            refine tr_istore_n dX12_readCall_81 (by decide) (by decide) ?_
            refine tr_aload_n dX12_readCall_82 rfl ?_
            refine q_callVv hE (M' := mX12_goesOn) (as := []) dX12_readCall_83 lk12_142 inX12_goesOn seX12_goesOn myX12_goesOn (by decide) ⟨by decide, by decide⟩ rfl (kR15 hS2792.1 ta0) (Nat.le_of_ble_eq_true rfl) rfl rfl (by decide) (by decide) (k_X12_goesOn hS2792.1 ta0) ?_
            rintro cn' K' N' I2811 R2812 L2813 ⟨rfl, rfl, rfl, rfl, g2814, p2816, p2817, p2818, w2819, -⟩
            have hS2820 := hS2792.tr g2814 (by decide +kernel) (by decide +kernel)
            have c2821 : I2811 a1 5 = v49 := (g2814.cell ta1 (by decide +kernel)).trans c2793
            have c2822 : I2811 a0 13 = v2802 := (g2814.cell ta0 (by decide +kernel)).trans c2803
            have c2823 : I2811 a0 14 = v2804 := (g2814.cell ta0 (by decide +kernel)).trans c2805
            obtain ⟨v2824, c2825⟩ : ∃ v, I2811 a0 9 = v := ⟨_, rfl⟩
            have b2826 := iv15_9 hS2820.1 ta0 c2825
            rw [c2800] at p2816
            rw [c2825] at p2816
            rw [c2800] at p2817
            rw [c2825] at p2817
            obtain ⟨v2827, c2828⟩ : ∃ v, I2811 a0 8 = v := ⟨_, rfl⟩
            have b2829 := iv15_8 hS2820.1 ta0 c2828
            rw [c2828] at p2818
            rw [c2794] at p2818
            rw [c2822] at p2818
            rw [c2803] at p2818
            have ov2830 := w2819.over (by rw [c2800]; omega)
            obtain ⟨v2831, c2832⟩ : ∃ v, I2811 a0 9 = v := ⟨_, rfl⟩
            have b2833 := iv15_9 hS2820.1 ta0 c2832
            obtain ⟨v2834, c2835⟩ : ∃ v, I2811 a0 13 = v := ⟨_, rfl⟩
            obtain ⟨v2836, c2837⟩ : ∃ v, I2811 a0 14 = v := ⟨_, rfl⟩
            (try rw [c2832] at ov2830)
            (try rw [c2835] at ov2830)
            (try rw [c2837] at ov2830)
            (try rw [c2800] at ov2830)
            (try rw [c2803] at ov2830)
            (try rw [c2805] at ov2830)
            refine tr_aload_n dX12_readCall_86 rfl ?_
            refine tr_ldcwS dX12_readCall_87 ld12_352 ?_
            refine q_iconst dX12_readCall_90 (by decide) ?_
            intro v2838 h2839
            refine tr_aload_n dX12_readCall_91 rfl ?_
            refine tr_getR dX12_readCall_92 fl12_188 (kR15 hS2820.1 ta0) d2 ?_
            refine q_getI dX12_readCall_95 fl12_192 (kR14 hS2820.1 ta1) ((hS2820.cell ta1 (by decide +kernel)).trans c30) ?_
            refine q_iconst dX12_readCall_98 (by decide) ?_
            intro v2840 h2841
            refine q_isubE dX12_readCall_99 (by intros; omega) ?_
            intro v2842 h2843
            refine q_callVi hE (M' := mX12_readPart) (as := [_, _, _]) dX12_readCall_100 lk12_249 inX12_readPart seX12_readPart myX12_readPart (by decide) ⟨by decide, by decide⟩ rfl (kR15 hS2820.1 ta0) (Nat.le_of_ble_eq_true rfl) rfl rfl (by decide) (by decide) (k_X12_readPart hS2820.1 ta0 (by decide)) ?_
            rintro v2848 cn' K' N' I2844 R2845 L2846 ⟨rfl, rfl, rfl, rfl, g2847, p2849, w2850, -⟩
            have hS2851 := hS2820.tr g2847 (by decide +kernel) (by decide +kernel)
            have c2852 : I2844 a1 5 = v49 := (g2847.cell ta1 (by decide +kernel)).trans c2821
            have b2853 : 0 ≤ v2848.toInt ∧ v2848.toInt ≤ 0 := by omega
            clear p2849
            have ov2854 := w2850.over (by rw [c2832]; omega)
            obtain ⟨v2855, c2856⟩ : ∃ v, I2844 a0 9 = v := ⟨_, rfl⟩
            have b2857 := iv15_9 hS2851.1 ta0 c2856
            obtain ⟨v2858, c2859⟩ : ∃ v, I2844 a0 13 = v := ⟨_, rfl⟩
            obtain ⟨v2860, c2861⟩ : ∃ v, I2844 a0 14 = v := ⟨_, rfl⟩
            (try rw [c2856] at ov2854)
            (try rw [c2859] at ov2854)
            (try rw [c2861] at ov2854)
            (try rw [c2832] at ov2854)
            (try rw [c2835] at ov2854)
            (try rw [c2837] at ov2854)
            refine tr_istore_n dX12_readCall_103 (by decide) (by decide) ?_
            refine tr_aload_n dX12_readCall_104 rfl ?_
            refine tr_ldcwS dX12_readCall_105 ld12_354 ?_
            refine q_iconst dX12_readCall_108 (by decide) ?_
            intro v2862 h2863
            refine q_bipush dX12_readCall_109 (by decide +kernel) ?_
            intro v2864 h2865
            refine q_callVi hE (M' := mX12_readPart) (as := [_, _, _]) dX12_readCall_111 lk12_249 inX12_readPart seX12_readPart myX12_readPart (by decide) ⟨by decide, by decide⟩ rfl (kR15 hS2851.1 ta0) (Nat.le_of_ble_eq_true rfl) rfl rfl (by decide) (by decide) (k_X12_readPart hS2851.1 ta0 (by decide)) ?_
            rintro v2870 cn' K' N' I2866 R2867 L2868 ⟨rfl, rfl, rfl, rfl, g2869, p2871, w2872, -⟩
            have hS2873 := hS2851.tr g2869 (by decide +kernel) (by decide +kernel)
            have c2874 : I2866 a1 5 = v49 := (g2869.cell ta1 (by decide +kernel)).trans c2852
            have b2875 : 1 ≤ v2870.toInt ∧ v2870.toInt ≤ 60 := by omega
            clear p2871
            have ov2876 := w2872.over (by rw [c2856]; omega)
            obtain ⟨v2877, c2878⟩ : ∃ v, I2866 a0 9 = v := ⟨_, rfl⟩
            have b2879 := iv15_9 hS2873.1 ta0 c2878
            obtain ⟨v2880, c2881⟩ : ∃ v, I2866 a0 13 = v := ⟨_, rfl⟩
            obtain ⟨v2882, c2883⟩ : ∃ v, I2866 a0 14 = v := ⟨_, rfl⟩
            (try rw [c2878] at ov2876)
            (try rw [c2881] at ov2876)
            (try rw [c2883] at ov2876)
            (try rw [c2856] at ov2876)
            (try rw [c2859] at ov2876)
            (try rw [c2861] at ov2876)
            refine tr_istore dX12_readCall_114 (by decide) (by decide) ?_
            refine tr_aload_n dX12_readCall_116 rfl ?_
            refine tr_ldcwS dX12_readCall_117 ld12_356 ?_
            refine q_iconst dX12_readCall_120 (by decide) ?_
            intro v2884 h2885
            refine q_bipush dX12_readCall_121 (by decide +kernel) ?_
            intro v2886 h2887
            refine q_callVi hE (M' := mX12_readPart) (as := [_, _, _]) dX12_readCall_123 lk12_249 inX12_readPart seX12_readPart myX12_readPart (by decide) ⟨by decide, by decide⟩ rfl (kR15 hS2873.1 ta0) (Nat.le_of_ble_eq_true rfl) rfl rfl (by decide) (by decide) (k_X12_readPart hS2873.1 ta0 (by decide)) ?_
            rintro v2892 cn' K' N' I2888 R2889 L2890 ⟨rfl, rfl, rfl, rfl, g2891, p2893, w2894, -⟩
            have hS2895 := hS2873.tr g2891 (by decide +kernel) (by decide +kernel)
            have c2896 : I2888 a1 5 = v49 := (g2891.cell ta1 (by decide +kernel)).trans c2874
            have b2897 : 0 ≤ v2892.toInt ∧ v2892.toInt ≤ 99 := by omega
            clear p2893
            have ov2898 := w2894.over (by rw [c2878]; omega)
            obtain ⟨v2899, c2900⟩ : ∃ v, I2888 a0 9 = v := ⟨_, rfl⟩
            have b2901 := iv15_9 hS2895.1 ta0 c2900
            obtain ⟨v2902, c2903⟩ : ∃ v, I2888 a0 13 = v := ⟨_, rfl⟩
            obtain ⟨v2904, c2905⟩ : ∃ v, I2888 a0 14 = v := ⟨_, rfl⟩
            (try rw [c2900] at ov2898)
            (try rw [c2903] at ov2898)
            (try rw [c2905] at ov2898)
            (try rw [c2878] at ov2898)
            (try rw [c2881] at ov2898)
            (try rw [c2883] at ov2898)
            refine tr_istore dX12_readCall_126 (by decide) (by decide) ?_
            refine tr_aload_n dX12_readCall_128 rfl ?_
            refine q_getI dX12_readCall_129 fl12_99 (kR15 hS2895.1 ta0) c2900 ?_
            refine q_iconst dX12_readCall_132 (by decide) ?_
            intro v2906 h2907
            refine q_icmp_ne 137 dX12_readCall_133 (by decide) (fun h2908 => ?_) (fun h2908 => ?_)
            · skip
              exfalso; omega
            · skip
              have eF := hF.eq
              have eP := hP.eq
              obtain ⟨v2909, c2910⟩ : ∃ v, I2888 a0 10 = v := ⟨_, rfl⟩
              have b2911 := iv15_10 hS2895.1 ta0 c2910
              obtain ⟨v2912, c2913⟩ : ∃ v, I2888 a0 11 = v := ⟨_, rfl⟩
              obtain ⟨y2914, c2915⟩ : ∃ v, L2890 a0 15 = v := ⟨_, rfl⟩
              obtain ⟨v2916, c2917⟩ : ∃ v, I2888 a0 12 = v := ⟨_, rfl⟩
              obtain ⟨v2918, c2919⟩ : ∃ v, I2888 a0 8 = v := ⟨_, rfl⟩
              have b2920 := iv15_8 hS2895.1 ta0 c2919
              exact tr_vret hZ dX12_readCall_136 rfl (by decide) (by decide) ⟨rfl, rfl, rfl, rfl, rfl, hS2895, (Or.inr (⟨(by first | done | omega), (by (try rw [c2900]); first | done | omega), (by (try rw [c2903]); first | done | omega), (by (try rw [c2905]); first | done | omega), trivial⟩)), trivial⟩
    · skip
      refine tr_aload_n dX12_readCall_20 rfl ?_
      refine q_iconst dX12_readCall_21 (by decide) ?_
      intro v2921 h2922
      obtain ⟨v2923, c2924⟩ : ∃ v, I68 a0 8 = v := ⟨_, rfl⟩
      have b2925 := iv15_8 hS76.1 ta0 c2924
      refine q_callVv hE (M' := mX12_flaw) (as := [_]) dX12_readCall_22 lk12_145 inX12_flaw seX12_flaw myX12_flaw (by decide) ⟨by decide, by decide⟩ rfl (kR15 hS76.1 ta0) (Nat.le_of_ble_eq_true rfl) rfl rfl (by decide) (by decide) (k_X12_flaw hS76.1 ta0 (by omega)) ?_
      rintro cn' K' N' I2926 R2927 L2928 ⟨rfl, rfl, rfl, rfl, rfl, g2929, p2931, p2932, w2933, -⟩
      have hS2934 := hS76.tr g2929 (by decide +kernel) (by decide +kernel)
      have c2935 : I2926 a1 5 = v49 := (g2929.cell ta1 (by decide +kernel)).trans c77
      have c2936 : I2926 a0 8 = v2923 := (g2929.cell ta0 (by decide +kernel)).trans c2924
      obtain ⟨v2937, c2938⟩ : ∃ v, I2926 a0 9 = v := ⟨_, rfl⟩
      have b2939 := iv15_9 hS2934.1 ta0 c2938
      rw [c2938] at p2931
      rw [c2936] at p2932
      rw [c2924] at p2932
      have ov2940 := w2933.over (by rw [c2486]; omega)
      obtain ⟨v2941, c2942⟩ : ∃ v, I2926 a0 9 = v := ⟨_, rfl⟩
      have b2943 := iv15_9 hS2934.1 ta0 c2942
      obtain ⟨v2944, c2945⟩ : ∃ v, I2926 a0 13 = v := ⟨_, rfl⟩
      obtain ⟨v2946, c2947⟩ : ∃ v, I2926 a0 14 = v := ⟨_, rfl⟩
      (try rw [c2942] at ov2940)
      (try rw [c2945] at ov2940)
      (try rw [c2947] at ov2940)
      (try rw [c2486] at ov2940)
      (try rw [c2489] at ov2940)
      (try rw [c2491] at ov2940)
      refine tr_aload_n dX12_readCall_25 rfl ?_
      refine tr_getR dX12_readCall_26 fl12_188 (kR15 hS2934.1 ta0) d2 ?_
      refine tr_aload_n dX12_readCall_29 rfl ?_
      have p2948 := p17 (by omega)
      obtain ⟨y2949, c2950⟩ : ∃ v, L70 a0 15 = v := ⟨_, rfl⟩
      refine q_getLE dX12_readCall_30 fl12_118 (kR15 hS2934.1 ta0) c2950 ?_
      refine q_callVi hE (M' := mX11_find) (as := [_]) dX12_readCall_33 lk12_201 inX11_find seX11_find myX11_find (by decide) ⟨by decide, by decide⟩ rfl (kR14 hS2934.1 ta1) (Nat.le_of_ble_eq_true rfl) rfl rfl (by decide) (by decide) (k_X11_find hS2934.1 ta1) ?_
      rintro v2955 cn' K' N' I2951 R2952 L2953 ⟨rfl, rfl, rfl, rfl, rfl, rfl, h2956, -⟩
      refine tr_istore_n dX12_readCall_36 (by decide) (by decide) ?_
      refine tr_iload_n dX12_readCall_37 rfl ?_
      refine q_iconst dX12_readCall_38 (by decide) ?_
      intro v2957 h2958
      refine q_icmp_eq 55 dX12_readCall_39 (by decide) (fun h2959 => ?_) (fun h2959 => ?_)
      · skip
        refine tr_aload_n dX12_readCall_55 rfl ?_
        refine q_iconst dX12_readCall_56 (by decide) ?_
        intro v2960 h2961
        refine q_callVv hE (M' := mX12_flaw) (as := [_]) dX12_readCall_57 lk12_145 inX12_flaw seX12_flaw myX12_flaw (by decide) ⟨by decide, by decide⟩ rfl (kR15 hS2934.1 ta0) (Nat.le_of_ble_eq_true rfl) rfl rfl (by decide) (by decide) (k_X12_flaw hS2934.1 ta0 (by omega)) ?_
        rintro cn' K' N' I2962 R2963 L2964 ⟨rfl, rfl, rfl, rfl, rfl, g2965, p2967, p2968, w2969, -⟩
        have hS2970 := hS2934.tr g2965 (by decide +kernel) (by decide +kernel)
        have c2971 : I2962 a1 5 = v49 := (g2965.cell ta1 (by decide +kernel)).trans c2935
        have c2972 : I2962 a0 8 = v2923 := (g2965.cell ta0 (by decide +kernel)).trans c2936
        obtain ⟨v2973, c2974⟩ : ∃ v, I2962 a0 9 = v := ⟨_, rfl⟩
        have b2975 := iv15_9 hS2970.1 ta0 c2974
        rw [c2974] at p2967
        rw [c2972] at p2968
        rw [c2936] at p2968
        have ov2976 := w2969.over (by rw [c2942]; omega)
        obtain ⟨v2977, c2978⟩ : ∃ v, I2962 a0 9 = v := ⟨_, rfl⟩
        have b2979 := iv15_9 hS2970.1 ta0 c2978
        obtain ⟨v2980, c2981⟩ : ∃ v, I2962 a0 13 = v := ⟨_, rfl⟩
        obtain ⟨v2982, c2983⟩ : ∃ v, I2962 a0 14 = v := ⟨_, rfl⟩
        (try rw [c2978] at ov2976)
        (try rw [c2981] at ov2976)
        (try rw [c2983] at ov2976)
        (try rw [c2942] at ov2976)
        (try rw [c2945] at ov2976)
        (try rw [c2947] at ov2976)
        refine tr_aload_n dX12_readCall_60 rfl ?_
        refine q_getI dX12_readCall_61 fl12_99 (kR15 hS2970.1 ta0) c2978 ?_
        refine q_iconst dX12_readCall_64 (by decide) ?_
        intro v2984 h2985
        refine q_icmp_ne 72 dX12_readCall_65 (by decide) (fun h2986 => ?_) (fun h2986 => ?_)
        · skip
          exfalso; omega
        · skip
          refine q_iconst dX12_readCall_68 (by decide) ?_
          intro v2987 h2988
          refine tr_goto 81 dX12_readCall_69 (by decide) ?_
          refine tr_istore_n dX12_readCall_81 (by decide) (by decide) ?_
          refine tr_aload_n dX12_readCall_82 rfl ?_
          refine q_callVv hE (M' := mX12_goesOn) (as := []) dX12_readCall_83 lk12_142 inX12_goesOn seX12_goesOn myX12_goesOn (by decide) ⟨by decide, by decide⟩ rfl (kR15 hS2970.1 ta0) (Nat.le_of_ble_eq_true rfl) rfl rfl (by decide) (by decide) (k_X12_goesOn hS2970.1 ta0) ?_
          rintro cn' K' N' I2989 R2990 L2991 ⟨rfl, rfl, rfl, rfl, g2992, p2994, p2995, p2996, w2997, -⟩
          have hS2998 := hS2970.tr g2992 (by decide +kernel) (by decide +kernel)
          have c2999 : I2989 a1 5 = v49 := (g2992.cell ta1 (by decide +kernel)).trans c2971
          have c3000 : I2989 a0 13 = v2980 := (g2992.cell ta0 (by decide +kernel)).trans c2981
          have c3001 : I2989 a0 14 = v2982 := (g2992.cell ta0 (by decide +kernel)).trans c2983
          obtain ⟨v3002, c3003⟩ : ∃ v, I2989 a0 9 = v := ⟨_, rfl⟩
          have b3004 := iv15_9 hS2998.1 ta0 c3003
          rw [c2978] at p2994
          rw [c3003] at p2994
          rw [c2978] at p2995
          rw [c3003] at p2995
          obtain ⟨v3005, c3006⟩ : ∃ v, I2989 a0 8 = v := ⟨_, rfl⟩
          have b3007 := iv15_8 hS2998.1 ta0 c3006
          rw [c3006] at p2996
          rw [c2972] at p2996
          rw [c3000] at p2996
          rw [c2981] at p2996
          have ov3008 := w2997.over (by rw [c2978]; omega)
          obtain ⟨v3009, c3010⟩ : ∃ v, I2989 a0 9 = v := ⟨_, rfl⟩
          have b3011 := iv15_9 hS2998.1 ta0 c3010
          obtain ⟨v3012, c3013⟩ : ∃ v, I2989 a0 13 = v := ⟨_, rfl⟩
          obtain ⟨v3014, c3015⟩ : ∃ v, I2989 a0 14 = v := ⟨_, rfl⟩
          (try rw [c3010] at ov3008)
          (try rw [c3013] at ov3008)
          (try rw [c3015] at ov3008)
          (try rw [c2978] at ov3008)
          (try rw [c2981] at ov3008)
          (try rw [c2983] at ov3008)
          refine tr_aload_n dX12_readCall_86 rfl ?_
          refine tr_ldcwS dX12_readCall_87 ld12_352 ?_
          refine q_iconst dX12_readCall_90 (by decide) ?_
          intro v3016 h3017
          refine tr_aload_n dX12_readCall_91 rfl ?_
          refine tr_getR dX12_readCall_92 fl12_188 (kR15 hS2998.1 ta0) d2 ?_
          refine q_getI dX12_readCall_95 fl12_192 (kR14 hS2998.1 ta1) ((hS2998.cell ta1 (by decide +kernel)).trans c30) ?_
          refine q_iconst dX12_readCall_98 (by decide) ?_
          intro v3018 h3019
          refine q_isubE dX12_readCall_99 (by intros; omega) ?_
          intro v3020 h3021
          refine q_callVi hE (M' := mX12_readPart) (as := [_, _, _]) dX12_readCall_100 lk12_249 inX12_readPart seX12_readPart myX12_readPart (by decide) ⟨by decide, by decide⟩ rfl (kR15 hS2998.1 ta0) (Nat.le_of_ble_eq_true rfl) rfl rfl (by decide) (by decide) (k_X12_readPart hS2998.1 ta0 (by decide)) ?_
          rintro v3026 cn' K' N' I3022 R3023 L3024 ⟨rfl, rfl, rfl, rfl, g3025, p3027, w3028, -⟩
          have hS3029 := hS2998.tr g3025 (by decide +kernel) (by decide +kernel)
          have c3030 : I3022 a1 5 = v49 := (g3025.cell ta1 (by decide +kernel)).trans c2999
          have b3031 : 0 ≤ v3026.toInt ∧ v3026.toInt ≤ 0 := by omega
          clear p3027
          have ov3032 := w3028.over (by rw [c3010]; omega)
          obtain ⟨v3033, c3034⟩ : ∃ v, I3022 a0 9 = v := ⟨_, rfl⟩
          have b3035 := iv15_9 hS3029.1 ta0 c3034
          obtain ⟨v3036, c3037⟩ : ∃ v, I3022 a0 13 = v := ⟨_, rfl⟩
          obtain ⟨v3038, c3039⟩ : ∃ v, I3022 a0 14 = v := ⟨_, rfl⟩
          (try rw [c3034] at ov3032)
          (try rw [c3037] at ov3032)
          (try rw [c3039] at ov3032)
          (try rw [c3010] at ov3032)
          (try rw [c3013] at ov3032)
          (try rw [c3015] at ov3032)
          refine tr_istore_n dX12_readCall_103 (by decide) (by decide) ?_
          refine tr_aload_n dX12_readCall_104 rfl ?_
          refine tr_ldcwS dX12_readCall_105 ld12_354 ?_
          refine q_iconst dX12_readCall_108 (by decide) ?_
          intro v3040 h3041
          refine q_bipush dX12_readCall_109 (by decide +kernel) ?_
          intro v3042 h3043
          refine q_callVi hE (M' := mX12_readPart) (as := [_, _, _]) dX12_readCall_111 lk12_249 inX12_readPart seX12_readPart myX12_readPart (by decide) ⟨by decide, by decide⟩ rfl (kR15 hS3029.1 ta0) (Nat.le_of_ble_eq_true rfl) rfl rfl (by decide) (by decide) (k_X12_readPart hS3029.1 ta0 (by decide)) ?_
          rintro v3048 cn' K' N' I3044 R3045 L3046 ⟨rfl, rfl, rfl, rfl, g3047, p3049, w3050, -⟩
          have hS3051 := hS3029.tr g3047 (by decide +kernel) (by decide +kernel)
          have c3052 : I3044 a1 5 = v49 := (g3047.cell ta1 (by decide +kernel)).trans c3030
          have b3053 : 1 ≤ v3048.toInt ∧ v3048.toInt ≤ 60 := by omega
          clear p3049
          have ov3054 := w3050.over (by rw [c3034]; omega)
          obtain ⟨v3055, c3056⟩ : ∃ v, I3044 a0 9 = v := ⟨_, rfl⟩
          have b3057 := iv15_9 hS3051.1 ta0 c3056
          obtain ⟨v3058, c3059⟩ : ∃ v, I3044 a0 13 = v := ⟨_, rfl⟩
          obtain ⟨v3060, c3061⟩ : ∃ v, I3044 a0 14 = v := ⟨_, rfl⟩
          (try rw [c3056] at ov3054)
          (try rw [c3059] at ov3054)
          (try rw [c3061] at ov3054)
          (try rw [c3034] at ov3054)
          (try rw [c3037] at ov3054)
          (try rw [c3039] at ov3054)
          refine tr_istore dX12_readCall_114 (by decide) (by decide) ?_
          refine tr_aload_n dX12_readCall_116 rfl ?_
          refine tr_ldcwS dX12_readCall_117 ld12_356 ?_
          refine q_iconst dX12_readCall_120 (by decide) ?_
          intro v3062 h3063
          refine q_bipush dX12_readCall_121 (by decide +kernel) ?_
          intro v3064 h3065
          refine q_callVi hE (M' := mX12_readPart) (as := [_, _, _]) dX12_readCall_123 lk12_249 inX12_readPart seX12_readPart myX12_readPart (by decide) ⟨by decide, by decide⟩ rfl (kR15 hS3051.1 ta0) (Nat.le_of_ble_eq_true rfl) rfl rfl (by decide) (by decide) (k_X12_readPart hS3051.1 ta0 (by decide)) ?_
          rintro v3070 cn' K' N' I3066 R3067 L3068 ⟨rfl, rfl, rfl, rfl, g3069, p3071, w3072, -⟩
          have hS3073 := hS3051.tr g3069 (by decide +kernel) (by decide +kernel)
          have c3074 : I3066 a1 5 = v49 := (g3069.cell ta1 (by decide +kernel)).trans c3052
          have b3075 : 0 ≤ v3070.toInt ∧ v3070.toInt ≤ 99 := by omega
          clear p3071
          have ov3076 := w3072.over (by rw [c3056]; omega)
          obtain ⟨v3077, c3078⟩ : ∃ v, I3066 a0 9 = v := ⟨_, rfl⟩
          have b3079 := iv15_9 hS3073.1 ta0 c3078
          obtain ⟨v3080, c3081⟩ : ∃ v, I3066 a0 13 = v := ⟨_, rfl⟩
          obtain ⟨v3082, c3083⟩ : ∃ v, I3066 a0 14 = v := ⟨_, rfl⟩
          (try rw [c3078] at ov3076)
          (try rw [c3081] at ov3076)
          (try rw [c3083] at ov3076)
          (try rw [c3056] at ov3076)
          (try rw [c3059] at ov3076)
          (try rw [c3061] at ov3076)
          refine tr_istore dX12_readCall_126 (by decide) (by decide) ?_
          refine tr_aload_n dX12_readCall_128 rfl ?_
          refine q_getI dX12_readCall_129 fl12_99 (kR15 hS3073.1 ta0) c3078 ?_
          refine q_iconst dX12_readCall_132 (by decide) ?_
          intro v3084 h3085
          refine q_icmp_ne 137 dX12_readCall_133 (by decide) (fun h3086 => ?_) (fun h3086 => ?_)
          · skip
            exfalso; omega
          · skip
            have eF := hF.eq
            have eP := hP.eq
            obtain ⟨v3087, c3088⟩ : ∃ v, I3066 a0 10 = v := ⟨_, rfl⟩
            have b3089 := iv15_10 hS3073.1 ta0 c3088
            obtain ⟨v3090, c3091⟩ : ∃ v, I3066 a0 11 = v := ⟨_, rfl⟩
            obtain ⟨y3092, c3093⟩ : ∃ v, L3068 a0 15 = v := ⟨_, rfl⟩
            obtain ⟨v3094, c3095⟩ : ∃ v, I3066 a0 12 = v := ⟨_, rfl⟩
            obtain ⟨v3096, c3097⟩ : ∃ v, I3066 a0 8 = v := ⟨_, rfl⟩
            have b3098 := iv15_8 hS3073.1 ta0 c3097
            exact tr_vret hZ dX12_readCall_136 rfl (by decide) (by decide) ⟨rfl, rfl, rfl, rfl, rfl, hS3073, (Or.inr (⟨(by first | done | omega), (by (try rw [c3078]); first | done | omega), (by (try rw [c3081]); first | done | omega), (by (try rw [c3083]); first | done | omega), trivial⟩)), trivial⟩
      · skip
        refine tr_aload_n dX12_readCall_42 rfl ?_
        refine tr_getR dX12_readCall_43 fl12_188 (kR15 hS2934.1 ta0) d2 ?_
        obtain ⟨a3099, d3100, ta3099⟩ := rf14_31 hW0 ta1
        refine tr_getR dX12_readCall_46 fl12_212 (kR14 hS2934.1 ta1) d3100 ?_
        refine tr_iload_n dX12_readCall_49 rfl ?_
        refine q_iald dX12_readCall_50 (kR74 hS2934.1 ta3099) (ti_in (nR74 hS2934.1 ta3099) (by omega) (by omega)) ?_
        intro v3101 c3102
        refine q_iconst dX12_readCall_51 (by decide) ?_
        intro v3103 h3104
        refine q_icmp_eq 60 dX12_readCall_52 (by decide) (fun h3105 => ?_) (fun h3105 => ?_)
        · skip
          refine tr_aload_n dX12_readCall_60 rfl ?_
          refine q_getI dX12_readCall_61 fl12_99 (kR15 hS2934.1 ta0) c2942 ?_
          refine q_iconst dX12_readCall_64 (by decide) ?_
          intro v3106 h3107
          refine q_icmp_ne 72 dX12_readCall_65 (by decide) (fun h3108 => ?_) (fun h3108 => ?_)
          · skip
            exfalso; omega
          · skip
            refine q_iconst dX12_readCall_68 (by decide) ?_
            intro v3109 h3110
            refine tr_goto 81 dX12_readCall_69 (by decide) ?_
            refine tr_istore_n dX12_readCall_81 (by decide) (by decide) ?_
            refine tr_aload_n dX12_readCall_82 rfl ?_
            refine q_callVv hE (M' := mX12_goesOn) (as := []) dX12_readCall_83 lk12_142 inX12_goesOn seX12_goesOn myX12_goesOn (by decide) ⟨by decide, by decide⟩ rfl (kR15 hS2934.1 ta0) (Nat.le_of_ble_eq_true rfl) rfl rfl (by decide) (by decide) (k_X12_goesOn hS2934.1 ta0) ?_
            rintro cn' K' N' I3111 R3112 L3113 ⟨rfl, rfl, rfl, rfl, g3114, p3116, p3117, p3118, w3119, -⟩
            have hS3120 := hS2934.tr g3114 (by decide +kernel) (by decide +kernel)
            have c3121 : I3111 a1 5 = v49 := (g3114.cell ta1 (by decide +kernel)).trans c2935
            have c3122 : I3111 a0 13 = v2944 := (g3114.cell ta0 (by decide +kernel)).trans c2945
            have c3123 : I3111 a0 14 = v2946 := (g3114.cell ta0 (by decide +kernel)).trans c2947
            obtain ⟨v3124, c3125⟩ : ∃ v, I3111 a0 9 = v := ⟨_, rfl⟩
            have b3126 := iv15_9 hS3120.1 ta0 c3125
            rw [c2942] at p3116
            rw [c3125] at p3116
            rw [c2942] at p3117
            rw [c3125] at p3117
            obtain ⟨v3127, c3128⟩ : ∃ v, I3111 a0 8 = v := ⟨_, rfl⟩
            have b3129 := iv15_8 hS3120.1 ta0 c3128
            rw [c3128] at p3118
            rw [c2936] at p3118
            rw [c3122] at p3118
            rw [c2945] at p3118
            have ov3130 := w3119.over (by rw [c2942]; omega)
            obtain ⟨v3131, c3132⟩ : ∃ v, I3111 a0 9 = v := ⟨_, rfl⟩
            have b3133 := iv15_9 hS3120.1 ta0 c3132
            obtain ⟨v3134, c3135⟩ : ∃ v, I3111 a0 13 = v := ⟨_, rfl⟩
            obtain ⟨v3136, c3137⟩ : ∃ v, I3111 a0 14 = v := ⟨_, rfl⟩
            (try rw [c3132] at ov3130)
            (try rw [c3135] at ov3130)
            (try rw [c3137] at ov3130)
            (try rw [c2942] at ov3130)
            (try rw [c2945] at ov3130)
            (try rw [c2947] at ov3130)
            refine tr_aload_n dX12_readCall_86 rfl ?_
            refine tr_ldcwS dX12_readCall_87 ld12_352 ?_
            refine q_iconst dX12_readCall_90 (by decide) ?_
            intro v3138 h3139
            refine tr_aload_n dX12_readCall_91 rfl ?_
            refine tr_getR dX12_readCall_92 fl12_188 (kR15 hS3120.1 ta0) d2 ?_
            refine q_getI dX12_readCall_95 fl12_192 (kR14 hS3120.1 ta1) ((hS3120.cell ta1 (by decide +kernel)).trans c30) ?_
            refine q_iconst dX12_readCall_98 (by decide) ?_
            intro v3140 h3141
            refine q_isubE dX12_readCall_99 (by intros; omega) ?_
            intro v3142 h3143
            refine q_callVi hE (M' := mX12_readPart) (as := [_, _, _]) dX12_readCall_100 lk12_249 inX12_readPart seX12_readPart myX12_readPart (by decide) ⟨by decide, by decide⟩ rfl (kR15 hS3120.1 ta0) (Nat.le_of_ble_eq_true rfl) rfl rfl (by decide) (by decide) (k_X12_readPart hS3120.1 ta0 (by decide)) ?_
            rintro v3148 cn' K' N' I3144 R3145 L3146 ⟨rfl, rfl, rfl, rfl, g3147, p3149, w3150, -⟩
            have hS3151 := hS3120.tr g3147 (by decide +kernel) (by decide +kernel)
            have c3152 : I3144 a1 5 = v49 := (g3147.cell ta1 (by decide +kernel)).trans c3121
            have b3153 : 0 ≤ v3148.toInt ∧ v3148.toInt ≤ 0 := by omega
            clear p3149
            have ov3154 := w3150.over (by rw [c3132]; omega)
            obtain ⟨v3155, c3156⟩ : ∃ v, I3144 a0 9 = v := ⟨_, rfl⟩
            have b3157 := iv15_9 hS3151.1 ta0 c3156
            obtain ⟨v3158, c3159⟩ : ∃ v, I3144 a0 13 = v := ⟨_, rfl⟩
            obtain ⟨v3160, c3161⟩ : ∃ v, I3144 a0 14 = v := ⟨_, rfl⟩
            (try rw [c3156] at ov3154)
            (try rw [c3159] at ov3154)
            (try rw [c3161] at ov3154)
            (try rw [c3132] at ov3154)
            (try rw [c3135] at ov3154)
            (try rw [c3137] at ov3154)
            refine tr_istore_n dX12_readCall_103 (by decide) (by decide) ?_
            refine tr_aload_n dX12_readCall_104 rfl ?_
            refine tr_ldcwS dX12_readCall_105 ld12_354 ?_
            refine q_iconst dX12_readCall_108 (by decide) ?_
            intro v3162 h3163
            refine q_bipush dX12_readCall_109 (by decide +kernel) ?_
            intro v3164 h3165
            refine q_callVi hE (M' := mX12_readPart) (as := [_, _, _]) dX12_readCall_111 lk12_249 inX12_readPart seX12_readPart myX12_readPart (by decide) ⟨by decide, by decide⟩ rfl (kR15 hS3151.1 ta0) (Nat.le_of_ble_eq_true rfl) rfl rfl (by decide) (by decide) (k_X12_readPart hS3151.1 ta0 (by decide)) ?_
            rintro v3170 cn' K' N' I3166 R3167 L3168 ⟨rfl, rfl, rfl, rfl, g3169, p3171, w3172, -⟩
            have hS3173 := hS3151.tr g3169 (by decide +kernel) (by decide +kernel)
            have c3174 : I3166 a1 5 = v49 := (g3169.cell ta1 (by decide +kernel)).trans c3152
            have b3175 : 1 ≤ v3170.toInt ∧ v3170.toInt ≤ 60 := by omega
            clear p3171
            have ov3176 := w3172.over (by rw [c3156]; omega)
            obtain ⟨v3177, c3178⟩ : ∃ v, I3166 a0 9 = v := ⟨_, rfl⟩
            have b3179 := iv15_9 hS3173.1 ta0 c3178
            obtain ⟨v3180, c3181⟩ : ∃ v, I3166 a0 13 = v := ⟨_, rfl⟩
            obtain ⟨v3182, c3183⟩ : ∃ v, I3166 a0 14 = v := ⟨_, rfl⟩
            (try rw [c3178] at ov3176)
            (try rw [c3181] at ov3176)
            (try rw [c3183] at ov3176)
            (try rw [c3156] at ov3176)
            (try rw [c3159] at ov3176)
            (try rw [c3161] at ov3176)
            refine tr_istore dX12_readCall_114 (by decide) (by decide) ?_
            refine tr_aload_n dX12_readCall_116 rfl ?_
            refine tr_ldcwS dX12_readCall_117 ld12_356 ?_
            refine q_iconst dX12_readCall_120 (by decide) ?_
            intro v3184 h3185
            refine q_bipush dX12_readCall_121 (by decide +kernel) ?_
            intro v3186 h3187
            refine q_callVi hE (M' := mX12_readPart) (as := [_, _, _]) dX12_readCall_123 lk12_249 inX12_readPart seX12_readPart myX12_readPart (by decide) ⟨by decide, by decide⟩ rfl (kR15 hS3173.1 ta0) (Nat.le_of_ble_eq_true rfl) rfl rfl (by decide) (by decide) (k_X12_readPart hS3173.1 ta0 (by decide)) ?_
            rintro v3192 cn' K' N' I3188 R3189 L3190 ⟨rfl, rfl, rfl, rfl, g3191, p3193, w3194, -⟩
            have hS3195 := hS3173.tr g3191 (by decide +kernel) (by decide +kernel)
            have c3196 : I3188 a1 5 = v49 := (g3191.cell ta1 (by decide +kernel)).trans c3174
            have b3197 : 0 ≤ v3192.toInt ∧ v3192.toInt ≤ 99 := by omega
            clear p3193
            have ov3198 := w3194.over (by rw [c3178]; omega)
            obtain ⟨v3199, c3200⟩ : ∃ v, I3188 a0 9 = v := ⟨_, rfl⟩
            have b3201 := iv15_9 hS3195.1 ta0 c3200
            obtain ⟨v3202, c3203⟩ : ∃ v, I3188 a0 13 = v := ⟨_, rfl⟩
            obtain ⟨v3204, c3205⟩ : ∃ v, I3188 a0 14 = v := ⟨_, rfl⟩
            (try rw [c3200] at ov3198)
            (try rw [c3203] at ov3198)
            (try rw [c3205] at ov3198)
            (try rw [c3178] at ov3198)
            (try rw [c3181] at ov3198)
            (try rw [c3183] at ov3198)
            refine tr_istore dX12_readCall_126 (by decide) (by decide) ?_
            refine tr_aload_n dX12_readCall_128 rfl ?_
            refine q_getI dX12_readCall_129 fl12_99 (kR15 hS3195.1 ta0) c3200 ?_
            refine q_iconst dX12_readCall_132 (by decide) ?_
            intro v3206 h3207
            refine q_icmp_ne 137 dX12_readCall_133 (by decide) (fun h3208 => ?_) (fun h3208 => ?_)
            · skip
              exfalso; omega
            · skip
              have eF := hF.eq
              have eP := hP.eq
              obtain ⟨v3209, c3210⟩ : ∃ v, I3188 a0 10 = v := ⟨_, rfl⟩
              have b3211 := iv15_10 hS3195.1 ta0 c3210
              obtain ⟨v3212, c3213⟩ : ∃ v, I3188 a0 11 = v := ⟨_, rfl⟩
              obtain ⟨y3214, c3215⟩ : ∃ v, L3190 a0 15 = v := ⟨_, rfl⟩
              obtain ⟨v3216, c3217⟩ : ∃ v, I3188 a0 12 = v := ⟨_, rfl⟩
              obtain ⟨v3218, c3219⟩ : ∃ v, I3188 a0 8 = v := ⟨_, rfl⟩
              have b3220 := iv15_8 hS3195.1 ta0 c3219
              exact tr_vret hZ dX12_readCall_136 rfl (by decide) (by decide) ⟨rfl, rfl, rfl, rfl, rfl, hS3195, (Or.inr (⟨(by first | done | omega), (by (try rw [c3200]); first | done | omega), (by (try rw [c3203]); first | done | omega), (by (try rw [c3205]); first | done | omega), trivial⟩)), trivial⟩
        · skip
          refine tr_aload_n dX12_readCall_55 rfl ?_
          refine q_iconst dX12_readCall_56 (by decide) ?_
          intro v3221 h3222
          refine q_callVv hE (M' := mX12_flaw) (as := [_]) dX12_readCall_57 lk12_145 inX12_flaw seX12_flaw myX12_flaw (by decide) ⟨by decide, by decide⟩ rfl (kR15 hS2934.1 ta0) (Nat.le_of_ble_eq_true rfl) rfl rfl (by decide) (by decide) (k_X12_flaw hS2934.1 ta0 (by omega)) ?_
          rintro cn' K' N' I3223 R3224 L3225 ⟨rfl, rfl, rfl, rfl, rfl, g3226, p3228, p3229, w3230, -⟩
          have hS3231 := hS2934.tr g3226 (by decide +kernel) (by decide +kernel)
          have c3232 : I3223 a1 5 = v49 := (g3226.cell ta1 (by decide +kernel)).trans c2935
          have c3233 : I3223 a0 8 = v2923 := (g3226.cell ta0 (by decide +kernel)).trans c2936
          obtain ⟨v3234, c3235⟩ : ∃ v, I3223 a0 9 = v := ⟨_, rfl⟩
          have b3236 := iv15_9 hS3231.1 ta0 c3235
          rw [c3235] at p3228
          rw [c3233] at p3229
          rw [c2936] at p3229
          have ov3237 := w3230.over (by rw [c2942]; omega)
          obtain ⟨v3238, c3239⟩ : ∃ v, I3223 a0 9 = v := ⟨_, rfl⟩
          have b3240 := iv15_9 hS3231.1 ta0 c3239
          obtain ⟨v3241, c3242⟩ : ∃ v, I3223 a0 13 = v := ⟨_, rfl⟩
          obtain ⟨v3243, c3244⟩ : ∃ v, I3223 a0 14 = v := ⟨_, rfl⟩
          (try rw [c3239] at ov3237)
          (try rw [c3242] at ov3237)
          (try rw [c3244] at ov3237)
          (try rw [c2942] at ov3237)
          (try rw [c2945] at ov3237)
          (try rw [c2947] at ov3237)
          refine tr_aload_n dX12_readCall_60 rfl ?_
          refine q_getI dX12_readCall_61 fl12_99 (kR15 hS3231.1 ta0) c3239 ?_
          refine q_iconst dX12_readCall_64 (by decide) ?_
          intro v3245 h3246
          refine q_icmp_ne 72 dX12_readCall_65 (by decide) (fun h3247 => ?_) (fun h3247 => ?_)
          · skip
            exfalso; omega
          · skip
            refine q_iconst dX12_readCall_68 (by decide) ?_
            intro v3248 h3249
            refine tr_goto 81 dX12_readCall_69 (by decide) ?_
            refine tr_istore_n dX12_readCall_81 (by decide) (by decide) ?_
            refine tr_aload_n dX12_readCall_82 rfl ?_
            refine q_callVv hE (M' := mX12_goesOn) (as := []) dX12_readCall_83 lk12_142 inX12_goesOn seX12_goesOn myX12_goesOn (by decide) ⟨by decide, by decide⟩ rfl (kR15 hS3231.1 ta0) (Nat.le_of_ble_eq_true rfl) rfl rfl (by decide) (by decide) (k_X12_goesOn hS3231.1 ta0) ?_
            rintro cn' K' N' I3250 R3251 L3252 ⟨rfl, rfl, rfl, rfl, g3253, p3255, p3256, p3257, w3258, -⟩
            have hS3259 := hS3231.tr g3253 (by decide +kernel) (by decide +kernel)
            have c3260 : I3250 a1 5 = v49 := (g3253.cell ta1 (by decide +kernel)).trans c3232
            have c3261 : I3250 a0 13 = v3241 := (g3253.cell ta0 (by decide +kernel)).trans c3242
            have c3262 : I3250 a0 14 = v3243 := (g3253.cell ta0 (by decide +kernel)).trans c3244
            obtain ⟨v3263, c3264⟩ : ∃ v, I3250 a0 9 = v := ⟨_, rfl⟩
            have b3265 := iv15_9 hS3259.1 ta0 c3264
            rw [c3239] at p3255
            rw [c3264] at p3255
            rw [c3239] at p3256
            rw [c3264] at p3256
            obtain ⟨v3266, c3267⟩ : ∃ v, I3250 a0 8 = v := ⟨_, rfl⟩
            have b3268 := iv15_8 hS3259.1 ta0 c3267
            rw [c3267] at p3257
            rw [c3233] at p3257
            rw [c3261] at p3257
            rw [c3242] at p3257
            have ov3269 := w3258.over (by rw [c3239]; omega)
            obtain ⟨v3270, c3271⟩ : ∃ v, I3250 a0 9 = v := ⟨_, rfl⟩
            have b3272 := iv15_9 hS3259.1 ta0 c3271
            obtain ⟨v3273, c3274⟩ : ∃ v, I3250 a0 13 = v := ⟨_, rfl⟩
            obtain ⟨v3275, c3276⟩ : ∃ v, I3250 a0 14 = v := ⟨_, rfl⟩
            (try rw [c3271] at ov3269)
            (try rw [c3274] at ov3269)
            (try rw [c3276] at ov3269)
            (try rw [c3239] at ov3269)
            (try rw [c3242] at ov3269)
            (try rw [c3244] at ov3269)
            refine tr_aload_n dX12_readCall_86 rfl ?_
            refine tr_ldcwS dX12_readCall_87 ld12_352 ?_
            refine q_iconst dX12_readCall_90 (by decide) ?_
            intro v3277 h3278
            refine tr_aload_n dX12_readCall_91 rfl ?_
            refine tr_getR dX12_readCall_92 fl12_188 (kR15 hS3259.1 ta0) d2 ?_
            refine q_getI dX12_readCall_95 fl12_192 (kR14 hS3259.1 ta1) ((hS3259.cell ta1 (by decide +kernel)).trans c30) ?_
            refine q_iconst dX12_readCall_98 (by decide) ?_
            intro v3279 h3280
            refine q_isubE dX12_readCall_99 (by intros; omega) ?_
            intro v3281 h3282
            refine q_callVi hE (M' := mX12_readPart) (as := [_, _, _]) dX12_readCall_100 lk12_249 inX12_readPart seX12_readPart myX12_readPart (by decide) ⟨by decide, by decide⟩ rfl (kR15 hS3259.1 ta0) (Nat.le_of_ble_eq_true rfl) rfl rfl (by decide) (by decide) (k_X12_readPart hS3259.1 ta0 (by decide)) ?_
            rintro v3287 cn' K' N' I3283 R3284 L3285 ⟨rfl, rfl, rfl, rfl, g3286, p3288, w3289, -⟩
            have hS3290 := hS3259.tr g3286 (by decide +kernel) (by decide +kernel)
            have c3291 : I3283 a1 5 = v49 := (g3286.cell ta1 (by decide +kernel)).trans c3260
            have b3292 : 0 ≤ v3287.toInt ∧ v3287.toInt ≤ 0 := by omega
            clear p3288
            have ov3293 := w3289.over (by rw [c3271]; omega)
            obtain ⟨v3294, c3295⟩ : ∃ v, I3283 a0 9 = v := ⟨_, rfl⟩
            have b3296 := iv15_9 hS3290.1 ta0 c3295
            obtain ⟨v3297, c3298⟩ : ∃ v, I3283 a0 13 = v := ⟨_, rfl⟩
            obtain ⟨v3299, c3300⟩ : ∃ v, I3283 a0 14 = v := ⟨_, rfl⟩
            (try rw [c3295] at ov3293)
            (try rw [c3298] at ov3293)
            (try rw [c3300] at ov3293)
            (try rw [c3271] at ov3293)
            (try rw [c3274] at ov3293)
            (try rw [c3276] at ov3293)
            refine tr_istore_n dX12_readCall_103 (by decide) (by decide) ?_
            refine tr_aload_n dX12_readCall_104 rfl ?_
            refine tr_ldcwS dX12_readCall_105 ld12_354 ?_
            refine q_iconst dX12_readCall_108 (by decide) ?_
            intro v3301 h3302
            refine q_bipush dX12_readCall_109 (by decide +kernel) ?_
            intro v3303 h3304
            refine q_callVi hE (M' := mX12_readPart) (as := [_, _, _]) dX12_readCall_111 lk12_249 inX12_readPart seX12_readPart myX12_readPart (by decide) ⟨by decide, by decide⟩ rfl (kR15 hS3290.1 ta0) (Nat.le_of_ble_eq_true rfl) rfl rfl (by decide) (by decide) (k_X12_readPart hS3290.1 ta0 (by decide)) ?_
            rintro v3309 cn' K' N' I3305 R3306 L3307 ⟨rfl, rfl, rfl, rfl, g3308, p3310, w3311, -⟩
            have hS3312 := hS3290.tr g3308 (by decide +kernel) (by decide +kernel)
            have c3313 : I3305 a1 5 = v49 := (g3308.cell ta1 (by decide +kernel)).trans c3291
            have b3314 : 1 ≤ v3309.toInt ∧ v3309.toInt ≤ 60 := by omega
            clear p3310
            have ov3315 := w3311.over (by rw [c3295]; omega)
            obtain ⟨v3316, c3317⟩ : ∃ v, I3305 a0 9 = v := ⟨_, rfl⟩
            have b3318 := iv15_9 hS3312.1 ta0 c3317
            obtain ⟨v3319, c3320⟩ : ∃ v, I3305 a0 13 = v := ⟨_, rfl⟩
            obtain ⟨v3321, c3322⟩ : ∃ v, I3305 a0 14 = v := ⟨_, rfl⟩
            (try rw [c3317] at ov3315)
            (try rw [c3320] at ov3315)
            (try rw [c3322] at ov3315)
            (try rw [c3295] at ov3315)
            (try rw [c3298] at ov3315)
            (try rw [c3300] at ov3315)
            refine tr_istore dX12_readCall_114 (by decide) (by decide) ?_
            refine tr_aload_n dX12_readCall_116 rfl ?_
            refine tr_ldcwS dX12_readCall_117 ld12_356 ?_
            refine q_iconst dX12_readCall_120 (by decide) ?_
            intro v3323 h3324
            refine q_bipush dX12_readCall_121 (by decide +kernel) ?_
            intro v3325 h3326
            refine q_callVi hE (M' := mX12_readPart) (as := [_, _, _]) dX12_readCall_123 lk12_249 inX12_readPart seX12_readPart myX12_readPart (by decide) ⟨by decide, by decide⟩ rfl (kR15 hS3312.1 ta0) (Nat.le_of_ble_eq_true rfl) rfl rfl (by decide) (by decide) (k_X12_readPart hS3312.1 ta0 (by decide)) ?_
            rintro v3331 cn' K' N' I3327 R3328 L3329 ⟨rfl, rfl, rfl, rfl, g3330, p3332, w3333, -⟩
            have hS3334 := hS3312.tr g3330 (by decide +kernel) (by decide +kernel)
            have c3335 : I3327 a1 5 = v49 := (g3330.cell ta1 (by decide +kernel)).trans c3313
            have b3336 : 0 ≤ v3331.toInt ∧ v3331.toInt ≤ 99 := by omega
            clear p3332
            have ov3337 := w3333.over (by rw [c3317]; omega)
            obtain ⟨v3338, c3339⟩ : ∃ v, I3327 a0 9 = v := ⟨_, rfl⟩
            have b3340 := iv15_9 hS3334.1 ta0 c3339
            obtain ⟨v3341, c3342⟩ : ∃ v, I3327 a0 13 = v := ⟨_, rfl⟩
            obtain ⟨v3343, c3344⟩ : ∃ v, I3327 a0 14 = v := ⟨_, rfl⟩
            (try rw [c3339] at ov3337)
            (try rw [c3342] at ov3337)
            (try rw [c3344] at ov3337)
            (try rw [c3317] at ov3337)
            (try rw [c3320] at ov3337)
            (try rw [c3322] at ov3337)
            refine tr_istore dX12_readCall_126 (by decide) (by decide) ?_
            refine tr_aload_n dX12_readCall_128 rfl ?_
            refine q_getI dX12_readCall_129 fl12_99 (kR15 hS3334.1 ta0) c3339 ?_
            refine q_iconst dX12_readCall_132 (by decide) ?_
            intro v3345 h3346
            refine q_icmp_ne 137 dX12_readCall_133 (by decide) (fun h3347 => ?_) (fun h3347 => ?_)
            · skip
              exfalso; omega
            · skip
              have eF := hF.eq
              have eP := hP.eq
              obtain ⟨v3348, c3349⟩ : ∃ v, I3327 a0 10 = v := ⟨_, rfl⟩
              have b3350 := iv15_10 hS3334.1 ta0 c3349
              obtain ⟨v3351, c3352⟩ : ∃ v, I3327 a0 11 = v := ⟨_, rfl⟩
              obtain ⟨y3353, c3354⟩ : ∃ v, L3329 a0 15 = v := ⟨_, rfl⟩
              obtain ⟨v3355, c3356⟩ : ∃ v, I3327 a0 12 = v := ⟨_, rfl⟩
              obtain ⟨v3357, c3358⟩ : ∃ v, I3327 a0 8 = v := ⟨_, rfl⟩
              have b3359 := iv15_8 hS3334.1 ta0 c3358
              exact tr_vret hZ dX12_readCall_136 rfl (by decide) (by decide) ⟨rfl, rfl, rfl, rfl, rfl, hS3334, (Or.inr (⟨(by first | done | omega), (by (try rw [c3339]); first | done | omega), (by (try rw [c3342]); first | done | omega), (by (try rw [c3344]); first | done | omega), trivial⟩)), trivial⟩
