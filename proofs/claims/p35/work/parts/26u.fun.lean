def wik_X12_readRising : List Nat := [968, 969, 970, 971, 972, 973, 974, 3839]
def wrk_X12_readRising : List Nat := []
def wlk_X12_readRising : List Nat := [975]
set_option maxHeartbeats 4000000 in
theorem fk_X12_readRising {l : Launch} {T : Nat → Nat} {cn : Nat} {K N : Nat → Nat} {I0 : cz_I} {R0 : cz_R} {L0 : cz_L} (hW0 : Wf T cn K N I0 R0 0) (gB : cz_B) (gs : Int) (gQ : Nat → Int) {a0 : Nat} (ta0 : T a0 = 15) {a1 : Nat} (ta1 : T a1 = 59) {x2 : Int32} (hx2 : 0 ≤ x2.toInt ∧ x2.toInt ≤ 0) {x3 : Int32} (hx3 : 8 ≤ x3.toInt ∧ x3.toInt ≤ 8) (hT : ∀ t, R0 a0 5 = some t → Tx I0 t gB) (pre0 : (I0 a0 9).toInt = (tkM gB gs)) (pre1 : (I0 a0 9).toInt ≤ 4) (pre2 : (I0 a0 10).toInt = (tkS gB gs)) (pre3 : (I0 a0 11).toInt = (tkG gB gs)) (pre4 : (AtW ((tkK gB gs)) ((L0 a0 15).toInt) ((tkW gB gs)))) (pre5 : (AtV ((tkK gB gs)) ((I0 a0 12).toInt) ((tkV gB gs)))) (pre6 : (AtN ((tkK gB gs)) ((I0 a0 8).toInt) ((tkN gB gs)))) (pre7 : (I0 a0 7).toInt = (gB.2)) (pre8 : ∀ b1, R0 a0 4 = some b1 → (I0 b1 0).toInt = (gQ 0)) (pre9 : (gQ 0) ≥ 1) (nn4 : ∃ b, R0 a0 4 = some b) : ConE l mX12_readRising [.ref a0, .ref a1, .int x2, .int x3] cn K N I0 R0 L0 (ca_i (fun v cn' K' N' I' R' L' => cn = cn' ∧ K = K' ∧ N = N' ∧ R0 = R' ∧ St T cn K N 0 wik_X12_readRising wrk_X12_readRising I0 R0 I' R0 ∧ (0 ≤ v.toInt ∧ v.toInt ≤ 8) ∧ ((((riF gB gQ 8 0 gs) = 0) ∧ ((I' a0 13).toInt = (I0 a0 13).toInt) ∧ ((I' a0 9).toInt = (tkM gB (riS gB gQ 8 0 gs))) ∧ ((I' a0 9).toInt ≤ 4) ∧ ((I' a0 10).toInt = (tkS gB (riS gB gQ 8 0 gs))) ∧ ((I' a0 11).toInt = (tkG gB (riS gB gQ 8 0 gs))) ∧ ((AtW ((tkK gB (riS gB gQ 8 0 gs))) ((L' a0 15).toInt) ((tkW gB (riS gB gQ 8 0 gs))))) ∧ ((AtV ((tkK gB (riS gB gQ 8 0 gs))) ((I' a0 12).toInt) ((tkV gB (riS gB gQ 8 0 gs))))) ∧ ((AtN ((tkK gB (riS gB gQ 8 0 gs))) ((I' a0 8).toInt) ((tkN gB (riS gB gQ 8 0 gs))))) ∧ LgS T wlk_X12_readRising L0 L' ∧ True) ∨ (((riF gB gQ 8 0 gs) ≠ 0) ∧ ((I' a0 9).toInt = 5) ∧ ((I' a0 13).toInt = (riF gB gQ 8 0 gs)) ∧ ((I' a0 14).toInt = (riP gB gQ 8 0 gs)) ∧ True)) ∧ True)) := by
  refine ConE.of (by decide +kernel) rfl (Nat.le_of_ble_eq_true rfl) rfl (fun X hX hZ hE => ?_)
  subst hX
  have hS0 : St T cn K N 0 wik_X12_readRising wrk_X12_readRising I0 R0 I0 R0 := St.rf0 hW0
  have hL0 : LgS T wlk_X12_readRising L0 L0 := LgS.rf0
  obtain ⟨a11, d12⟩ := nn4
  have ta11 : T a11 = 14 := hW0.rsN ta0 rfl d12
  obtain ⟨v13, c14⟩ : ∃ v, I0 a0 9 = v := ⟨_, rfl⟩
  have b15 := iv15_9 hS0.1 ta0 c14
  have p16 := pre0
  rw [c14] at p16
  have p17 := pre1
  rw [c14] at p17
  obtain ⟨v18, c19⟩ : ∃ v, I0 a0 10 = v := ⟨_, rfl⟩
  have b20 := iv15_10 hS0.1 ta0 c19
  have p21 := pre2
  rw [c19] at p21
  obtain ⟨v22, c23⟩ : ∃ v, I0 a0 11 = v := ⟨_, rfl⟩
  have p24 := pre3
  rw [c23] at p24
  obtain ⟨y25, c26⟩ : ∃ v, L0 a0 15 = v := ⟨_, rfl⟩
  have p27 := pre4
  rw [c26] at p27
  obtain ⟨v28, c29⟩ : ∃ v, I0 a0 12 = v := ⟨_, rfl⟩
  have p30 := pre5
  rw [c29] at p30
  obtain ⟨v31, c32⟩ : ∃ v, I0 a0 8 = v := ⟨_, rfl⟩
  have b33 := iv15_8 hS0.1 ta0 c32
  have p34 := pre6
  rw [c32] at p34
  obtain ⟨v35, c36⟩ : ∃ v, I0 a0 7 = v := ⟨_, rfl⟩
  have b37 := iv15_7 hW0 ta0 c36
  have p38 := pre7
  rw [c36] at p38
  obtain ⟨v39, c40⟩ : ∃ v, I0 a11 0 = v := ⟨_, rfl⟩
  have b41 := iv14_0 hW0 ta11 c40
  have p42 := pre8 _ d12
  rw [c40] at p42
  have p43 := pre9
  obtain ⟨v44, c45⟩ : ∃ v, I0 a0 13 = v := ⟨_, rfl⟩
  refine q_iconst dX12_readRising_0 (by decide) ?_
  intro v46 h47
  refine tr_istore dX12_readRising_1 (by decide) (by decide) ?_
  refine q_iconst dX12_readRising_3 (by decide) ?_
  intro v48 h49
  refine tr_istore dX12_readRising_4 (by decide) (by decide) ?_
  refine q_iconst dX12_readRising_6 (by decide) ?_
  intro v50 h51
  refine tr_istore dX12_readRising_7 (by decide) (by decide) ?_
  have lp99 : ∀ (fu : Nat) (ls : Nat → Option Value) (v52 : Int32) (v53 : Int32) (v54 : Int32) (I62 : cz_I) (L63 : cz_L) (gs64 : Int) (gr65 : Nat) (v68 : Int32) (v70 : Int32) (v72 : Int32) (v74 : Int32) (y76 : Int64) (v78 : Int32) (v80 : Int32), ls 0 = some (.ref a0) → ls 1 = some (.ref a1) → ls 2 = some (.int x2) → ls 3 = some (.int x3) → ls 4 = some (.int v52) → ls 5 = some (.int v53) → ls 6 = some (.int v54) → St T cn K N 0 wik_X12_readRising wrk_X12_readRising I0 R0 I62 R0 → LgS T wlk_X12_readRising L0 L63 → I62 a0 13 = v68 → I62 a0 9 = v70 → I62 a0 10 = v72 → I62 a0 11 = v74 → L63 a0 15 = y76 → I62 a0 12 = v78 → I62 a0 8 = v80 → (riF gB gQ gr65 v53.toInt gs64) = (riF gB gQ 8 0 gs) → (riP gB gQ gr65 v53.toInt gs64) = (riP gB gQ 8 0 gs) → (riS gB gQ gr65 v53.toInt gs64) = (riS gB gQ 8 0 gs) → v54.toInt = 1 → 0 ≤ v53.toInt → v53.toInt ≤ 240 → 0 ≤ v52.toInt → v52.toInt ≤ 8 → ((gr65 : Int)) = -v52.toInt + 8 → v68.toInt = v44.toInt → v70.toInt = (tkM gB gs64) → v70.toInt ≤ 4 → v72.toInt = (tkS gB gs64) → v74.toInt = (tkG gB gs64) → (AtW ((tkK gB gs64)) (y76.toInt) ((tkW gB gs64))) → (AtV ((tkK gB gs64)) (v78.toInt) ((tkV gB gs64))) → (AtN ((tkK gB gs64)) (v80.toInt) ((tkN gB gs64))) → (-v52.toInt + 9).toNat < fu → Tr X mX12_readRising 9 ls [] cn K N I62 R0 L63 0 0 := by
    intro fu
    induction fu with
    | zero => intros; rename_i hz; exact absurd hz (Nat.not_lt_zero _)
    | succ fu ih99 =>
      intro ls v52 v53 v54 I62 L63 gs64 gr65 v68 v70 v72 v74 y76 v78 v80 hl55 hl56 hl57 hl58 hl59 hl60 hl61 hS66 hL67 c69 c71 c73 c75 c77 c79 c81 g82 g83 g84 g85 g86 g87 g88 g89 g90 g91 g92 g93 g94 g95 g96 g97 g98 hm99
      have b101 := iv15_9 hS66.1 ta0 c71
      have b102 := iv15_10 hS66.1 ta0 c73
      have b103 := iv15_8 hS66.1 ta0 c81
      rcases Nat.eq_zero_or_pos gr65 with hz104 | hz104
      · skip
        subst hz104
        refine tr_iload dX12_readRising_9 hl61 ?_
        refine q_if_eq 92 dX12_readRising_11 (by decide) (fun h106 => ?_) (fun h106 => ?_)
        · skip
          exfalso; exact om_3624102b g85 h106
        · skip
          refine tr_aload_n dX12_readRising_14 hl55 ?_
          refine q_getI dX12_readRising_15 fl12_99 (kR15 hS66.1 ta0) c71 ?_
          refine q_iconst dX12_readRising_18 (by decide) ?_
          intro v107 h108
          refine q_icmp_eq 92 dX12_readRising_19 (by decide) (fun h109 => ?_) (fun h109 => ?_)
          · skip
            exfalso; exact om_590814ed g92 g93 b101.1 h108 h109
          · skip
            refine tr_aload_n dX12_readRising_22 hl55 ?_
            refine tr_iload dX12_readRising_23 hl60 ?_
            refine tr_aload_n dX12_readRising_25 hl55 ?_
            refine tr_getR dX12_readRising_26 fl12_188 (kR15 hS66.1 ta0) d12 ?_
            refine q_getI dX12_readRising_29 fl12_192 (kR14 hS66.1 ta11) ((hS66.cell ta11 (by decide +kernel)).trans c40) ?_
            refine q_iconst dX12_readRising_32 (by decide) ?_
            intro v110 h111
            refine q_isubE dX12_readRising_33 (by intro j1 j2 j3 j4; exact om_329ab692 pre9 b41.2 b41.1 p42 h111) ?_
            intro v112 h113
            refine q_callVi hE (M' := mX12_bounded) (as := [_, _]) dX12_readRising_34 lk12_153 inX12_bounded seX12_bounded myX12_bounded (by decide) ⟨by decide, by decide⟩ rfl (kR15 hS66.1 ta0) (Nat.le_of_ble_eq_true rfl) rfl rfl (by decide) (by decide) (fk_X12_bounded hS66.1 (gB) (gs64) ta0 (by (try rw [c71]); first | done | with_reducible assumption | omega) (by (try rw [c71]); first | done | with_reducible assumption | omega) (by (try rw [c73]); first | done | with_reducible assumption | omega) (by (try rw [c75]); first | done | with_reducible assumption | omega) (by (try rw [c77]); first | done | assumption) (by (try rw [c79]); first | done | assumption) (by (try rw [c81]); first | done | assumption)) ?_
            rintro v119 cn' K' N' I114 R115 L116 ⟨rfl, rfl, rfl, rfl, rfl, g117, dj120, -⟩
            have hS121 := hS66.tr g117 (by decide +kernel) (by decide +kernel)
            have c122 : I114 a0 10 = v72 := (g117.cell ta0 (by decide +kernel)).trans c73
            have c123 : I114 a0 11 = v74 := (g117.cell ta0 (by decide +kernel)).trans c75
            have c124 : I114 a0 12 = v78 := (g117.cell ta0 (by decide +kernel)).trans c79
            have c125 : I114 a0 8 = v80 := (g117.cell ta0 (by decide +kernel)).trans c81
            rcases dj120 with ⟨p126, p127, p128, p129, p130, p131, p132, p133, p134, p135, p136, p137, -⟩ | ⟨p138, p139, p140, p141, p142, -⟩ | ⟨p143, p144, p145, p146, p147, p148, -⟩
            · skip
              obtain ⟨v149, c150⟩ : ∃ v, I114 a0 13 = v := ⟨_, rfl⟩
              rw [c150] at p130
              rw [c69] at p130
              obtain ⟨v151, c152⟩ : ∃ v, I114 a0 9 = v := ⟨_, rfl⟩
              have b153 := iv15_9 hS121.1 ta0 c152
              rw [c152] at p131
              rw [c152] at p132
              rw [c122] at p133
              rw [c123] at p134
              rw [c77] at p135
              rw [c124] at p136
              rw [c125] at p137
              refine tr_istore dX12_readRising_37 (by decide) (by decide) ?_
              refine tr_iload dX12_readRising_39 hl59 ?_
              refine tr_iload_n dX12_readRising_41 hl58 ?_
              refine q_icmp_ne 50 dX12_readRising_42 (by decide) (fun h154 => ?_) (fun h154 => ?_)
              · skip
                exfalso; exact om_8be05020 hx3.2 hx3.1 g90 h154
              · skip
                refine tr_aload_n dX12_readRising_45 hl55 ?_
                refine q_iconst dX12_readRising_46 (by decide) ?_
                intro v155 h156
                refine q_callVv hE (M' := mX12_flaw) (as := [_]) dX12_readRising_47 lk12_145 inX12_flaw seX12_flaw myX12_flaw (by decide) ⟨by decide, by decide⟩ rfl (kR15 hS121.1 ta0) (Nat.le_of_ble_eq_true rfl) rfl rfl (by decide) (by decide) (fk_X12_flaw hS121.1  ta0 (by exact om_054a361c h156) (by (try rw [c152]); first | done | with_reducible assumption | exact om_25eaf917 g92 g93 b101.1 p131)) ?_
                rintro cn' K' N' I157 R158 L159 ⟨rfl, rfl, rfl, rfl, rfl, g160, p163, p164, p165, -⟩
                have hS166 := hS121.tr g160 (by decide +kernel) (by decide +kernel)
                have c167 : I157 a0 10 = v72 := (g160.cell ta0 (by decide +kernel)).trans c122
                have c168 : I157 a0 11 = v74 := (g160.cell ta0 (by decide +kernel)).trans c123
                have c169 : I157 a0 12 = v78 := (g160.cell ta0 (by decide +kernel)).trans c124
                have c170 : I157 a0 8 = v80 := (g160.cell ta0 (by decide +kernel)).trans c125
                obtain ⟨v171, c172⟩ : ∃ v, I157 a0 9 = v := ⟨_, rfl⟩
                have b173 := iv15_9 hS166.1 ta0 c172
                rw [c172] at p163
                obtain ⟨v174, c175⟩ : ∃ v, I157 a0 13 = v := ⟨_, rfl⟩
                rw [c175] at p164
                obtain ⟨v176, c177⟩ : ∃ v, I157 a0 14 = v := ⟨_, rfl⟩
                rw [c177] at p165
                rw [c122] at p165
                refine tr_aload_n dX12_readRising_50 hl55 ?_
                refine q_callVv hE (M' := mX12_goesOn) (as := []) dX12_readRising_51 lk12_142 inX12_goesOn seX12_goesOn myX12_goesOn (by decide) ⟨by decide, by decide⟩ rfl (kR15 hS166.1 ta0) (Nat.le_of_ble_eq_true rfl) rfl rfl (by decide) (by decide) (k_X12_goesOn hS166.1 ta0) ?_
                rintro cn' K' N' I178 R179 L180 ⟨rfl, rfl, rfl, rfl, g181, p183, p184, p185, w186, -⟩
                have hS187 := hS166.tr g181 (by decide +kernel) (by decide +kernel)
                have c188 : I178 a0 13 = v174 := (g181.cell ta0 (by decide +kernel)).trans c175
                have c189 : I178 a0 14 = v176 := (g181.cell ta0 (by decide +kernel)).trans c177
                obtain ⟨v190, c191⟩ : ∃ v, I178 a0 9 = v := ⟨_, rfl⟩
                have b192 := iv15_9 hS187.1 ta0 c191
                rw [c172] at p183
                rw [c191] at p183
                rw [c172] at p184
                rw [c191] at p184
                obtain ⟨v193, c194⟩ : ∃ v, I178 a0 8 = v := ⟨_, rfl⟩
                have b195 := iv15_8 hS187.1 ta0 c194
                rw [c194] at p185
                rw [c170] at p185
                rw [c188] at p185
                rw [c175] at p185
                have ov196 := w186.over (by rw [c172]; exact om_394b70a2 p163)
                obtain ⟨v197, c198⟩ : ∃ v, I178 a0 9 = v := ⟨_, rfl⟩
                have b199 := iv15_9 hS187.1 ta0 c198
                obtain ⟨v200, c201⟩ : ∃ v, I178 a0 13 = v := ⟨_, rfl⟩
                obtain ⟨v202, c203⟩ : ∃ v, I178 a0 14 = v := ⟨_, rfl⟩
                (try rw [c198] at ov196)
                (try rw [c201] at ov196)
                (try rw [c203] at ov196)
                (try rw [c172] at ov196)
                (try rw [c175] at ov196)
                (try rw [c177] at ov196)
                refine tr_aload_n dX12_readRising_54 hl55 ?_
                refine q_getI dX12_readRising_55 fl12_99 (kR15 hS187.1 ta0) c198 ?_
                refine q_iconst dX12_readRising_58 (by decide) ?_
                intro v204 h205
                refine q_icmp_ne 64 dX12_readRising_59 (by decide) (fun h206 => ?_) (fun h206 => ?_)
                · skip
                  exfalso; exact om_1fa3e129 ov196.1 h205 h206
                · skip
                  refine q_iconst dX12_readRising_62 (by decide) ?_
                  intro v207 h208
                  obtain ⟨v209, c210⟩ : ∃ v, I178 a0 10 = v := ⟨_, rfl⟩
                  have b211 := iv15_10 hS187.1 ta0 c210
                  obtain ⟨v212, c213⟩ : ∃ v, I178 a0 11 = v := ⟨_, rfl⟩
                  obtain ⟨y214, c215⟩ : ∃ v, L180 a0 15 = v := ⟨_, rfl⟩
                  obtain ⟨v216, c217⟩ : ∃ v, I178 a0 12 = v := ⟨_, rfl⟩
                  exact tr_iret hZ dX12_readRising_63 rfl (by decide) (by decide) ⟨v207, rfl, rfl, rfl, rfl, rfl, hS187, (by exact om_7d21acc5 h208), (Or.inr (⟨(by rw [← g82]; simp only [riF, ↓reduceIte]; exact om_62e43f65), (by (try rw [c198]); first | done | with_reducible assumption | exact om_394b70a2 ov196.1), (by (try rw [c201]); rw [← g82]; simp only [riF, ↓reduceIte]; exact om_84e7137a p42 h111 h113 p127 p128 p129 h156 p164 ov196.2.1), (by (try rw [c203]); rw [← g83]; simp only [riP, ↓reduceIte]; exact om_1c22ab7e g94 p165 ov196.2.2), trivial⟩)), trivial⟩
            · skip
              obtain ⟨v218, c219⟩ : ∃ v, I114 a0 9 = v := ⟨_, rfl⟩
              have b220 := iv15_9 hS121.1 ta0 c219
              rw [c219] at p140
              obtain ⟨v221, c222⟩ : ∃ v, I114 a0 13 = v := ⟨_, rfl⟩
              rw [c222] at p141
              obtain ⟨v223, c224⟩ : ∃ v, I114 a0 14 = v := ⟨_, rfl⟩
              rw [c224] at p142
              refine tr_istore dX12_readRising_37 (by decide) (by decide) ?_
              refine tr_iload dX12_readRising_39 hl59 ?_
              refine tr_iload_n dX12_readRising_41 hl58 ?_
              refine q_icmp_ne 50 dX12_readRising_42 (by decide) (fun h225 => ?_) (fun h225 => ?_)
              · skip
                exfalso; exact om_8be05020 hx3.2 hx3.1 g90 h225
              · skip
                refine tr_aload_n dX12_readRising_45 hl55 ?_
                refine q_iconst dX12_readRising_46 (by decide) ?_
                intro v226 h227
                refine q_callVv hE (M' := mX12_flaw) (as := [_]) dX12_readRising_47 lk12_145 inX12_flaw seX12_flaw myX12_flaw (by decide) ⟨by decide, by decide⟩ rfl (kR15 hS121.1 ta0) (Nat.le_of_ble_eq_true rfl) rfl rfl (by decide) (by decide) (k_X12_flaw hS121.1 ta0 (by exact om_054a361c h227)) ?_
                rintro cn' K' N' I228 R229 L230 ⟨rfl, rfl, rfl, rfl, rfl, g231, p233, p234, w235, -⟩
                have hS236 := hS121.tr g231 (by decide +kernel) (by decide +kernel)
                have c237 : I228 a0 10 = v72 := (g231.cell ta0 (by decide +kernel)).trans c122
                have c238 : I228 a0 11 = v74 := (g231.cell ta0 (by decide +kernel)).trans c123
                have c239 : I228 a0 12 = v78 := (g231.cell ta0 (by decide +kernel)).trans c124
                have c240 : I228 a0 8 = v80 := (g231.cell ta0 (by decide +kernel)).trans c125
                obtain ⟨v241, c242⟩ : ∃ v, I228 a0 9 = v := ⟨_, rfl⟩
                have b243 := iv15_9 hS236.1 ta0 c242
                rw [c242] at p233
                rw [c240] at p234
                rw [c125] at p234
                have ov244 := w235.over (by rw [c219]; exact om_394b70a2 p140)
                obtain ⟨v245, c246⟩ : ∃ v, I228 a0 9 = v := ⟨_, rfl⟩
                have b247 := iv15_9 hS236.1 ta0 c246
                obtain ⟨v248, c249⟩ : ∃ v, I228 a0 13 = v := ⟨_, rfl⟩
                obtain ⟨v250, c251⟩ : ∃ v, I228 a0 14 = v := ⟨_, rfl⟩
                (try rw [c246] at ov244)
                (try rw [c249] at ov244)
                (try rw [c251] at ov244)
                (try rw [c219] at ov244)
                (try rw [c222] at ov244)
                (try rw [c224] at ov244)
                refine tr_aload_n dX12_readRising_50 hl55 ?_
                refine q_callVv hE (M' := mX12_goesOn) (as := []) dX12_readRising_51 lk12_142 inX12_goesOn seX12_goesOn myX12_goesOn (by decide) ⟨by decide, by decide⟩ rfl (kR15 hS236.1 ta0) (Nat.le_of_ble_eq_true rfl) rfl rfl (by decide) (by decide) (k_X12_goesOn hS236.1 ta0) ?_
                rintro cn' K' N' I252 R253 L254 ⟨rfl, rfl, rfl, rfl, g255, p257, p258, p259, w260, -⟩
                have hS261 := hS236.tr g255 (by decide +kernel) (by decide +kernel)
                have c262 : I252 a0 13 = v248 := (g255.cell ta0 (by decide +kernel)).trans c249
                have c263 : I252 a0 14 = v250 := (g255.cell ta0 (by decide +kernel)).trans c251
                obtain ⟨v264, c265⟩ : ∃ v, I252 a0 9 = v := ⟨_, rfl⟩
                have b266 := iv15_9 hS261.1 ta0 c265
                rw [c246] at p257
                rw [c265] at p257
                rw [c246] at p258
                rw [c265] at p258
                obtain ⟨v267, c268⟩ : ∃ v, I252 a0 8 = v := ⟨_, rfl⟩
                have b269 := iv15_8 hS261.1 ta0 c268
                rw [c268] at p259
                rw [c240] at p259
                rw [c262] at p259
                rw [c249] at p259
                have ov270 := w260.over (by rw [c246]; exact om_394b70a2 ov244.1)
                obtain ⟨v271, c272⟩ : ∃ v, I252 a0 9 = v := ⟨_, rfl⟩
                have b273 := iv15_9 hS261.1 ta0 c272
                obtain ⟨v274, c275⟩ : ∃ v, I252 a0 13 = v := ⟨_, rfl⟩
                obtain ⟨v276, c277⟩ : ∃ v, I252 a0 14 = v := ⟨_, rfl⟩
                (try rw [c272] at ov270)
                (try rw [c275] at ov270)
                (try rw [c277] at ov270)
                (try rw [c246] at ov270)
                (try rw [c249] at ov270)
                (try rw [c251] at ov270)
                refine tr_aload_n dX12_readRising_54 hl55 ?_
                refine q_getI dX12_readRising_55 fl12_99 (kR15 hS261.1 ta0) c272 ?_
                refine q_iconst dX12_readRising_58 (by decide) ?_
                intro v278 h279
                refine q_icmp_ne 64 dX12_readRising_59 (by decide) (fun h280 => ?_) (fun h280 => ?_)
                · skip
                  exfalso; exact om_1fa3e129 ov270.1 h279 h280
                · skip
                  refine q_iconst dX12_readRising_62 (by decide) ?_
                  intro v281 h282
                  obtain ⟨v283, c284⟩ : ∃ v, I252 a0 10 = v := ⟨_, rfl⟩
                  have b285 := iv15_10 hS261.1 ta0 c284
                  obtain ⟨v286, c287⟩ : ∃ v, I252 a0 11 = v := ⟨_, rfl⟩
                  obtain ⟨y288, c289⟩ : ∃ v, L254 a0 15 = v := ⟨_, rfl⟩
                  obtain ⟨v290, c291⟩ : ∃ v, I252 a0 12 = v := ⟨_, rfl⟩
                  exact tr_iret hZ dX12_readRising_63 rfl (by decide) (by decide) ⟨v281, rfl, rfl, rfl, rfl, rfl, hS261, (by exact om_7d21acc5 h282), (Or.inr (⟨(by rw [← g82]; simp only [riF, ↓reduceIte]; exact om_24d90ed0 p139), (by (try rw [c272]); first | done | with_reducible assumption | exact om_394b70a2 ov270.1), (by (try rw [c275]); rw [← g82]; simp only [riF, ↓reduceIte]; exact om_1f4892f2 p139 p141 ov244.2.1 ov270.2.1), (by (try rw [c277]); rw [← g83]; simp only [riP, ↓reduceIte]; exact om_1c22ab7e p142 ov244.2.2 ov270.2.2), trivial⟩)), trivial⟩
            · skip
              obtain ⟨v292, c293⟩ : ∃ v, I114 a0 9 = v := ⟨_, rfl⟩
              have b294 := iv15_9 hS121.1 ta0 c293
              rw [c293] at p146
              obtain ⟨v295, c296⟩ : ∃ v, I114 a0 13 = v := ⟨_, rfl⟩
              rw [c296] at p147
              obtain ⟨v297, c298⟩ : ∃ v, I114 a0 14 = v := ⟨_, rfl⟩
              rw [c298] at p148
              refine tr_istore dX12_readRising_37 (by decide) (by decide) ?_
              refine tr_iload dX12_readRising_39 hl59 ?_
              refine tr_iload_n dX12_readRising_41 hl58 ?_
              refine q_icmp_ne 50 dX12_readRising_42 (by decide) (fun h299 => ?_) (fun h299 => ?_)
              · skip
                exfalso; exact om_8be05020 hx3.2 hx3.1 g90 h299
              · skip
                refine tr_aload_n dX12_readRising_45 hl55 ?_
                refine q_iconst dX12_readRising_46 (by decide) ?_
                intro v300 h301
                refine q_callVv hE (M' := mX12_flaw) (as := [_]) dX12_readRising_47 lk12_145 inX12_flaw seX12_flaw myX12_flaw (by decide) ⟨by decide, by decide⟩ rfl (kR15 hS121.1 ta0) (Nat.le_of_ble_eq_true rfl) rfl rfl (by decide) (by decide) (k_X12_flaw hS121.1 ta0 (by exact om_054a361c h301)) ?_
                rintro cn' K' N' I302 R303 L304 ⟨rfl, rfl, rfl, rfl, rfl, g305, p307, p308, w309, -⟩
                have hS310 := hS121.tr g305 (by decide +kernel) (by decide +kernel)
                have c311 : I302 a0 10 = v72 := (g305.cell ta0 (by decide +kernel)).trans c122
                have c312 : I302 a0 11 = v74 := (g305.cell ta0 (by decide +kernel)).trans c123
                have c313 : I302 a0 12 = v78 := (g305.cell ta0 (by decide +kernel)).trans c124
                have c314 : I302 a0 8 = v80 := (g305.cell ta0 (by decide +kernel)).trans c125
                obtain ⟨v315, c316⟩ : ∃ v, I302 a0 9 = v := ⟨_, rfl⟩
                have b317 := iv15_9 hS310.1 ta0 c316
                rw [c316] at p307
                rw [c314] at p308
                rw [c125] at p308
                have ov318 := w309.over (by rw [c293]; exact om_394b70a2 p146)
                obtain ⟨v319, c320⟩ : ∃ v, I302 a0 9 = v := ⟨_, rfl⟩
                have b321 := iv15_9 hS310.1 ta0 c320
                obtain ⟨v322, c323⟩ : ∃ v, I302 a0 13 = v := ⟨_, rfl⟩
                obtain ⟨v324, c325⟩ : ∃ v, I302 a0 14 = v := ⟨_, rfl⟩
                (try rw [c320] at ov318)
                (try rw [c323] at ov318)
                (try rw [c325] at ov318)
                (try rw [c293] at ov318)
                (try rw [c296] at ov318)
                (try rw [c298] at ov318)
                refine tr_aload_n dX12_readRising_50 hl55 ?_
                refine q_callVv hE (M' := mX12_goesOn) (as := []) dX12_readRising_51 lk12_142 inX12_goesOn seX12_goesOn myX12_goesOn (by decide) ⟨by decide, by decide⟩ rfl (kR15 hS310.1 ta0) (Nat.le_of_ble_eq_true rfl) rfl rfl (by decide) (by decide) (k_X12_goesOn hS310.1 ta0) ?_
                rintro cn' K' N' I326 R327 L328 ⟨rfl, rfl, rfl, rfl, g329, p331, p332, p333, w334, -⟩
                have hS335 := hS310.tr g329 (by decide +kernel) (by decide +kernel)
                have c336 : I326 a0 13 = v322 := (g329.cell ta0 (by decide +kernel)).trans c323
                have c337 : I326 a0 14 = v324 := (g329.cell ta0 (by decide +kernel)).trans c325
                obtain ⟨v338, c339⟩ : ∃ v, I326 a0 9 = v := ⟨_, rfl⟩
                have b340 := iv15_9 hS335.1 ta0 c339
                rw [c320] at p331
                rw [c339] at p331
                rw [c320] at p332
                rw [c339] at p332
                obtain ⟨v341, c342⟩ : ∃ v, I326 a0 8 = v := ⟨_, rfl⟩
                have b343 := iv15_8 hS335.1 ta0 c342
                rw [c342] at p333
                rw [c314] at p333
                rw [c336] at p333
                rw [c323] at p333
                have ov344 := w334.over (by rw [c320]; exact om_394b70a2 ov318.1)
                obtain ⟨v345, c346⟩ : ∃ v, I326 a0 9 = v := ⟨_, rfl⟩
                have b347 := iv15_9 hS335.1 ta0 c346
                obtain ⟨v348, c349⟩ : ∃ v, I326 a0 13 = v := ⟨_, rfl⟩
                obtain ⟨v350, c351⟩ : ∃ v, I326 a0 14 = v := ⟨_, rfl⟩
                (try rw [c346] at ov344)
                (try rw [c349] at ov344)
                (try rw [c351] at ov344)
                (try rw [c320] at ov344)
                (try rw [c323] at ov344)
                (try rw [c325] at ov344)
                refine tr_aload_n dX12_readRising_54 hl55 ?_
                refine q_getI dX12_readRising_55 fl12_99 (kR15 hS335.1 ta0) c346 ?_
                refine q_iconst dX12_readRising_58 (by decide) ?_
                intro v352 h353
                refine q_icmp_ne 64 dX12_readRising_59 (by decide) (fun h354 => ?_) (fun h354 => ?_)
                · skip
                  exfalso; exact om_1fa3e129 ov344.1 h353 h354
                · skip
                  refine q_iconst dX12_readRising_62 (by decide) ?_
                  intro v355 h356
                  obtain ⟨v357, c358⟩ : ∃ v, I326 a0 10 = v := ⟨_, rfl⟩
                  have b359 := iv15_10 hS335.1 ta0 c358
                  obtain ⟨v360, c361⟩ : ∃ v, I326 a0 11 = v := ⟨_, rfl⟩
                  obtain ⟨y362, c363⟩ : ∃ v, L328 a0 15 = v := ⟨_, rfl⟩
                  obtain ⟨v364, c365⟩ : ∃ v, I326 a0 12 = v := ⟨_, rfl⟩
                  exact tr_iret hZ dX12_readRising_63 rfl (by decide) (by decide) ⟨v355, rfl, rfl, rfl, rfl, rfl, hS335, (by exact om_7d21acc5 h356), (Or.inr (⟨(by rw [← g82]; simp only [riF, ↓reduceIte]; exact om_62e43f65), (by (try rw [c346]); first | done | with_reducible assumption | exact om_394b70a2 ov344.1), (by (try rw [c349]); rw [← g82]; simp only [riF, ↓reduceIte]; exact om_81a00778 p42 h111 h113 p144 p145 p147 ov318.1 ov318.2.1 p332 p331 b340.2 b340.1 ov344.2.1), (by (try rw [c351]); rw [← g83]; simp only [riP, ↓reduceIte]; exact om_1c22ab7e p148 ov318.2.2 ov344.2.2), trivial⟩)), trivial⟩
      · skip
        obtain ⟨gk105, rfl⟩ : ∃ k, gr65 = k + 1 := ⟨gr65 - 1, by exact om_87755ad8 g88 g89 g90 hz104⟩
        refine tr_iload dX12_readRising_9 hl61 ?_
        refine q_if_eq 92 dX12_readRising_11 (by decide) (fun h366 => ?_) (fun h366 => ?_)
        · skip
          exfalso; exact om_3624102b g85 h366
        · skip
          refine tr_aload_n dX12_readRising_14 hl55 ?_
          refine q_getI dX12_readRising_15 fl12_99 (kR15 hS66.1 ta0) c71 ?_
          refine q_iconst dX12_readRising_18 (by decide) ?_
          intro v367 h368
          refine q_icmp_eq 92 dX12_readRising_19 (by decide) (fun h369 => ?_) (fun h369 => ?_)
          · skip
            exfalso; exact om_590814ed g92 g93 b101.1 h368 h369
          · skip
            refine tr_aload_n dX12_readRising_22 hl55 ?_
            refine tr_iload dX12_readRising_23 hl60 ?_
            refine tr_aload_n dX12_readRising_25 hl55 ?_
            refine tr_getR dX12_readRising_26 fl12_188 (kR15 hS66.1 ta0) d12 ?_
            refine q_getI dX12_readRising_29 fl12_192 (kR14 hS66.1 ta11) ((hS66.cell ta11 (by decide +kernel)).trans c40) ?_
            refine q_iconst dX12_readRising_32 (by decide) ?_
            intro v370 h371
            refine q_isubE dX12_readRising_33 (by intro j1 j2 j3 j4; exact om_329ab692 pre9 b41.2 b41.1 p42 h371) ?_
            intro v372 h373
            refine q_callVi hE (M' := mX12_bounded) (as := [_, _]) dX12_readRising_34 lk12_153 inX12_bounded seX12_bounded myX12_bounded (by decide) ⟨by decide, by decide⟩ rfl (kR15 hS66.1 ta0) (Nat.le_of_ble_eq_true rfl) rfl rfl (by decide) (by decide) (fk_X12_bounded hS66.1 (gB) (gs64) ta0 (by (try rw [c71]); first | done | with_reducible assumption | omega) (by (try rw [c71]); first | done | with_reducible assumption | omega) (by (try rw [c73]); first | done | with_reducible assumption | omega) (by (try rw [c75]); first | done | with_reducible assumption | omega) (by (try rw [c77]); first | done | assumption) (by (try rw [c79]); first | done | assumption) (by (try rw [c81]); first | done | assumption)) ?_
            rintro v379 cn' K' N' I374 R375 L376 ⟨rfl, rfl, rfl, rfl, rfl, g377, dj380, -⟩
            have hS381 := hS66.tr g377 (by decide +kernel) (by decide +kernel)
            have c382 : I374 a0 10 = v72 := (g377.cell ta0 (by decide +kernel)).trans c73
            have c383 : I374 a0 11 = v74 := (g377.cell ta0 (by decide +kernel)).trans c75
            have c384 : I374 a0 12 = v78 := (g377.cell ta0 (by decide +kernel)).trans c79
            have c385 : I374 a0 8 = v80 := (g377.cell ta0 (by decide +kernel)).trans c81
            rcases dj380 with ⟨p386, p387, p388, p389, p390, p391, p392, p393, p394, p395, p396, p397, -⟩ | ⟨p398, p399, p400, p401, p402, -⟩ | ⟨p403, p404, p405, p406, p407, p408, -⟩
            · skip
              obtain ⟨v409, c410⟩ : ∃ v, I374 a0 13 = v := ⟨_, rfl⟩
              rw [c410] at p390
              rw [c69] at p390
              obtain ⟨v411, c412⟩ : ∃ v, I374 a0 9 = v := ⟨_, rfl⟩
              have b413 := iv15_9 hS381.1 ta0 c412
              rw [c412] at p391
              rw [c412] at p392
              rw [c382] at p393
              rw [c383] at p394
              rw [c77] at p395
              rw [c384] at p396
              rw [c385] at p397
              refine tr_istore dX12_readRising_37 (by decide) (by decide) ?_
              refine tr_iload dX12_readRising_39 hl59 ?_
              refine tr_iload_n dX12_readRising_41 hl58 ?_
              refine q_icmp_ne 50 dX12_readRising_42 (by decide) (fun h414 => ?_) (fun h414 => ?_)
              · skip
                refine tr_aload_n dX12_readRising_50 hl55 ?_
                have p415 := p397 (by exact om_cab07503 p387)
                refine q_callVv hE (M' := mX12_goesOn) (as := []) dX12_readRising_51 lk12_142 inX12_goesOn seX12_goesOn myX12_goesOn (by decide) ⟨by decide, by decide⟩ rfl (kR15 hS381.1 ta0) (Nat.le_of_ble_eq_true rfl) rfl rfl (by decide) (by decide) (fk_X12_goesOn hS381.1 (gB) ((tkN gB gs64)) ta0 (TxA.kp hT hS381 ta0 rfl rfl rfl (by decide +kernel) (by decide +kernel)) (by (try rw [c385]); first | done | with_reducible assumption | omega) (by (try rw [((hS381.cell ta0 (by decide +kernel)).trans c36)]); first | done | with_reducible assumption | omega) (by (try rw [c412]); first | done | with_reducible assumption | exact om_25eaf917 g92 g93 b101.1 p391)) ?_
                rintro cn' K' N' I416 R417 L418 ⟨rfl, rfl, rfl, rfl, g419, gl420, p422, p423, p424, p425, p426, p427, p428, -⟩
                have hS429 := hS381.tr g419 (by decide +kernel) (by decide +kernel)
                have c430 : I416 a0 13 = v409 := (g419.cell ta0 (by decide +kernel)).trans c410
                have hL431 := hL67.tr gl420 (by decide +kernel)
                obtain ⟨v432, c433⟩ : ∃ v, I416 a0 9 = v := ⟨_, rfl⟩
                have b434 := iv15_9 hS429.1 ta0 c433
                rw [c433] at p422
                rw [c433] at p423
                obtain ⟨v435, c436⟩ : ∃ v, I416 a0 10 = v := ⟨_, rfl⟩
                have b437 := iv15_10 hS429.1 ta0 c436
                rw [c436] at p424
                obtain ⟨v438, c439⟩ : ∃ v, I416 a0 11 = v := ⟨_, rfl⟩
                rw [c439] at p425
                obtain ⟨y440, c441⟩ : ∃ v, L418 a0 15 = v := ⟨_, rfl⟩
                rw [c441] at p426
                obtain ⟨v442, c443⟩ : ∃ v, I416 a0 12 = v := ⟨_, rfl⟩
                rw [c443] at p427
                obtain ⟨v444, c445⟩ : ∃ v, I416 a0 8 = v := ⟨_, rfl⟩
                have b446 := iv15_8 hS429.1 ta0 c445
                rw [c445] at p428
                refine tr_aload_n dX12_readRising_54 hl55 ?_
                refine q_getI dX12_readRising_55 fl12_99 (kR15 hS429.1 ta0) c433 ?_
                refine q_iconst dX12_readRising_58 (by decide) ?_
                intro v447 h448
                refine q_icmp_ne 64 dX12_readRising_59 (by decide) (fun h449 => ?_) (fun h449 => ?_)
                · skip
                  refine tr_aload_n dX12_readRising_64 hl56 ?_
                  refine tr_iload_n dX12_readRising_65 hl57 ?_
                  refine tr_iload dX12_readRising_66 hl59 ?_
                  refine q_iaddE dX12_readRising_68 (by intro j1 j2 j3 j4; exact om_f4f74c7c hx2.2 hx2.1 g88 g89 g90) ?_
                  intro v450 h451
                  refine tr_iload dX12_readRising_69 rfl ?_
                  refine q_iast dX12_readRising_71 (kR59 hS429.1 ta1) (ti_in (nR59 hS429.1 ta1) (by exact om_c671e9d1 hx2.2 hx2.1 g88 g89 g90 h451) (by exact om_8473069c hx2.2 hx2.1 g88 g89 g90 h451)) hS429 ta1 (by show (0 : Int) ≤ v379.toInt ∧ v379.toInt ≤ (239 : Int); exact om_b00d04b4 pre9 b41.2 b41.1 p42 g86 g87 h371 h373 p386 p388 p389) rfl (by rfl) ?_
                  intro I452 hS453 e455 f454
                  have c456 : I452 a0 13 = v409 := (f454 _ _ (fun q => by have z := ta0; rw [q.1, ta1] at z; exact absurd z (by decide))).trans c430
                  have c457 : I452 a0 9 = v432 := (f454 _ _ (fun q => by have z := ta0; rw [q.1, ta1] at z; exact absurd z (by decide))).trans c433
                  have c458 : I452 a0 10 = v435 := (f454 _ _ (fun q => by have z := ta0; rw [q.1, ta1] at z; exact absurd z (by decide))).trans c436
                  have c459 : I452 a0 11 = v438 := (f454 _ _ (fun q => by have z := ta0; rw [q.1, ta1] at z; exact absurd z (by decide))).trans c439
                  have c460 : I452 a0 12 = v442 := (f454 _ _ (fun q => by have z := ta0; rw [q.1, ta1] at z; exact absurd z (by decide))).trans c443
                  have c461 : I452 a0 8 = v444 := (f454 _ _ (fun q => by have z := ta0; rw [q.1, ta1] at z; exact absurd z (by decide))).trans c445
                  refine q_iincE dX12_readRising_72 hl59 (by decide) (by decide) (by intro j1 j2; exact om_b450b475 hx2.2 hx2.1 g88 g89 g90 h451) ?_
                  intro v462 h463
                  refine tr_iload dX12_readRising_75 rfl ?_
                  refine q_iconst dX12_readRising_77 (by decide) ?_
                  intro v464 h465
                  refine q_iaddE dX12_readRising_78 (by intro j1 j2 j3 j4; exact om_c223b25f pre9 b41.2 b41.1 p42 g86 g87 h371 h373 p386 p388 p389 h465 j1 j2) ?_
                  intro v466 h467
                  refine tr_istore dX12_readRising_79 (by decide) (by decide) ?_
                  refine tr_aload_n dX12_readRising_81 hl55 ?_
                  refine q_bipush dX12_readRising_82 (by decide +kernel) ?_
                  intro v468 h469
                  refine q_callVi hE (M' := mX12_eatsSign) (as := [_]) dX12_readRising_84 lk12_221 inX12_eatsSign seX12_eatsSign myX12_eatsSign (by decide) ⟨by decide, by decide⟩ rfl (kR15 hS453.1 ta0) (Nat.le_of_ble_eq_true rfl) rfl rfl (by decide) (by decide) (fk_X12_eatsSign hS453.1 (gB) ((tkN gB gs64)) ta0 (TxA.kp hT hS453 ta0 rfl rfl rfl (by decide +kernel) (by decide +kernel)) (by (try rw [c457]); first | done | with_reducible assumption | omega) (by (try rw [c457]); first | done | with_reducible assumption | omega) (by (try rw [c458]); first | done | with_reducible assumption | omega) (by (try rw [c459]); first | done | with_reducible assumption | omega) (by (try rw [c441]); first | done | assumption) (by (try rw [c460]); first | done | assumption) (by (try rw [c461]); first | done | assumption) (by (try rw [((hS453.cell ta0 (by decide +kernel)).trans c36)]); first | done | with_reducible assumption | omega) (by first | done | with_reducible assumption | exact om_00f2e567 h469)) ?_
                  rintro v475 cn' K' N' I470 R471 L472 ⟨rfl, rfl, rfl, rfl, g473, gl474, h476, dj477, -⟩
                  have hS478 := hS453.tr g473 (by decide +kernel) (by decide +kernel)
                  have c479 : I470 a0 13 = v409 := (g473.cell ta0 (by decide +kernel)).trans c456
                  have hL480 := hL431.tr gl474 (by decide +kernel)
                  rcases dj477 with ⟨p481, p482, p483, p484, p485, p486, p487, p488, p489, p490, -⟩ | ⟨p491, p492, p493, p494, p495, p496, p497, p498, p499, p500, -⟩
                  · skip
                    rw [c479] at p483
                    rw [c456] at p483
                    obtain ⟨v501, c502⟩ : ∃ v, I470 a0 9 = v := ⟨_, rfl⟩
                    have b503 := iv15_9 hS478.1 ta0 c502
                    rw [c502] at p484
                    rw [c502] at p485
                    obtain ⟨v504, c505⟩ : ∃ v, I470 a0 10 = v := ⟨_, rfl⟩
                    have b506 := iv15_10 hS478.1 ta0 c505
                    rw [c505] at p486
                    obtain ⟨v507, c508⟩ : ∃ v, I470 a0 11 = v := ⟨_, rfl⟩
                    rw [c508] at p487
                    obtain ⟨y509, c510⟩ : ∃ v, L472 a0 15 = v := ⟨_, rfl⟩
                    rw [c510] at p488
                    obtain ⟨v511, c512⟩ : ∃ v, I470 a0 12 = v := ⟨_, rfl⟩
                    rw [c512] at p489
                    obtain ⟨v513, c514⟩ : ∃ v, I470 a0 8 = v := ⟨_, rfl⟩
                    have b515 := iv15_8 hS478.1 ta0 c514
                    rw [c514] at p490
                    refine tr_istore dX12_readRising_87 (by decide) (by decide) ?_
                    refine tr_goto 9 dX12_readRising_89 (by decide) ?_
                    exact ih99 _ v462 v466 v475 I470 L472 ((tkN gB (tkN gB gs64))) (gk105) v409 v501 v504 v507 y509 v511 v513 hl55 hl56 hl57 hl58 rfl rfl rfl hS478 hL480 c479 c502 c505 c508 c510 c512 c514 (by rw [← g82]; simp only [riF, ↓reduceIte]; rw [show v466.toInt = tkV gB gs64 + 1 by exact om_58c7f992 p386 h465 h467]; repeat' (first | split | omega)) (by rw [← g83]; simp only [riP, ↓reduceIte]; rw [show v466.toInt = tkV gB gs64 + 1 by exact om_58c7f992 p386 h465 h467]; repeat' (first | split | omega)) (by rw [← g84]; simp only [riS, ↓reduceIte]; rw [show v466.toInt = tkV gB gs64 + 1 by exact om_58c7f992 p386 h465 h467]; repeat' (first | split | omega)) (by exact om_ee8a1e2d p481) (by exact om_63134851 g86 g87 p386 p388 h465 h467) (by exact om_8691eab6 pre9 b41.2 b41.1 p42 h371 h373 p386 p389 h465 h467) (by exact om_239de380 hx2.2 hx2.1 g88 g89 g90 h451 h463) (by exact om_99b29e81 hx2.2 hx2.1 g88 g89 g90 h451 h463) (by exact om_3047ba39 hx2.2 hx2.1 g90 h451 h463) (by exact om_9fa72578 g91 p390) (by exact om_acd7a85a p484) (by exact om_fc4b6669 p485) (by exact om_acd7a85a p486) (by exact om_acd7a85a p487) (by assumption) (by assumption) (by assumption) (by exact om_a4a64cc6 hx2.2 hx2.1 hx3.2 hx3.1 g85 g88 g89 g92 g93 hm99 b101.1 g90 h366 h368 h369 p391 h414 p423 p422 b434.1 h448 h449 h451 h463)
                  · skip
                    rw [c479] at p493
                    rw [c456] at p493
                    obtain ⟨v516, c517⟩ : ∃ v, I470 a0 9 = v := ⟨_, rfl⟩
                    have b518 := iv15_9 hS478.1 ta0 c517
                    rw [c517] at p494
                    rw [c517] at p495
                    obtain ⟨v519, c520⟩ : ∃ v, I470 a0 10 = v := ⟨_, rfl⟩
                    have b521 := iv15_10 hS478.1 ta0 c520
                    rw [c520] at p496
                    obtain ⟨v522, c523⟩ : ∃ v, I470 a0 11 = v := ⟨_, rfl⟩
                    rw [c523] at p497
                    obtain ⟨y524, c525⟩ : ∃ v, L472 a0 15 = v := ⟨_, rfl⟩
                    rw [c525] at p498
                    obtain ⟨v526, c527⟩ : ∃ v, I470 a0 12 = v := ⟨_, rfl⟩
                    rw [c527] at p499
                    obtain ⟨v528, c529⟩ : ∃ v, I470 a0 8 = v := ⟨_, rfl⟩
                    have b530 := iv15_8 hS478.1 ta0 c529
                    rw [c529] at p500
                    refine tr_istore dX12_readRising_87 (by decide) (by decide) ?_
                    refine tr_goto 9 dX12_readRising_89 (by decide) ?_
                    refine tr_iload dX12_readRising_9 rfl ?_
                    refine q_if_eq 92 dX12_readRising_11 (by decide) (fun h531 => ?_) (fun h531 => ?_)
                    · skip
                      refine tr_iload dX12_readRising_92 rfl ?_
                      have es532 : riS gB gQ 8 0 gs = (tkN gB gs64) := by rw [← g84]; simp only [riS, ↓reduceIte]; exact om_f7ae9107 h469 p492
                      obtain ⟨v533, c534⟩ : ∃ v, I470 a0 14 = v := ⟨_, rfl⟩
                      exact tr_iret hZ dX12_readRising_94 rfl (by decide) (by decide) ⟨v462, rfl, rfl, rfl, rfl, rfl, hS478, (by exact om_bb5e1d6b hx2.2 hx2.1 g88 g89 g90 h451 h463), (Or.inl ⟨(by rw [← g82]; simp only [riF, ↓reduceIte]; exact om_bd7149ef p42 h371 h373 p386 p387 p388 p389 h465 h467 h469 p492), (by (try rw [es532]); (try rw [c479]); (try rw [c45]); first | done | with_reducible assumption | exact om_9fa72578 g91 p390), (by (try rw [es532]); (try rw [c517]); first | done | with_reducible assumption | omega), (by (try rw [es532]); (try rw [c517]); first | done | with_reducible assumption | omega), (by (try rw [es532]); (try rw [c520]); first | done | with_reducible assumption | omega), (by (try rw [es532]); (try rw [c523]); first | done | with_reducible assumption | omega), (by (try rw [es532]); (try rw [c525]); first | done | assumption), (by (try rw [es532]); (try rw [c527]); first | done | assumption), (by (try rw [es532]); (try rw [c529]); first | done | assumption), hL480, trivial⟩), trivial⟩
                    · skip
                      exfalso; exact om_3a97d4a5 p491 h531
                · skip
                  exfalso; exact om_99cda0b7 p423 p422 b434.1 h448 h449
              · skip
                exfalso; exact om_e38065c1 hx3.2 hx3.1 g88 g89 g90 h414
            · skip
              obtain ⟨v535, c536⟩ : ∃ v, I374 a0 9 = v := ⟨_, rfl⟩
              have b537 := iv15_9 hS381.1 ta0 c536
              rw [c536] at p400
              obtain ⟨v538, c539⟩ : ∃ v, I374 a0 13 = v := ⟨_, rfl⟩
              rw [c539] at p401
              obtain ⟨v540, c541⟩ : ∃ v, I374 a0 14 = v := ⟨_, rfl⟩
              rw [c541] at p402
              refine tr_istore dX12_readRising_37 (by decide) (by decide) ?_
              refine tr_iload dX12_readRising_39 hl59 ?_
              refine tr_iload_n dX12_readRising_41 hl58 ?_
              refine q_icmp_ne 50 dX12_readRising_42 (by decide) (fun h542 => ?_) (fun h542 => ?_)
              · skip
                refine tr_aload_n dX12_readRising_50 hl55 ?_
                refine q_callVv hE (M' := mX12_goesOn) (as := []) dX12_readRising_51 lk12_142 inX12_goesOn seX12_goesOn myX12_goesOn (by decide) ⟨by decide, by decide⟩ rfl (kR15 hS381.1 ta0) (Nat.le_of_ble_eq_true rfl) rfl rfl (by decide) (by decide) (k_X12_goesOn hS381.1 ta0) ?_
                rintro cn' K' N' I543 R544 L545 ⟨rfl, rfl, rfl, rfl, g546, p548, p549, p550, w551, -⟩
                have hS552 := hS381.tr g546 (by decide +kernel) (by decide +kernel)
                have c553 : I543 a0 13 = v538 := (g546.cell ta0 (by decide +kernel)).trans c539
                have c554 : I543 a0 14 = v540 := (g546.cell ta0 (by decide +kernel)).trans c541
                obtain ⟨v555, c556⟩ : ∃ v, I543 a0 9 = v := ⟨_, rfl⟩
                have b557 := iv15_9 hS552.1 ta0 c556
                rw [c536] at p548
                rw [c556] at p548
                rw [c536] at p549
                rw [c556] at p549
                obtain ⟨v558, c559⟩ : ∃ v, I543 a0 8 = v := ⟨_, rfl⟩
                have b560 := iv15_8 hS552.1 ta0 c559
                rw [c559] at p550
                rw [c385] at p550
                rw [c553] at p550
                rw [c539] at p550
                have ov561 := w551.over (by rw [c536]; exact om_394b70a2 p400)
                obtain ⟨v562, c563⟩ : ∃ v, I543 a0 9 = v := ⟨_, rfl⟩
                have b564 := iv15_9 hS552.1 ta0 c563
                obtain ⟨v565, c566⟩ : ∃ v, I543 a0 13 = v := ⟨_, rfl⟩
                obtain ⟨v567, c568⟩ : ∃ v, I543 a0 14 = v := ⟨_, rfl⟩
                (try rw [c563] at ov561)
                (try rw [c566] at ov561)
                (try rw [c568] at ov561)
                (try rw [c536] at ov561)
                (try rw [c539] at ov561)
                (try rw [c541] at ov561)
                refine tr_aload_n dX12_readRising_54 hl55 ?_
                refine q_getI dX12_readRising_55 fl12_99 (kR15 hS552.1 ta0) c563 ?_
                refine q_iconst dX12_readRising_58 (by decide) ?_
                intro v569 h570
                refine q_icmp_ne 64 dX12_readRising_59 (by decide) (fun h571 => ?_) (fun h571 => ?_)
                · skip
                  exfalso; exact om_1fa3e129 ov561.1 h570 h571
                · skip
                  refine q_iconst dX12_readRising_62 (by decide) ?_
                  intro v572 h573
                  obtain ⟨v574, c575⟩ : ∃ v, I543 a0 10 = v := ⟨_, rfl⟩
                  have b576 := iv15_10 hS552.1 ta0 c575
                  obtain ⟨v577, c578⟩ : ∃ v, I543 a0 11 = v := ⟨_, rfl⟩
                  obtain ⟨y579, c580⟩ : ∃ v, L545 a0 15 = v := ⟨_, rfl⟩
                  obtain ⟨v581, c582⟩ : ∃ v, I543 a0 12 = v := ⟨_, rfl⟩
                  exact tr_iret hZ dX12_readRising_63 rfl (by decide) (by decide) ⟨v572, rfl, rfl, rfl, rfl, rfl, hS552, (by exact om_7d21acc5 h573), (Or.inr (⟨(by rw [← g82]; simp only [riF, ↓reduceIte]; exact om_fd03680b p399), (by (try rw [c563]); first | done | with_reducible assumption | exact om_394b70a2 ov561.1), (by (try rw [c566]); rw [← g82]; simp only [riF, ↓reduceIte]; exact om_807ede3a p399 p401 ov561.2.1), (by (try rw [c568]); rw [← g83]; simp only [riP, ↓reduceIte]; exact om_c9eafa42 p399 p402 ov561.2.2), trivial⟩)), trivial⟩
              · skip
                exfalso; exact om_e38065c1 hx3.2 hx3.1 g88 g89 g90 h542
            · skip
              obtain ⟨v583, c584⟩ : ∃ v, I374 a0 9 = v := ⟨_, rfl⟩
              have b585 := iv15_9 hS381.1 ta0 c584
              rw [c584] at p406
              obtain ⟨v586, c587⟩ : ∃ v, I374 a0 13 = v := ⟨_, rfl⟩
              rw [c587] at p407
              obtain ⟨v588, c589⟩ : ∃ v, I374 a0 14 = v := ⟨_, rfl⟩
              rw [c589] at p408
              refine tr_istore dX12_readRising_37 (by decide) (by decide) ?_
              refine tr_iload dX12_readRising_39 hl59 ?_
              refine tr_iload_n dX12_readRising_41 hl58 ?_
              refine q_icmp_ne 50 dX12_readRising_42 (by decide) (fun h590 => ?_) (fun h590 => ?_)
              · skip
                refine tr_aload_n dX12_readRising_50 hl55 ?_
                refine q_callVv hE (M' := mX12_goesOn) (as := []) dX12_readRising_51 lk12_142 inX12_goesOn seX12_goesOn myX12_goesOn (by decide) ⟨by decide, by decide⟩ rfl (kR15 hS381.1 ta0) (Nat.le_of_ble_eq_true rfl) rfl rfl (by decide) (by decide) (k_X12_goesOn hS381.1 ta0) ?_
                rintro cn' K' N' I591 R592 L593 ⟨rfl, rfl, rfl, rfl, g594, p596, p597, p598, w599, -⟩
                have hS600 := hS381.tr g594 (by decide +kernel) (by decide +kernel)
                have c601 : I591 a0 13 = v586 := (g594.cell ta0 (by decide +kernel)).trans c587
                have c602 : I591 a0 14 = v588 := (g594.cell ta0 (by decide +kernel)).trans c589
                obtain ⟨v603, c604⟩ : ∃ v, I591 a0 9 = v := ⟨_, rfl⟩
                have b605 := iv15_9 hS600.1 ta0 c604
                rw [c584] at p596
                rw [c604] at p596
                rw [c584] at p597
                rw [c604] at p597
                obtain ⟨v606, c607⟩ : ∃ v, I591 a0 8 = v := ⟨_, rfl⟩
                have b608 := iv15_8 hS600.1 ta0 c607
                rw [c607] at p598
                rw [c385] at p598
                rw [c601] at p598
                rw [c587] at p598
                have ov609 := w599.over (by rw [c584]; exact om_394b70a2 p406)
                obtain ⟨v610, c611⟩ : ∃ v, I591 a0 9 = v := ⟨_, rfl⟩
                have b612 := iv15_9 hS600.1 ta0 c611
                obtain ⟨v613, c614⟩ : ∃ v, I591 a0 13 = v := ⟨_, rfl⟩
                obtain ⟨v615, c616⟩ : ∃ v, I591 a0 14 = v := ⟨_, rfl⟩
                (try rw [c611] at ov609)
                (try rw [c614] at ov609)
                (try rw [c616] at ov609)
                (try rw [c584] at ov609)
                (try rw [c587] at ov609)
                (try rw [c589] at ov609)
                refine tr_aload_n dX12_readRising_54 hl55 ?_
                refine q_getI dX12_readRising_55 fl12_99 (kR15 hS600.1 ta0) c611 ?_
                refine q_iconst dX12_readRising_58 (by decide) ?_
                intro v617 h618
                refine q_icmp_ne 64 dX12_readRising_59 (by decide) (fun h619 => ?_) (fun h619 => ?_)
                · skip
                  exfalso; exact om_1fa3e129 ov609.1 h618 h619
                · skip
                  refine q_iconst dX12_readRising_62 (by decide) ?_
                  intro v620 h621
                  obtain ⟨v622, c623⟩ : ∃ v, I591 a0 10 = v := ⟨_, rfl⟩
                  have b624 := iv15_10 hS600.1 ta0 c623
                  obtain ⟨v625, c626⟩ : ∃ v, I591 a0 11 = v := ⟨_, rfl⟩
                  obtain ⟨y627, c628⟩ : ∃ v, L593 a0 15 = v := ⟨_, rfl⟩
                  obtain ⟨v629, c630⟩ : ∃ v, I591 a0 12 = v := ⟨_, rfl⟩
                  exact tr_iret hZ dX12_readRising_63 rfl (by decide) (by decide) ⟨v620, rfl, rfl, rfl, rfl, rfl, hS600, (by exact om_7d21acc5 h621), (Or.inr (⟨(by rw [← g82]; simp only [riF, ↓reduceIte]; exact om_39432413 hx3.2 hx3.1 p42 g88 g89 g90 h371 h373 p405 p406 h590 p597 p596 b605.2 b605.1), (by (try rw [c611]); first | done | with_reducible assumption | exact om_394b70a2 ov609.1), (by (try rw [c614]); rw [← g82]; simp only [riF, ↓reduceIte]; exact om_eb7e54a4 hx3.2 hx3.1 p42 g88 g89 g90 h371 h373 p404 p405 p406 p407 h590 p597 p596 b605.2 b605.1 ov609.2.1), (by (try rw [c616]); rw [← g83]; simp only [riP, ↓reduceIte]; exact om_fe700500 hx3.2 hx3.1 p42 g88 g89 g94 b102.2 b102.1 g90 h371 h373 p405 p406 p408 h590 p597 p596 b605.2 b605.1 ov609.2.2), trivial⟩)), trivial⟩
              · skip
                exfalso; exact om_e38065c1 hx3.2 hx3.1 g88 g89 g90 h590
  exact lp99 _ _ v46 v48 v50 I0 L0 (gs) (8) v44 v13 v18 v22 y25 v28 v31 rfl rfl rfl rfl rfl rfl rfl hS0 hL0 c45 c14 c19 c23 c26 c29 c32 (by first | rfl | (congr 1; omega) | (congr 2 <;> omega)) (by first | rfl | (congr 1; omega) | (congr 2 <;> omega)) (by first | rfl | (congr 1; omega) | (congr 2 <;> omega)) (by exact om_ee8a1e2d h51) (by exact om_d99fa9e4 h49) (by exact om_4c96df26 h49) (by exact om_d99fa9e4 h47) (by exact om_91231c9d h47) (by exact om_45513e8b h47) (by exact om_4ee7209a) (by exact om_acd7a85a p16) (by exact om_fc4b6669 p17) (by exact om_acd7a85a p21) (by exact om_acd7a85a p24) (by assumption) (by assumption) (by assumption) (Nat.lt_succ_self _)
def wik_X12_readAlmanac : List Nat := [904, 905, 968, 969, 970, 971, 972, 973, 974, 3839]
def wrk_X12_readAlmanac : List Nat := []
def wlk_X12_readAlmanac : List Nat := [975]
set_option maxHeartbeats 4000000 in
theorem fk_X12_readAlmanac {l : Launch} {T : Nat → Nat} {cn : Nat} {K N : Nat → Nat} {I0 : cz_I} {R0 : cz_R} {L0 : cz_L} (hW0 : Wf T cn K N I0 R0 0) (gB : cz_B) (gs : Int) (gQ : Nat → Int) {a0 : Nat} (ta0 : T a0 = 15) (hT : ∀ t, R0 a0 5 = some t → Tx I0 t gB) (hN : ∀ b, R0 a0 4 = some b → NmM I0 R0 L0 b gQ) (pre0 : (I0 a0 9).toInt = (tkM gB gs)) (pre1 : (I0 a0 9).toInt ≤ 4) (pre2 : (I0 a0 10).toInt = (tkS gB gs)) (pre3 : (I0 a0 11).toInt = (tkG gB gs)) (pre4 : (AtW ((tkK gB gs)) ((L0 a0 15).toInt) ((tkW gB gs)))) (pre5 : (AtV ((tkK gB gs)) ((I0 a0 12).toInt) ((tkV gB gs)))) (pre6 : (AtN ((tkK gB gs)) ((I0 a0 8).toInt) ((tkN gB gs)))) (pre7 : (I0 a0 7).toInt = (gB.2)) (pre8 : ∀ b1, R0 a0 4 = some b1 → (I0 b1 0).toInt = (gQ 0)) (pre9 : ∀ b1, R0 a0 4 = some b1 → (I0 b1 1).toInt = (gQ 1)) (pre10 : ∀ b1, R0 a0 4 = some b1 → (I0 b1 2).toInt = (gQ 2)) (pre11 : ∀ b1, R0 a0 4 = some b1 → (I0 b1 3).toInt = (gQ 3)) (pre12 : ∀ b1, R0 a0 4 = some b1 → (I0 b1 4).toInt = (gQ 4)) (pre13 : ∀ b1, R0 a0 4 = some b1 → (I0 b1 5).toInt = (gQ 5)) (pre14 : ∀ b1, R0 a0 4 = some b1 → (I0 b1 6).toInt = (gQ 6)) (pre15 : ∀ b1, R0 a0 4 = some b1 → (I0 b1 9).toInt = (gQ 8)) (pre16 : (Q7M ((gQ 0)) ((gQ 7)))) (pre17 : (tkK gB gs) = 1) (pre18 : (srt gB gs) = 6) (nn4 : ∃ b, R0 a0 4 = some b) : ConE l mX12_readAlmanac [.ref a0] cn K N I0 R0 L0 (ca_v (fun cn' K' N' I' R' L' => cn = cn' ∧ K = K' ∧ N = N' ∧ R0 = R' ∧ St T cn K N 0 wik_X12_readAlmanac wrk_X12_readAlmanac I0 R0 I' R0 ∧ (∀ dr, R0 a0 4 = some dr → FrO 14 dr T I0 I') ∧ ((((lnF gB gQ gs) = 0) ∧ (∀ b1, R0 a0 4 = some b1 → (I' b1 0).toInt = (lnQ gB gQ gs 0)) ∧ (∀ b1, R0 a0 4 = some b1 → (I' b1 1).toInt = (lnQ gB gQ gs 1)) ∧ (∀ b1, R0 a0 4 = some b1 → (I' b1 2).toInt = (lnQ gB gQ gs 2)) ∧ (∀ b1, R0 a0 4 = some b1 → (I' b1 3).toInt = (lnQ gB gQ gs 3)) ∧ (∀ b1, R0 a0 4 = some b1 → (I' b1 4).toInt = (lnQ gB gQ gs 4)) ∧ (∀ b1, R0 a0 4 = some b1 → (I' b1 5).toInt = (lnQ gB gQ gs 5)) ∧ (∀ b1, R0 a0 4 = some b1 → (I' b1 6).toInt = (lnQ gB gQ gs 6)) ∧ (∀ b1, R0 a0 4 = some b1 → (I' b1 9).toInt = (lnQ gB gQ gs 8)) ∧ ((I' a0 13).toInt = (I0 a0 13).toInt) ∧ ((I' a0 9).toInt = (tkM gB (lnS gB gQ gs))) ∧ ((I' a0 9).toInt ≤ 4) ∧ ((I' a0 10).toInt = (tkS gB (lnS gB gQ gs))) ∧ ((I' a0 11).toInt = (tkG gB (lnS gB gQ gs))) ∧ ((AtW ((tkK gB (lnS gB gQ gs))) ((L' a0 15).toInt) ((tkW gB (lnS gB gQ gs))))) ∧ ((AtV ((tkK gB (lnS gB gQ gs))) ((I' a0 12).toInt) ((tkV gB (lnS gB gQ gs))))) ∧ ((AtN ((tkK gB (lnS gB gQ gs))) ((I' a0 8).toInt) ((tkN gB (lnS gB gQ gs))))) ∧ LgS T wlk_X12_readAlmanac L0 L' ∧ (∀ b, R0 a0 4 = some b → NmM I' R0 L' b (lnQ gB gQ gs)) ∧ True) ∨ (((lnF gB gQ gs) ≠ 0) ∧ ((I' a0 9).toInt = 5) ∧ ((I' a0 13).toInt = (lnF gB gQ gs)) ∧ ((I' a0 14).toInt = (lnP gB gQ gs)) ∧ True)) ∧ True)) := by
  refine ConE.of (by decide +kernel) rfl (Nat.le_of_ble_eq_true rfl) rfl (fun X hX hZ hE => ?_)
  subst hX
  have hS0 : St T cn K N 0 wik_X12_readAlmanac wrk_X12_readAlmanac I0 R0 I0 R0 := St.rf0 hW0
  have hL0 : LgS T wlk_X12_readAlmanac L0 L0 := LgS.rf0
  obtain ⟨a1, d2⟩ := nn4
  have ta1 : T a1 = 14 := hW0.rsN ta0 rfl d2
  obtain ⟨v3, c4⟩ : ∃ v, I0 a0 9 = v := ⟨_, rfl⟩
  have b5 := iv15_9 hS0.1 ta0 c4
  have p6 := pre0
  rw [c4] at p6
  have p7 := pre1
  rw [c4] at p7
  obtain ⟨v8, c9⟩ : ∃ v, I0 a0 10 = v := ⟨_, rfl⟩
  have b10 := iv15_10 hS0.1 ta0 c9
  have p11 := pre2
  rw [c9] at p11
  obtain ⟨v12, c13⟩ : ∃ v, I0 a0 11 = v := ⟨_, rfl⟩
  have p14 := pre3
  rw [c13] at p14
  obtain ⟨y15, c16⟩ : ∃ v, L0 a0 15 = v := ⟨_, rfl⟩
  have p17 := pre4
  rw [c16] at p17
  obtain ⟨v18, c19⟩ : ∃ v, I0 a0 12 = v := ⟨_, rfl⟩
  have p20 := pre5
  rw [c19] at p20
  obtain ⟨v21, c22⟩ : ∃ v, I0 a0 8 = v := ⟨_, rfl⟩
  have b23 := iv15_8 hS0.1 ta0 c22
  have p24 := pre6
  rw [c22] at p24
  obtain ⟨v25, c26⟩ : ∃ v, I0 a0 7 = v := ⟨_, rfl⟩
  have b27 := iv15_7 hW0 ta0 c26
  have p28 := pre7
  rw [c26] at p28
  obtain ⟨v29, c30⟩ : ∃ v, I0 a1 0 = v := ⟨_, rfl⟩
  have b31 := iv14_0 hW0 ta1 c30
  have p32 := pre8 _ d2
  rw [c30] at p32
  obtain ⟨v33, c34⟩ : ∃ v, I0 a1 1 = v := ⟨_, rfl⟩
  have b35 := iv14_1 hW0 ta1 c34
  have p36 := pre9 _ d2
  rw [c34] at p36
  obtain ⟨v37, c38⟩ : ∃ v, I0 a1 2 = v := ⟨_, rfl⟩
  have b39 := iv14_2 hW0 ta1 c38
  have p40 := pre10 _ d2
  rw [c38] at p40
  obtain ⟨v41, c42⟩ : ∃ v, I0 a1 3 = v := ⟨_, rfl⟩
  have b43 := iv14_3 hW0 ta1 c42
  have p44 := pre11 _ d2
  rw [c42] at p44
  obtain ⟨v45, c46⟩ : ∃ v, I0 a1 4 = v := ⟨_, rfl⟩
  have b47 := iv14_4 hW0 ta1 c46
  have p48 := pre12 _ d2
  rw [c46] at p48
  obtain ⟨v49, c50⟩ : ∃ v, I0 a1 5 = v := ⟨_, rfl⟩
  have b51 := iv14_5 hW0 ta1 c50
  have p52 := pre13 _ d2
  rw [c50] at p52
  obtain ⟨v53, c54⟩ : ∃ v, I0 a1 6 = v := ⟨_, rfl⟩
  have b55 := iv14_6 hW0 ta1 c54
  have p56 := pre14 _ d2
  rw [c54] at p56
  obtain ⟨v57, c58⟩ : ∃ v, I0 a1 9 = v := ⟨_, rfl⟩
  have b59 := iv14_9 hS0.1 ta1 c58
  have p60 := pre15 _ d2
  rw [c58] at p60
  have p61 := pre16
  have p62 := pre17
  have p63 := pre18
  obtain ⟨v64, c65⟩ : ∃ v, I0 a0 13 = v := ⟨_, rfl⟩
  have hM0 := hN _ d2
  have hO0 : FrO 14 a1 T I0 I0 := FrO.rf
  have hF := lnF_ch gB gQ gs
  have hP := lnP_ch gB gQ gs
  replace hF := hF.neg (by exact om_6b5925eb pre18)
  replace hP := hP.neg (by exact om_6b5925eb pre18)
  refine tr_aload_n dX12_readAlmanac_0 rfl ?_
  refine tr_getR dX12_readAlmanac_1 fl12_188 (kR15 hS0.1 ta0) d2 ?_
  refine q_getZ dX12_readAlmanac_4 fl12_302 (kR14 hS0.1 ta1) c58 ?_
  refine q_if_eq 15 dX12_readAlmanac_7 (by decide) (fun h66 => ?_) (fun h66 => ?_)
  · skip
    replace hF := hF.neg (by exact om_e3ee9c4d pre18 p60 h66)
    replace hP := hP.neg (by exact om_e3ee9c4d pre18 p60 h66)
    refine tr_aload_n dX12_readAlmanac_15 rfl ?_
    refine q_iconst dX12_readAlmanac_16 (by decide) ?_
    intro v67 h68
    refine q_iconst dX12_readAlmanac_17 (by decide) ?_
    intro v69 h70
    refine q_callVv hE (M' := mX12_begins) (as := [_, _]) dX12_readAlmanac_18 lk12_268 inX12_begins seX12_begins myX12_begins (by decide) ⟨by decide, by decide⟩ rfl (kR15 hS0.1 ta0) (Nat.le_of_ble_eq_true rfl) rfl rfl (by decide) (by decide) (fk_X12_begins hS0.1 (gB) (gs) (gQ) ta0 (TxA.kp hT hS0 ta0 rfl rfl rfl (by decide +kernel) (by decide +kernel)) (by (try rw [c4]); first | done | with_reducible assumption | omega) (by (try rw [c4]); first | done | with_reducible assumption | omega) (by (try rw [c9]); first | done | with_reducible assumption | omega) (by (try rw [c13]); first | done | with_reducible assumption | omega) (by (try rw [c16]); first | done | assumption) (by (try rw [c19]); first | done | assumption) (by (try rw [c22]); first | done | assumption) (by (try rw [c26]); first | done | with_reducible assumption | omega) (fun q0 z0 => by obtain rfl := Option.some.inj ((d2).symm.trans z0); (try rw [c30]); first | done | with_reducible assumption | omega) (by first | done | with_reducible assumption | omega) ⟨_, d2⟩) ?_
    rintro cn' K' N' I71 R72 L73 ⟨rfl, rfl, rfl, rfl, g74, dj77, -⟩
    have hM78 : NmM I71 R0 L0 a1 gQ := NmM.kpS hM0 g74 hS0.1 ta1 (by decide +kernel) (by decide +kernel)
    have hS79 := hS0.tr g74 (by decide +kernel) (by decide +kernel)
    have c80 : I71 a1 9 = v57 := (g74.cell ta1 (by decide +kernel)).trans c58
    have hO81 : FrO 14 a1 T I0 I71 := hO0.st g74 (by decide +kernel)
    rcases dj77 with ⟨p82, p83, p84, p85, p86, p87, p88, p89, p90, p91, gl92, -⟩ | ⟨p93, p94, p95, p96, -⟩ | ⟨p97, p98, p99, p100, p101, -⟩
    · skip
      have hL102 := hL0.tr gl92 (by decide +kernel)
      have hM103 : NmM I71 R0 L73 a1 gQ := NmM.kpL hM78 gl92 hS79.1 ta1 (by decide +kernel)
      obtain ⟨v104, c105⟩ : ∃ v, I71 a0 13 = v := ⟨_, rfl⟩
      rw [c105] at p84
      rw [c65] at p84
      obtain ⟨v106, c107⟩ : ∃ v, I71 a0 9 = v := ⟨_, rfl⟩
      have b108 := iv15_9 hS79.1 ta0 c107
      rw [c107] at p85
      rw [c107] at p86
      obtain ⟨v109, c110⟩ : ∃ v, I71 a0 10 = v := ⟨_, rfl⟩
      have b111 := iv15_10 hS79.1 ta0 c110
      rw [c110] at p87
      obtain ⟨v112, c113⟩ : ∃ v, I71 a0 11 = v := ⟨_, rfl⟩
      rw [c113] at p88
      obtain ⟨y114, c115⟩ : ∃ v, L73 a0 15 = v := ⟨_, rfl⟩
      rw [c115] at p89
      obtain ⟨v116, c117⟩ : ∃ v, I71 a0 12 = v := ⟨_, rfl⟩
      rw [c117] at p90
      obtain ⟨v118, c119⟩ : ∃ v, I71 a0 8 = v := ⟨_, rfl⟩
      have b120 := iv15_8 hS79.1 ta0 c119
      rw [c119] at p91
      have p121 := p61
      unfold Q7M at p121
      replace hF := hF.neg (by exact om_29dee3b2 pre18)
      replace hP := hP.neg (by exact om_29dee3b2 pre18)
      replace hF := hF.neg (by exact om_841b6ac6 pre18 p83 p121)
      replace hP := hP.neg (by exact om_841b6ac6 pre18 p83 p121)
      clear p121
      obtain ⟨w122, w123, w124, w125, w126, w127, w128, w129, w130, w131, w132, w133⟩ := lnl_6 (B := gB) (Q := gQ) (s := gs) (by exact om_820c5a14 p63)
      replace hF := hF.to w122 (show ChE (riF gB gQ 8 0 (tkN gB gs)) (riF gB gQ 8 0 (tkN gB gs)) from rfl)
      replace hP := hP.to w123 (show ChE (riP gB gQ 8 0 (tkN gB gs)) (riP gB gQ 8 0 (tkN gB gs)) from rfl)
      refine tr_aload_n dX12_readAlmanac_21 rfl ?_
      refine tr_aload_n dX12_readAlmanac_22 rfl ?_
      refine tr_getR dX12_readAlmanac_23 fl12_188 (kR15 hS79.1 ta0) d2 ?_
      obtain ⟨a134, d135, ta134⟩ := rf14_16 hW0 ta1
      refine tr_getR dX12_readAlmanac_26 fl12_306 (kR14 hS79.1 ta1) d135 ?_
      refine q_iconst dX12_readAlmanac_29 (by decide) ?_
      intro v136 h137
      refine q_bipush dX12_readAlmanac_30 (by decide +kernel) ?_
      intro v138 h139
      refine q_callVi hE (M' := mX12_readRising) (as := [_, _, _]) dX12_readAlmanac_32 lk12_308 inX12_readRising seX12_readRising myX12_readRising (by decide) ⟨by decide, by decide⟩ rfl (kR15 hS79.1 ta0) (Nat.le_of_ble_eq_true rfl) rfl rfl (by decide) (by decide) (fk_X12_readRising hS79.1 (gB) ((tkN gB gs)) (gQ) ta0 ta134 (by exact om_615c7989 h137) (by exact om_abb56aaf h139) (TxA.kp hT hS79 ta0 rfl rfl rfl (by decide +kernel) (by decide +kernel)) (by (try rw [c107]); first | done | with_reducible assumption | omega) (by (try rw [c107]); first | done | with_reducible assumption | omega) (by (try rw [c110]); first | done | with_reducible assumption | omega) (by (try rw [c113]); first | done | with_reducible assumption | omega) (by (try rw [c115]); first | done | assumption) (by (try rw [c117]); first | done | assumption) (by (try rw [c119]); first | done | assumption) (by (try rw [((hS79.cell ta0 (by decide +kernel)).trans c26)]); first | done | with_reducible assumption | omega) (fun q0 z0 => by obtain rfl := Option.some.inj ((d2).symm.trans z0); (try rw [((hS79.cell ta1 (by decide +kernel)).trans c30)]); first | done | with_reducible assumption | omega) (by first | done | with_reducible assumption | exact om_6c62a19e b31.2 b31.1 p32 p83 w125) ⟨_, d2⟩) ?_
      rintro v145 cn' K' N' I140 R141 L142 ⟨rfl, rfl, rfl, rfl, g143, h146, dj147, -⟩
      have hM148 : NmM I140 R0 L73 a1 gQ := NmM.kpS hM103 g143 hS79.1 ta1 (by decide +kernel) (by decide +kernel)
      have hS149 := hS79.tr g143 (by decide +kernel) (by decide +kernel)
      have c150 : I140 a1 9 = v57 := (g143.cell ta1 (by decide +kernel)).trans c80
      have hO151 : FrO 14 a1 T I0 I140 := hO81.st g143 (by decide +kernel)
      rcases dj147 with ⟨p152, p153, p154, p155, p156, p157, p158, p159, p160, gl161, -⟩ | ⟨p162, p163, p164, p165, -⟩
      · skip
        have hL166 := hL102.tr gl161 (by decide +kernel)
        have hM167 : NmM I140 R0 L142 a1 gQ := NmM.kpL hM148 gl161 hS149.1 ta1 (by decide +kernel)
        obtain ⟨v168, c169⟩ : ∃ v, I140 a0 13 = v := ⟨_, rfl⟩
        rw [c169] at p153
        rw [c105] at p153
        obtain ⟨v170, c171⟩ : ∃ v, I140 a0 9 = v := ⟨_, rfl⟩
        have b172 := iv15_9 hS149.1 ta0 c171
        rw [c171] at p154
        rw [c171] at p155
        obtain ⟨v173, c174⟩ : ∃ v, I140 a0 10 = v := ⟨_, rfl⟩
        have b175 := iv15_10 hS149.1 ta0 c174
        rw [c174] at p156
        obtain ⟨v176, c177⟩ : ∃ v, I140 a0 11 = v := ⟨_, rfl⟩
        rw [c177] at p157
        obtain ⟨y178, c179⟩ : ∃ v, L142 a0 15 = v := ⟨_, rfl⟩
        rw [c179] at p158
        obtain ⟨v180, c181⟩ : ∃ v, I140 a0 12 = v := ⟨_, rfl⟩
        rw [c181] at p159
        obtain ⟨v182, c183⟩ : ∃ v, I140 a0 8 = v := ⟨_, rfl⟩
        have b184 := iv15_8 hS149.1 ta0 c183
        rw [c183] at p160
        refine tr_istore_n dX12_readAlmanac_35 (by decide) (by decide) ?_
        refine tr_aload_n dX12_readAlmanac_36 rfl ?_
        refine q_getI dX12_readAlmanac_37 fl12_99 (kR15 hS149.1 ta0) c171 ?_
        refine q_iconst dX12_readAlmanac_40 (by decide) ?_
        intro v185 h186
        refine q_icmp_ne 45 dX12_readAlmanac_41 (by decide) (fun h187 => ?_) (fun h187 => ?_)
        · skip
          refine tr_aload_n dX12_readAlmanac_45 rfl ?_
          refine tr_getR dX12_readAlmanac_46 fl12_188 (kR15 hS149.1 ta0) d2 ?_
          refine tr_iload_n dX12_readAlmanac_49 rfl ?_
          refine q_putI dX12_readAlmanac_50 fl12_312 (kR14 hS149.1 ta1) (Or.inl rfl) hS149 ta1 (by show (0 : Int) ≤ v145.toInt ∧ v145.toInt ≤ (8 : Int); exact om_575e5997 h146) rfl (by decide +kernel) ?_
          intro I188 hS189 e190 f191
          have c192 : I188 a1 9 = v57 := (f191 _ _ (fun q => absurd q.2 (by decide))).trans c150
          have c193 : I188 a0 13 = v168 := (f191 _ _ (fun q => absurd q.2 (by decide))).trans c169
          have c194 : I188 a0 9 = v170 := (f191 _ _ (fun q => absurd q.2 (by decide))).trans c171
          have c195 : I188 a0 10 = v173 := (f191 _ _ (fun q => absurd q.2 (by decide))).trans c174
          have c196 : I188 a0 11 = v176 := (f191 _ _ (fun q => absurd q.2 (by decide))).trans c177
          have c197 : I188 a0 12 = v180 := (f191 _ _ (fun q => absurd q.2 (by decide))).trans c181
          have c198 : I188 a0 8 = v182 := (f191 _ _ (fun q => by have z := ta0; rw [q.1, ta1] at z; exact absurd z (by decide))).trans c183
          have hO199 : FrO 14 a1 T I0 I188 := hO151.put f191 ta1 (Or.inr rfl)
          have hM200 : NmM I188 R0 L142 a1 gQ := NmM.kp1 hM167 f191 ta1 rfl rfl hS149.1 ta1
          refine tr_aload_n dX12_readAlmanac_53 rfl ?_
          refine tr_getR dX12_readAlmanac_54 fl12_188 (kR15 hS189.1 ta0) d2 ?_
          refine q_iconst dX12_readAlmanac_57 (by decide) ?_
          intro v201 h202
          refine q_putZ dX12_readAlmanac_58 fl12_302 (kR14 hS189.1 ta1) (Or.inl rfl) hS189 ta1 (by exact om_d753bc65 h202) (by show (0 : Int) ≤ v201.toInt ∧ v201.toInt ≤ (1 : Int); exact om_d753bc65 h202) rfl (by decide +kernel) ?_
          intro I203 hS204 e205 f206
          have c207 : I203 a0 13 = v168 := (f206 _ _ (fun q => absurd q.2 (by decide))).trans c193
          have c208 : I203 a0 9 = v170 := (f206 _ _ (fun q => by have z := ta0; rw [q.1, ta1] at z; exact absurd z (by decide))).trans c194
          have c209 : I203 a0 10 = v173 := (f206 _ _ (fun q => absurd q.2 (by decide))).trans c195
          have c210 : I203 a0 11 = v176 := (f206 _ _ (fun q => absurd q.2 (by decide))).trans c196
          have c211 : I203 a0 12 = v180 := (f206 _ _ (fun q => absurd q.2 (by decide))).trans c197
          have c212 : I203 a0 8 = v182 := (f206 _ _ (fun q => absurd q.2 (by decide))).trans c198
          have c213 : I203 a1 8 = v145 := (f206 _ _ (fun q => absurd q.2 (by decide))).trans e190
          have hO214 : FrO 14 a1 T I0 I203 := hO199.put f206 ta1 (Or.inr rfl)
          have hM215 : NmM I203 R0 L142 a1 gQ := NmM.kp1 hM200 f206 ta1 rfl rfl hS189.1 ta1
          have eF := hF.eq
          have eP := hP.eq
          obtain ⟨v216, c217⟩ : ∃ v, I203 a0 14 = v := ⟨_, rfl⟩
          exact tr_vret hZ dX12_readAlmanac_61 rfl (by decide) (by decide) ⟨rfl, rfl, rfl, rfl, rfl, hS204, (fun dr hd => (Option.some.inj (d2.symm.trans hd)) ▸ hO214), (Or.inl ⟨(by (try rw [w124]); first | done | with_reducible assumption | exact om_d12bbb76 p152 eF), (fun q0 z0 => by obtain rfl := Option.some.inj ((d2).symm.trans z0); (try rw [w124]); (try rw [((hS204.cell ta1 (by decide +kernel)).trans c30)]); first | done | with_reducible assumption | exact om_2757374c p32 w125), (fun q0 z0 => by obtain rfl := Option.some.inj ((d2).symm.trans z0); (try rw [w124]); (try rw [((hS204.cell ta1 (by decide +kernel)).trans c34)]); first | done | with_reducible assumption | exact om_2757374c p36 w126), (fun q0 z0 => by obtain rfl := Option.some.inj ((d2).symm.trans z0); (try rw [w124]); (try rw [((hS204.cell ta1 (by decide +kernel)).trans c38)]); first | done | with_reducible assumption | exact om_2757374c p40 w127), (fun q0 z0 => by obtain rfl := Option.some.inj ((d2).symm.trans z0); (try rw [w124]); (try rw [((hS204.cell ta1 (by decide +kernel)).trans c42)]); first | done | with_reducible assumption | exact om_2757374c p44 w128), (fun q0 z0 => by obtain rfl := Option.some.inj ((d2).symm.trans z0); (try rw [w124]); (try rw [((hS204.cell ta1 (by decide +kernel)).trans c46)]); first | done | with_reducible assumption | exact om_2757374c p48 w129), (fun q0 z0 => by obtain rfl := Option.some.inj ((d2).symm.trans z0); (try rw [w124]); (try rw [((hS204.cell ta1 (by decide +kernel)).trans c50)]); first | done | with_reducible assumption | exact om_2757374c p52 w130), (fun q0 z0 => by obtain rfl := Option.some.inj ((d2).symm.trans z0); (try rw [w124]); (try rw [((hS204.cell ta1 (by decide +kernel)).trans c54)]); first | done | with_reducible assumption | exact om_2757374c p56 w131), (fun q0 z0 => by obtain rfl := Option.some.inj ((d2).symm.trans z0); (try rw [w124]); (try rw [e205]); first | done | with_reducible assumption | exact om_f2e5fab5 w133 h202), (by (try rw [w124]); (try rw [c207]); (try rw [c65]); first | done | with_reducible assumption | exact om_9fa72578 p84 p153), (by (try rw [w124]); (try rw [c208]); first | done | with_reducible assumption | omega), (by (try rw [w124]); (try rw [c208]); first | done | with_reducible assumption | omega), (by (try rw [w124]); (try rw [c209]); first | done | with_reducible assumption | omega), (by (try rw [w124]); (try rw [c210]); first | done | with_reducible assumption | omega), (by (try rw [w124]); (try rw [c179]); first | done | assumption), (by (try rw [w124]); (try rw [c211]); first | done | assumption), (by (try rw [w124]); (try rw [c212]); first | done | assumption), hL166, (fun b hb => (Option.some.inj (d2.symm.trans hb)) ▸ NmM.ln (NmM.bd (k := srt gB gs) hM215 (by exact om_a397193d pre18) (by exact om_7cfa06b5 pre18)) rfl), trivial⟩), trivial⟩
        · skip
          exfalso; exact om_99cda0b7 p155 p154 b172.1 h186 h187
      · skip
        obtain ⟨v218, c219⟩ : ∃ v, I140 a0 9 = v := ⟨_, rfl⟩
        have b220 := iv15_9 hS149.1 ta0 c219
        rw [c219] at p163
        obtain ⟨v221, c222⟩ : ∃ v, I140 a0 13 = v := ⟨_, rfl⟩
        rw [c222] at p164
        obtain ⟨v223, c224⟩ : ∃ v, I140 a0 14 = v := ⟨_, rfl⟩
        rw [c224] at p165
        refine tr_istore_n dX12_readAlmanac_35 (by decide) (by decide) ?_
        refine tr_aload_n dX12_readAlmanac_36 rfl ?_
        refine q_getI dX12_readAlmanac_37 fl12_99 (kR15 hS149.1 ta0) c219 ?_
        refine q_iconst dX12_readAlmanac_40 (by decide) ?_
        intro v225 h226
        refine q_icmp_ne 45 dX12_readAlmanac_41 (by decide) (fun h227 => ?_) (fun h227 => ?_)
        · skip
          exfalso; exact om_1fa3e129 p163 h226 h227
        · skip
          have eF := hF.eq
          have eP := hP.eq
          obtain ⟨v228, c229⟩ : ∃ v, I140 a0 10 = v := ⟨_, rfl⟩
          have b230 := iv15_10 hS149.1 ta0 c229
          obtain ⟨v231, c232⟩ : ∃ v, I140 a0 11 = v := ⟨_, rfl⟩
          obtain ⟨y233, c234⟩ : ∃ v, L142 a0 15 = v := ⟨_, rfl⟩
          obtain ⟨v235, c236⟩ : ∃ v, I140 a0 12 = v := ⟨_, rfl⟩
          obtain ⟨v237, c238⟩ : ∃ v, I140 a0 8 = v := ⟨_, rfl⟩
          have b239 := iv15_8 hS149.1 ta0 c238
          exact tr_vret hZ dX12_readAlmanac_44 rfl (by decide) (by decide) ⟨rfl, rfl, rfl, rfl, rfl, hS149, (fun dr hd => (Option.some.inj (d2.symm.trans hd)) ▸ hO151), (Or.inr (⟨(by (try rw [w124]); first | done | with_reducible assumption | exact om_53549b26 p162 p164 eF), (by (try rw [w124]); (try rw [c219]); first | done | with_reducible assumption | omega), (by (try rw [w124]); (try rw [c222]); first | done | with_reducible assumption | exact om_2757374c p164 eF), (by (try rw [w124]); (try rw [c224]); first | done | with_reducible assumption | exact om_2757374c p165 eP), trivial⟩)), trivial⟩
    · skip
      obtain ⟨v240, c241⟩ : ∃ v, I71 a0 9 = v := ⟨_, rfl⟩
      have b242 := iv15_9 hS79.1 ta0 c241
      rw [c241] at p94
      obtain ⟨v243, c244⟩ : ∃ v, I71 a0 13 = v := ⟨_, rfl⟩
      rw [c244] at p95
      obtain ⟨v245, c246⟩ : ∃ v, I71 a0 14 = v := ⟨_, rfl⟩
      rw [c246] at p96
      exfalso; exact om_06477918 h68 h70 p93
    · skip
      obtain ⟨v247, c248⟩ : ∃ v, I71 a0 9 = v := ⟨_, rfl⟩
      have b249 := iv15_9 hS79.1 ta0 c248
      rw [c248] at p99
      obtain ⟨v250, c251⟩ : ∃ v, I71 a0 13 = v := ⟨_, rfl⟩
      rw [c251] at p100
      obtain ⟨v252, c253⟩ : ∃ v, I71 a0 14 = v := ⟨_, rfl⟩
      rw [c253] at p101
      have p254 := p61
      unfold Q7M at p254
      replace hF := hF.neg (by exact om_29dee3b2 pre18)
      replace hP := hP.neg (by exact om_29dee3b2 pre18)
      replace hF := hF.pos (by exact om_d6df5b6a pre18 p98 p254)
      replace hP := hP.pos (by exact om_d6df5b6a pre18 p98 p254)
      clear p254
      refine tr_aload_n dX12_readAlmanac_21 rfl ?_
      refine tr_aload_n dX12_readAlmanac_22 rfl ?_
      refine tr_getR dX12_readAlmanac_23 fl12_188 (kR15 hS79.1 ta0) d2 ?_
      obtain ⟨a255, d256, ta255⟩ := rf14_16 hW0 ta1
      refine tr_getR dX12_readAlmanac_26 fl12_306 (kR14 hS79.1 ta1) d256 ?_
      refine q_iconst dX12_readAlmanac_29 (by decide) ?_
      intro v257 h258
      refine q_bipush dX12_readAlmanac_30 (by decide +kernel) ?_
      intro v259 h260
      refine q_callVi hE (M' := mX12_readRising) (as := [_, _, _]) dX12_readAlmanac_32 lk12_308 inX12_readRising seX12_readRising myX12_readRising (by decide) ⟨by decide, by decide⟩ rfl (kR15 hS79.1 ta0) (Nat.le_of_ble_eq_true rfl) rfl rfl (by decide) (by decide) (k_X12_readRising_1 hS79.1 ta0 ta255 (by exact om_615c7989 h258) (by exact om_abb56aaf h260) ⟨_, d2⟩) ?_
      rintro v265 cn' K' N' I261 R262 L263 ⟨rfl, rfl, rfl, rfl, g264, h266, w267, -⟩
      have hS268 := hS79.tr g264 (by decide +kernel) (by decide +kernel)
      have c269 : I261 a1 9 = v57 := (g264.cell ta1 (by decide +kernel)).trans c80
      have hO270 : FrO 14 a1 T I0 I261 := hO81.st g264 (by decide +kernel)
      have ov271 := w267.over (by rw [c248]; exact om_394b70a2 p99)
      obtain ⟨v272, c273⟩ : ∃ v, I261 a0 9 = v := ⟨_, rfl⟩
      have b274 := iv15_9 hS268.1 ta0 c273
      obtain ⟨v275, c276⟩ : ∃ v, I261 a0 13 = v := ⟨_, rfl⟩
      obtain ⟨v277, c278⟩ : ∃ v, I261 a0 14 = v := ⟨_, rfl⟩
      (try rw [c273] at ov271)
      (try rw [c276] at ov271)
      (try rw [c278] at ov271)
      (try rw [c248] at ov271)
      (try rw [c251] at ov271)
      (try rw [c253] at ov271)
      refine tr_istore_n dX12_readAlmanac_35 (by decide) (by decide) ?_
      refine tr_aload_n dX12_readAlmanac_36 rfl ?_
      refine q_getI dX12_readAlmanac_37 fl12_99 (kR15 hS268.1 ta0) c273 ?_
      refine q_iconst dX12_readAlmanac_40 (by decide) ?_
      intro v279 h280
      refine q_icmp_ne 45 dX12_readAlmanac_41 (by decide) (fun h281 => ?_) (fun h281 => ?_)
      · skip
        exfalso; exact om_1fa3e129 ov271.1 h280 h281
      · skip
        have eF := hF.eq
        have eP := hP.eq
        obtain ⟨v282, c283⟩ : ∃ v, I261 a0 10 = v := ⟨_, rfl⟩
        have b284 := iv15_10 hS268.1 ta0 c283
        obtain ⟨v285, c286⟩ : ∃ v, I261 a0 11 = v := ⟨_, rfl⟩
        obtain ⟨y287, c288⟩ : ∃ v, L263 a0 15 = v := ⟨_, rfl⟩
        obtain ⟨v289, c290⟩ : ∃ v, I261 a0 12 = v := ⟨_, rfl⟩
        obtain ⟨v291, c292⟩ : ∃ v, I261 a0 8 = v := ⟨_, rfl⟩
        have b293 := iv15_8 hS268.1 ta0 c292
        exact tr_vret hZ dX12_readAlmanac_44 rfl (by decide) (by decide) ⟨rfl, rfl, rfl, rfl, rfl, hS268, (fun dr hd => (Option.some.inj (d2.symm.trans hd)) ▸ hO270), (Or.inr (⟨(by first | done | with_reducible assumption | exact om_3a8e1f7c eF), (by (try rw [c273]); first | done | with_reducible assumption | exact om_394b70a2 ov271.1), (by (try rw [c276]); first | done | with_reducible assumption | exact om_1428d4dd p100 ov271.2.1 eF), (by (try rw [c278]); first | done | with_reducible assumption | exact om_8e6888af p11 p101 ov271.2.2 eP), trivial⟩)), trivial⟩
  · skip
    replace hF := hF.pos (by exact om_770cd8d6 pre18 b59.2 b59.1 p60 h66)
    replace hP := hP.pos (by exact om_770cd8d6 pre18 b59.2 b59.1 p60 h66)
    refine tr_aload_n dX12_readAlmanac_10 rfl ?_
    refine q_iconst dX12_readAlmanac_11 (by decide) ?_
    intro v294 h295
    refine q_callVv hE (M' := mX12_flaw) (as := [_]) dX12_readAlmanac_12 lk12_145 inX12_flaw seX12_flaw myX12_flaw (by decide) ⟨by decide, by decide⟩ rfl (kR15 hS0.1 ta0) (Nat.le_of_ble_eq_true rfl) rfl rfl (by decide) (by decide) (fk_X12_flaw hS0.1  ta0 (by exact om_7e011daf h295) (by (try rw [c4]); first | done | with_reducible assumption | exact om_df98ac7c pre0 pre1 b5.2 b5.1 p6)) ?_
    rintro cn' K' N' I296 R297 L298 ⟨rfl, rfl, rfl, rfl, rfl, g299, p302, p303, p304, -⟩
    have hM305 : NmM I296 R0 L0 a1 gQ := NmM.kpS hM0 g299 hS0.1 ta1 (by decide +kernel) (by decide +kernel)
    have hS306 := hS0.tr g299 (by decide +kernel) (by decide +kernel)
    have c307 : I296 a0 10 = v8 := (g299.cell ta0 (by decide +kernel)).trans c9
    have c308 : I296 a0 11 = v12 := (g299.cell ta0 (by decide +kernel)).trans c13
    have c309 : I296 a0 12 = v18 := (g299.cell ta0 (by decide +kernel)).trans c19
    have c310 : I296 a0 8 = v21 := (g299.cell ta0 (by decide +kernel)).trans c22
    have c311 : I296 a1 9 = v57 := (g299.cell ta1 (by decide +kernel)).trans c58
    have hO312 : FrO 14 a1 T I0 I296 := hO0.st g299 (by decide +kernel)
    obtain ⟨v313, c314⟩ : ∃ v, I296 a0 9 = v := ⟨_, rfl⟩
    have b315 := iv15_9 hS306.1 ta0 c314
    rw [c314] at p302
    obtain ⟨v316, c317⟩ : ∃ v, I296 a0 13 = v := ⟨_, rfl⟩
    rw [c317] at p303
    obtain ⟨v318, c319⟩ : ∃ v, I296 a0 14 = v := ⟨_, rfl⟩
    rw [c319] at p304
    rw [c9] at p304
    refine tr_aload_n dX12_readAlmanac_15 rfl ?_
    refine q_iconst dX12_readAlmanac_16 (by decide) ?_
    intro v320 h321
    refine q_iconst dX12_readAlmanac_17 (by decide) ?_
    intro v322 h323
    refine q_callVv hE (M' := mX12_begins) (as := [_, _]) dX12_readAlmanac_18 lk12_268 inX12_begins seX12_begins myX12_begins (by decide) ⟨by decide, by decide⟩ rfl (kR15 hS306.1 ta0) (Nat.le_of_ble_eq_true rfl) rfl rfl (by decide) (by decide) (k_X12_begins hS306.1 ta0 ⟨_, d2⟩) ?_
    rintro cn' K' N' I324 R325 L326 ⟨rfl, rfl, rfl, rfl, g327, p329, w330, -⟩
    have hS331 := hS306.tr g327 (by decide +kernel) (by decide +kernel)
    have c332 : I324 a1 9 = v57 := (g327.cell ta1 (by decide +kernel)).trans c311
    obtain ⟨v333, c334⟩ : ∃ v, I324 a0 9 = v := ⟨_, rfl⟩
    have b335 := iv15_9 hS331.1 ta0 c334
    have gd336 : Gd (I324 a0 9) (v320.toInt ≠ v322.toInt) := p329
    clear p329
    have hO337 : FrO 14 a1 T I0 I324 := hO312.st g327 (by decide +kernel)
    have ov338 := w330.over (by rw [c314]; exact om_394b70a2 p302)
    obtain ⟨v339, c340⟩ : ∃ v, I324 a0 9 = v := ⟨_, rfl⟩
    have b341 := iv15_9 hS331.1 ta0 c340
    obtain ⟨v342, c343⟩ : ∃ v, I324 a0 13 = v := ⟨_, rfl⟩
    obtain ⟨v344, c345⟩ : ∃ v, I324 a0 14 = v := ⟨_, rfl⟩
    (try rw [c340] at ov338)
    (try rw [c343] at ov338)
    (try rw [c345] at ov338)
    (try rw [c314] at ov338)
    (try rw [c317] at ov338)
    (try rw [c319] at ov338)
    refine tr_aload_n dX12_readAlmanac_21 rfl ?_
    refine tr_aload_n dX12_readAlmanac_22 rfl ?_
    refine tr_getR dX12_readAlmanac_23 fl12_188 (kR15 hS331.1 ta0) d2 ?_
    obtain ⟨a346, d347, ta346⟩ := rf14_16 hW0 ta1
    refine tr_getR dX12_readAlmanac_26 fl12_306 (kR14 hS331.1 ta1) d347 ?_
    refine q_iconst dX12_readAlmanac_29 (by decide) ?_
    intro v348 h349
    refine q_bipush dX12_readAlmanac_30 (by decide +kernel) ?_
    intro v350 h351
    refine q_callVi hE (M' := mX12_readRising) (as := [_, _, _]) dX12_readAlmanac_32 lk12_308 inX12_readRising seX12_readRising myX12_readRising (by decide) ⟨by decide, by decide⟩ rfl (kR15 hS331.1 ta0) (Nat.le_of_ble_eq_true rfl) rfl rfl (by decide) (by decide) (k_X12_readRising_1 hS331.1 ta0 ta346 (by exact om_615c7989 h349) (by exact om_abb56aaf h351) ⟨_, d2⟩) ?_
    rintro v356 cn' K' N' I352 R353 L354 ⟨rfl, rfl, rfl, rfl, g355, h357, w358, -⟩
    have hS359 := hS331.tr g355 (by decide +kernel) (by decide +kernel)
    have c360 : I352 a1 9 = v57 := (g355.cell ta1 (by decide +kernel)).trans c332
    have hO361 : FrO 14 a1 T I0 I352 := hO337.st g355 (by decide +kernel)
    have ov362 := w358.over (by rw [c340]; exact om_394b70a2 ov338.1)
    obtain ⟨v363, c364⟩ : ∃ v, I352 a0 9 = v := ⟨_, rfl⟩
    have b365 := iv15_9 hS359.1 ta0 c364
    obtain ⟨v366, c367⟩ : ∃ v, I352 a0 13 = v := ⟨_, rfl⟩
    obtain ⟨v368, c369⟩ : ∃ v, I352 a0 14 = v := ⟨_, rfl⟩
    (try rw [c364] at ov362)
    (try rw [c367] at ov362)
    (try rw [c369] at ov362)
    (try rw [c340] at ov362)
    (try rw [c343] at ov362)
    (try rw [c345] at ov362)
    refine tr_istore_n dX12_readAlmanac_35 (by decide) (by decide) ?_
    refine tr_aload_n dX12_readAlmanac_36 rfl ?_
    refine q_getI dX12_readAlmanac_37 fl12_99 (kR15 hS359.1 ta0) c364 ?_
    refine q_iconst dX12_readAlmanac_40 (by decide) ?_
    intro v370 h371
    refine q_icmp_ne 45 dX12_readAlmanac_41 (by decide) (fun h372 => ?_) (fun h372 => ?_)
    · skip
      exfalso; exact om_1fa3e129 ov362.1 h371 h372
    · skip
      have eF := hF.eq
      have eP := hP.eq
      obtain ⟨v373, c374⟩ : ∃ v, I352 a0 10 = v := ⟨_, rfl⟩
      have b375 := iv15_10 hS359.1 ta0 c374
      obtain ⟨v376, c377⟩ : ∃ v, I352 a0 11 = v := ⟨_, rfl⟩
      obtain ⟨y378, c379⟩ : ∃ v, L354 a0 15 = v := ⟨_, rfl⟩
      obtain ⟨v380, c381⟩ : ∃ v, I352 a0 12 = v := ⟨_, rfl⟩
      obtain ⟨v382, c383⟩ : ∃ v, I352 a0 8 = v := ⟨_, rfl⟩
      have b384 := iv15_8 hS359.1 ta0 c383
      exact tr_vret hZ dX12_readAlmanac_44 rfl (by decide) (by decide) ⟨rfl, rfl, rfl, rfl, rfl, hS359, (fun dr hd => (Option.some.inj (d2.symm.trans hd)) ▸ hO361), (Or.inr (⟨(by first | done | with_reducible assumption | exact om_c731b21c eF), (by (try rw [c364]); first | done | with_reducible assumption | exact om_394b70a2 ov362.1), (by (try rw [c367]); first | done | with_reducible assumption | exact om_07a99634 h295 p303 ov338.2.1 ov362.2.1 eF), (by (try rw [c369]); first | done | with_reducible assumption | exact om_5777b1ad p11 p304 ov338.2.2 ov362.2.2 eP), trivial⟩)), trivial⟩
def wik_X12_readRising_1 : List Nat := [968, 969, 970, 971, 972, 973, 974, 3967]
def wrk_X12_readRising_1 : List Nat := []
def wlk_X12_readRising_1 : List Nat := [975]
set_option maxHeartbeats 4000000 in
theorem fk_X12_readRising_1 {l : Launch} {T : Nat → Nat} {cn : Nat} {K N : Nat → Nat} {I0 : cz_I} {R0 : cz_R} {L0 : cz_L} (hW0 : Wf T cn K N I0 R0 0) (gB : cz_B) (gs : Int) (gQ : Nat → Int) {a0 : Nat} (ta0 : T a0 = 15) {a1 : Nat} (ta1 : T a1 = 61) {x2 : Int32} (hx2 : 0 ≤ x2.toInt ∧ x2.toInt ≤ 32) {x3 : Int32} (hx3 : 8 ≤ x3.toInt ∧ x3.toInt ≤ 8) (hT : ∀ t, R0 a0 5 = some t → Tx I0 t gB) (pre0 : (I0 a0 9).toInt = (tkM gB gs)) (pre1 : (I0 a0 9).toInt ≤ 4) (pre2 : (I0 a0 10).toInt = (tkS gB gs)) (pre3 : (I0 a0 11).toInt = (tkG gB gs)) (pre4 : (AtW ((tkK gB gs)) ((L0 a0 15).toInt) ((tkW gB gs)))) (pre5 : (AtV ((tkK gB gs)) ((I0 a0 12).toInt) ((tkV gB gs)))) (pre6 : (AtN ((tkK gB gs)) ((I0 a0 8).toInt) ((tkN gB gs)))) (pre7 : (I0 a0 7).toInt = (gB.2)) (pre8 : ∀ b1, R0 a0 4 = some b1 → (I0 b1 0).toInt = (gQ 0)) (pre9 : (gQ 0) ≥ 1) (pre10 : x2.toInt ≤ 24) (nn4 : ∃ b, R0 a0 4 = some b) : ConE l mX12_readRising [.ref a0, .ref a1, .int x2, .int x3] cn K N I0 R0 L0 (ca_i (fun v cn' K' N' I' R' L' => cn = cn' ∧ K = K' ∧ N = N' ∧ R0 = R' ∧ St T cn K N 0 wik_X12_readRising_1 wrk_X12_readRising_1 I0 R0 I' R0 ∧ (0 ≤ v.toInt ∧ v.toInt ≤ 8) ∧ ((((riF gB gQ 8 0 gs) = 0) ∧ ((I' a0 13).toInt = (I0 a0 13).toInt) ∧ ((I' a0 9).toInt = (tkM gB (riS gB gQ 8 0 gs))) ∧ ((I' a0 9).toInt ≤ 4) ∧ ((I' a0 10).toInt = (tkS gB (riS gB gQ 8 0 gs))) ∧ ((I' a0 11).toInt = (tkG gB (riS gB gQ 8 0 gs))) ∧ ((AtW ((tkK gB (riS gB gQ 8 0 gs))) ((L' a0 15).toInt) ((tkW gB (riS gB gQ 8 0 gs))))) ∧ ((AtV ((tkK gB (riS gB gQ 8 0 gs))) ((I' a0 12).toInt) ((tkV gB (riS gB gQ 8 0 gs))))) ∧ ((AtN ((tkK gB (riS gB gQ 8 0 gs))) ((I' a0 8).toInt) ((tkN gB (riS gB gQ 8 0 gs))))) ∧ LgS T wlk_X12_readRising_1 L0 L' ∧ True) ∨ (((riF gB gQ 8 0 gs) ≠ 0) ∧ ((I' a0 9).toInt = 5) ∧ ((I' a0 13).toInt = (riF gB gQ 8 0 gs)) ∧ ((I' a0 14).toInt = (riP gB gQ 8 0 gs)) ∧ True)) ∧ True)) := by
  refine ConE.of (by decide +kernel) rfl (Nat.le_of_ble_eq_true rfl) rfl (fun X hX hZ hE => ?_)
  subst hX
  have hS0 : St T cn K N 0 wik_X12_readRising_1 wrk_X12_readRising_1 I0 R0 I0 R0 := St.rf0 hW0
  have hL0 : LgS T wlk_X12_readRising_1 L0 L0 := LgS.rf0
  obtain ⟨a11, d12⟩ := nn4
  have ta11 : T a11 = 14 := hW0.rsN ta0 rfl d12
  obtain ⟨v13, c14⟩ : ∃ v, I0 a0 9 = v := ⟨_, rfl⟩
  have b15 := iv15_9 hS0.1 ta0 c14
  have p16 := pre0
  rw [c14] at p16
  have p17 := pre1
  rw [c14] at p17
  obtain ⟨v18, c19⟩ : ∃ v, I0 a0 10 = v := ⟨_, rfl⟩
  have b20 := iv15_10 hS0.1 ta0 c19
  have p21 := pre2
  rw [c19] at p21
  obtain ⟨v22, c23⟩ : ∃ v, I0 a0 11 = v := ⟨_, rfl⟩
  have p24 := pre3
  rw [c23] at p24
  obtain ⟨y25, c26⟩ : ∃ v, L0 a0 15 = v := ⟨_, rfl⟩
  have p27 := pre4
  rw [c26] at p27
  obtain ⟨v28, c29⟩ : ∃ v, I0 a0 12 = v := ⟨_, rfl⟩
  have p30 := pre5
  rw [c29] at p30
  obtain ⟨v31, c32⟩ : ∃ v, I0 a0 8 = v := ⟨_, rfl⟩
  have b33 := iv15_8 hS0.1 ta0 c32
  have p34 := pre6
  rw [c32] at p34
  obtain ⟨v35, c36⟩ : ∃ v, I0 a0 7 = v := ⟨_, rfl⟩
  have b37 := iv15_7 hW0 ta0 c36
  have p38 := pre7
  rw [c36] at p38
  obtain ⟨v39, c40⟩ : ∃ v, I0 a11 0 = v := ⟨_, rfl⟩
  have b41 := iv14_0 hW0 ta11 c40
  have p42 := pre8 _ d12
  rw [c40] at p42
  have p43 := pre9
  have p44 := pre10
  obtain ⟨v45, c46⟩ : ∃ v, I0 a0 13 = v := ⟨_, rfl⟩
  refine q_iconst dX12_readRising_0 (by decide) ?_
  intro v47 h48
  refine tr_istore dX12_readRising_1 (by decide) (by decide) ?_
  refine q_iconst dX12_readRising_3 (by decide) ?_
  intro v49 h50
  refine tr_istore dX12_readRising_4 (by decide) (by decide) ?_
  refine q_iconst dX12_readRising_6 (by decide) ?_
  intro v51 h52
  refine tr_istore dX12_readRising_7 (by decide) (by decide) ?_
  have lp100 : ∀ (fu : Nat) (ls : Nat → Option Value) (v53 : Int32) (v54 : Int32) (v55 : Int32) (I63 : cz_I) (L64 : cz_L) (gs65 : Int) (gr66 : Nat) (v69 : Int32) (v71 : Int32) (v73 : Int32) (v75 : Int32) (y77 : Int64) (v79 : Int32) (v81 : Int32), ls 0 = some (.ref a0) → ls 1 = some (.ref a1) → ls 2 = some (.int x2) → ls 3 = some (.int x3) → ls 4 = some (.int v53) → ls 5 = some (.int v54) → ls 6 = some (.int v55) → St T cn K N 0 wik_X12_readRising_1 wrk_X12_readRising_1 I0 R0 I63 R0 → LgS T wlk_X12_readRising_1 L0 L64 → I63 a0 13 = v69 → I63 a0 9 = v71 → I63 a0 10 = v73 → I63 a0 11 = v75 → L64 a0 15 = y77 → I63 a0 12 = v79 → I63 a0 8 = v81 → (riF gB gQ gr66 v54.toInt gs65) = (riF gB gQ 8 0 gs) → (riP gB gQ gr66 v54.toInt gs65) = (riP gB gQ 8 0 gs) → (riS gB gQ gr66 v54.toInt gs65) = (riS gB gQ 8 0 gs) → v55.toInt = 1 → 0 ≤ v54.toInt → v54.toInt ≤ 240 → 0 ≤ v53.toInt → v53.toInt ≤ 8 → ((gr66 : Int)) = -v53.toInt + 8 → v69.toInt = v45.toInt → v71.toInt = (tkM gB gs65) → v71.toInt ≤ 4 → v73.toInt = (tkS gB gs65) → v75.toInt = (tkG gB gs65) → (AtW ((tkK gB gs65)) (y77.toInt) ((tkW gB gs65))) → (AtV ((tkK gB gs65)) (v79.toInt) ((tkV gB gs65))) → (AtN ((tkK gB gs65)) (v81.toInt) ((tkN gB gs65))) → (-v53.toInt + 9).toNat < fu → Tr X mX12_readRising 9 ls [] cn K N I63 R0 L64 0 0 := by
    intro fu
    induction fu with
    | zero => intros; rename_i hz; exact absurd hz (Nat.not_lt_zero _)
    | succ fu ih100 =>
      intro ls v53 v54 v55 I63 L64 gs65 gr66 v69 v71 v73 v75 y77 v79 v81 hl56 hl57 hl58 hl59 hl60 hl61 hl62 hS67 hL68 c70 c72 c74 c76 c78 c80 c82 g83 g84 g85 g86 g87 g88 g89 g90 g91 g92 g93 g94 g95 g96 g97 g98 g99 hm100
      have b102 := iv15_9 hS67.1 ta0 c72
      have b103 := iv15_10 hS67.1 ta0 c74
      have b104 := iv15_8 hS67.1 ta0 c82
      rcases Nat.eq_zero_or_pos gr66 with hz105 | hz105
      · skip
        subst hz105
        refine tr_iload dX12_readRising_9 hl62 ?_
        refine q_if_eq 92 dX12_readRising_11 (by decide) (fun h107 => ?_) (fun h107 => ?_)
        · skip
          exfalso; exact om_3624102b g86 h107
        · skip
          refine tr_aload_n dX12_readRising_14 hl56 ?_
          refine q_getI dX12_readRising_15 fl12_99 (kR15 hS67.1 ta0) c72 ?_
          refine q_iconst dX12_readRising_18 (by decide) ?_
          intro v108 h109
          refine q_icmp_eq 92 dX12_readRising_19 (by decide) (fun h110 => ?_) (fun h110 => ?_)
          · skip
            exfalso; exact om_590814ed g93 g94 b102.1 h109 h110
          · skip
            refine tr_aload_n dX12_readRising_22 hl56 ?_
            refine tr_iload dX12_readRising_23 hl61 ?_
            refine tr_aload_n dX12_readRising_25 hl56 ?_
            refine tr_getR dX12_readRising_26 fl12_188 (kR15 hS67.1 ta0) d12 ?_
            refine q_getI dX12_readRising_29 fl12_192 (kR14 hS67.1 ta11) ((hS67.cell ta11 (by decide +kernel)).trans c40) ?_
            refine q_iconst dX12_readRising_32 (by decide) ?_
            intro v111 h112
            refine q_isubE dX12_readRising_33 (by intro j1 j2 j3 j4; exact om_329ab692 pre9 b41.2 b41.1 p42 h112) ?_
            intro v113 h114
            refine q_callVi hE (M' := mX12_bounded) (as := [_, _]) dX12_readRising_34 lk12_153 inX12_bounded seX12_bounded myX12_bounded (by decide) ⟨by decide, by decide⟩ rfl (kR15 hS67.1 ta0) (Nat.le_of_ble_eq_true rfl) rfl rfl (by decide) (by decide) (fk_X12_bounded hS67.1 (gB) (gs65) ta0 (by (try rw [c72]); first | done | with_reducible assumption | omega) (by (try rw [c72]); first | done | with_reducible assumption | omega) (by (try rw [c74]); first | done | with_reducible assumption | omega) (by (try rw [c76]); first | done | with_reducible assumption | omega) (by (try rw [c78]); first | done | assumption) (by (try rw [c80]); first | done | assumption) (by (try rw [c82]); first | done | assumption)) ?_
            rintro v120 cn' K' N' I115 R116 L117 ⟨rfl, rfl, rfl, rfl, rfl, g118, dj121, -⟩
            have hS122 := hS67.tr g118 (by decide +kernel) (by decide +kernel)
            have c123 : I115 a0 10 = v73 := (g118.cell ta0 (by decide +kernel)).trans c74
            have c124 : I115 a0 11 = v75 := (g118.cell ta0 (by decide +kernel)).trans c76
            have c125 : I115 a0 12 = v79 := (g118.cell ta0 (by decide +kernel)).trans c80
            have c126 : I115 a0 8 = v81 := (g118.cell ta0 (by decide +kernel)).trans c82
            rcases dj121 with ⟨p127, p128, p129, p130, p131, p132, p133, p134, p135, p136, p137, p138, -⟩ | ⟨p139, p140, p141, p142, p143, -⟩ | ⟨p144, p145, p146, p147, p148, p149, -⟩
            · skip
              obtain ⟨v150, c151⟩ : ∃ v, I115 a0 13 = v := ⟨_, rfl⟩
              rw [c151] at p131
              rw [c70] at p131
              obtain ⟨v152, c153⟩ : ∃ v, I115 a0 9 = v := ⟨_, rfl⟩
              have b154 := iv15_9 hS122.1 ta0 c153
              rw [c153] at p132
              rw [c153] at p133
              rw [c123] at p134
              rw [c124] at p135
              rw [c78] at p136
              rw [c125] at p137
              rw [c126] at p138
              refine tr_istore dX12_readRising_37 (by decide) (by decide) ?_
              refine tr_iload dX12_readRising_39 hl60 ?_
              refine tr_iload_n dX12_readRising_41 hl59 ?_
              refine q_icmp_ne 50 dX12_readRising_42 (by decide) (fun h155 => ?_) (fun h155 => ?_)
              · skip
                exfalso; exact om_8be05020 hx3.2 hx3.1 g91 h155
              · skip
                refine tr_aload_n dX12_readRising_45 hl56 ?_
                refine q_iconst dX12_readRising_46 (by decide) ?_
                intro v156 h157
                refine q_callVv hE (M' := mX12_flaw) (as := [_]) dX12_readRising_47 lk12_145 inX12_flaw seX12_flaw myX12_flaw (by decide) ⟨by decide, by decide⟩ rfl (kR15 hS122.1 ta0) (Nat.le_of_ble_eq_true rfl) rfl rfl (by decide) (by decide) (fk_X12_flaw hS122.1  ta0 (by exact om_054a361c h157) (by (try rw [c153]); first | done | with_reducible assumption | exact om_25eaf917 g93 g94 b102.1 p132)) ?_
                rintro cn' K' N' I158 R159 L160 ⟨rfl, rfl, rfl, rfl, rfl, g161, p164, p165, p166, -⟩
                have hS167 := hS122.tr g161 (by decide +kernel) (by decide +kernel)
                have c168 : I158 a0 10 = v73 := (g161.cell ta0 (by decide +kernel)).trans c123
                have c169 : I158 a0 11 = v75 := (g161.cell ta0 (by decide +kernel)).trans c124
                have c170 : I158 a0 12 = v79 := (g161.cell ta0 (by decide +kernel)).trans c125
                have c171 : I158 a0 8 = v81 := (g161.cell ta0 (by decide +kernel)).trans c126
                obtain ⟨v172, c173⟩ : ∃ v, I158 a0 9 = v := ⟨_, rfl⟩
                have b174 := iv15_9 hS167.1 ta0 c173
                rw [c173] at p164
                obtain ⟨v175, c176⟩ : ∃ v, I158 a0 13 = v := ⟨_, rfl⟩
                rw [c176] at p165
                obtain ⟨v177, c178⟩ : ∃ v, I158 a0 14 = v := ⟨_, rfl⟩
                rw [c178] at p166
                rw [c123] at p166
                refine tr_aload_n dX12_readRising_50 hl56 ?_
                refine q_callVv hE (M' := mX12_goesOn) (as := []) dX12_readRising_51 lk12_142 inX12_goesOn seX12_goesOn myX12_goesOn (by decide) ⟨by decide, by decide⟩ rfl (kR15 hS167.1 ta0) (Nat.le_of_ble_eq_true rfl) rfl rfl (by decide) (by decide) (k_X12_goesOn hS167.1 ta0) ?_
                rintro cn' K' N' I179 R180 L181 ⟨rfl, rfl, rfl, rfl, g182, p184, p185, p186, w187, -⟩
                have hS188 := hS167.tr g182 (by decide +kernel) (by decide +kernel)
                have c189 : I179 a0 13 = v175 := (g182.cell ta0 (by decide +kernel)).trans c176
                have c190 : I179 a0 14 = v177 := (g182.cell ta0 (by decide +kernel)).trans c178
                obtain ⟨v191, c192⟩ : ∃ v, I179 a0 9 = v := ⟨_, rfl⟩
                have b193 := iv15_9 hS188.1 ta0 c192
                rw [c173] at p184
                rw [c192] at p184
                rw [c173] at p185
                rw [c192] at p185
                obtain ⟨v194, c195⟩ : ∃ v, I179 a0 8 = v := ⟨_, rfl⟩
                have b196 := iv15_8 hS188.1 ta0 c195
                rw [c195] at p186
                rw [c171] at p186
                rw [c189] at p186
                rw [c176] at p186
                have ov197 := w187.over (by rw [c173]; exact om_394b70a2 p164)
                obtain ⟨v198, c199⟩ : ∃ v, I179 a0 9 = v := ⟨_, rfl⟩
                have b200 := iv15_9 hS188.1 ta0 c199
                obtain ⟨v201, c202⟩ : ∃ v, I179 a0 13 = v := ⟨_, rfl⟩
                obtain ⟨v203, c204⟩ : ∃ v, I179 a0 14 = v := ⟨_, rfl⟩
                (try rw [c199] at ov197)
                (try rw [c202] at ov197)
                (try rw [c204] at ov197)
                (try rw [c173] at ov197)
                (try rw [c176] at ov197)
                (try rw [c178] at ov197)
                refine tr_aload_n dX12_readRising_54 hl56 ?_
                refine q_getI dX12_readRising_55 fl12_99 (kR15 hS188.1 ta0) c199 ?_
                refine q_iconst dX12_readRising_58 (by decide) ?_
                intro v205 h206
                refine q_icmp_ne 64 dX12_readRising_59 (by decide) (fun h207 => ?_) (fun h207 => ?_)
                · skip
                  exfalso; exact om_1fa3e129 ov197.1 h206 h207
                · skip
                  refine q_iconst dX12_readRising_62 (by decide) ?_
                  intro v208 h209
                  obtain ⟨v210, c211⟩ : ∃ v, I179 a0 10 = v := ⟨_, rfl⟩
                  have b212 := iv15_10 hS188.1 ta0 c211
                  obtain ⟨v213, c214⟩ : ∃ v, I179 a0 11 = v := ⟨_, rfl⟩
                  obtain ⟨y215, c216⟩ : ∃ v, L181 a0 15 = v := ⟨_, rfl⟩
                  obtain ⟨v217, c218⟩ : ∃ v, I179 a0 12 = v := ⟨_, rfl⟩
                  exact tr_iret hZ dX12_readRising_63 rfl (by decide) (by decide) ⟨v208, rfl, rfl, rfl, rfl, rfl, hS188, (by exact om_7d21acc5 h209), (Or.inr (⟨(by rw [← g83]; simp only [riF, ↓reduceIte]; exact om_62e43f65), (by (try rw [c199]); first | done | with_reducible assumption | exact om_394b70a2 ov197.1), (by (try rw [c202]); rw [← g83]; simp only [riF, ↓reduceIte]; exact om_84e7137a p42 h112 h114 p128 p129 p130 h157 p165 ov197.2.1), (by (try rw [c204]); rw [← g84]; simp only [riP, ↓reduceIte]; exact om_1c22ab7e g95 p166 ov197.2.2), trivial⟩)), trivial⟩
            · skip
              obtain ⟨v219, c220⟩ : ∃ v, I115 a0 9 = v := ⟨_, rfl⟩
              have b221 := iv15_9 hS122.1 ta0 c220
              rw [c220] at p141
              obtain ⟨v222, c223⟩ : ∃ v, I115 a0 13 = v := ⟨_, rfl⟩
              rw [c223] at p142
              obtain ⟨v224, c225⟩ : ∃ v, I115 a0 14 = v := ⟨_, rfl⟩
              rw [c225] at p143
              refine tr_istore dX12_readRising_37 (by decide) (by decide) ?_
              refine tr_iload dX12_readRising_39 hl60 ?_
              refine tr_iload_n dX12_readRising_41 hl59 ?_
              refine q_icmp_ne 50 dX12_readRising_42 (by decide) (fun h226 => ?_) (fun h226 => ?_)
              · skip
                exfalso; exact om_8be05020 hx3.2 hx3.1 g91 h226
              · skip
                refine tr_aload_n dX12_readRising_45 hl56 ?_
                refine q_iconst dX12_readRising_46 (by decide) ?_
                intro v227 h228
                refine q_callVv hE (M' := mX12_flaw) (as := [_]) dX12_readRising_47 lk12_145 inX12_flaw seX12_flaw myX12_flaw (by decide) ⟨by decide, by decide⟩ rfl (kR15 hS122.1 ta0) (Nat.le_of_ble_eq_true rfl) rfl rfl (by decide) (by decide) (k_X12_flaw hS122.1 ta0 (by exact om_054a361c h228)) ?_
                rintro cn' K' N' I229 R230 L231 ⟨rfl, rfl, rfl, rfl, rfl, g232, p234, p235, w236, -⟩
                have hS237 := hS122.tr g232 (by decide +kernel) (by decide +kernel)
                have c238 : I229 a0 10 = v73 := (g232.cell ta0 (by decide +kernel)).trans c123
                have c239 : I229 a0 11 = v75 := (g232.cell ta0 (by decide +kernel)).trans c124
                have c240 : I229 a0 12 = v79 := (g232.cell ta0 (by decide +kernel)).trans c125
                have c241 : I229 a0 8 = v81 := (g232.cell ta0 (by decide +kernel)).trans c126
                obtain ⟨v242, c243⟩ : ∃ v, I229 a0 9 = v := ⟨_, rfl⟩
                have b244 := iv15_9 hS237.1 ta0 c243
                rw [c243] at p234
                rw [c241] at p235
                rw [c126] at p235
                have ov245 := w236.over (by rw [c220]; exact om_394b70a2 p141)
                obtain ⟨v246, c247⟩ : ∃ v, I229 a0 9 = v := ⟨_, rfl⟩
                have b248 := iv15_9 hS237.1 ta0 c247
                obtain ⟨v249, c250⟩ : ∃ v, I229 a0 13 = v := ⟨_, rfl⟩
                obtain ⟨v251, c252⟩ : ∃ v, I229 a0 14 = v := ⟨_, rfl⟩
                (try rw [c247] at ov245)
                (try rw [c250] at ov245)
                (try rw [c252] at ov245)
                (try rw [c220] at ov245)
                (try rw [c223] at ov245)
                (try rw [c225] at ov245)
                refine tr_aload_n dX12_readRising_50 hl56 ?_
                refine q_callVv hE (M' := mX12_goesOn) (as := []) dX12_readRising_51 lk12_142 inX12_goesOn seX12_goesOn myX12_goesOn (by decide) ⟨by decide, by decide⟩ rfl (kR15 hS237.1 ta0) (Nat.le_of_ble_eq_true rfl) rfl rfl (by decide) (by decide) (k_X12_goesOn hS237.1 ta0) ?_
                rintro cn' K' N' I253 R254 L255 ⟨rfl, rfl, rfl, rfl, g256, p258, p259, p260, w261, -⟩
                have hS262 := hS237.tr g256 (by decide +kernel) (by decide +kernel)
                have c263 : I253 a0 13 = v249 := (g256.cell ta0 (by decide +kernel)).trans c250
                have c264 : I253 a0 14 = v251 := (g256.cell ta0 (by decide +kernel)).trans c252
                obtain ⟨v265, c266⟩ : ∃ v, I253 a0 9 = v := ⟨_, rfl⟩
                have b267 := iv15_9 hS262.1 ta0 c266
                rw [c247] at p258
                rw [c266] at p258
                rw [c247] at p259
                rw [c266] at p259
                obtain ⟨v268, c269⟩ : ∃ v, I253 a0 8 = v := ⟨_, rfl⟩
                have b270 := iv15_8 hS262.1 ta0 c269
                rw [c269] at p260
                rw [c241] at p260
                rw [c263] at p260
                rw [c250] at p260
                have ov271 := w261.over (by rw [c247]; exact om_394b70a2 ov245.1)
                obtain ⟨v272, c273⟩ : ∃ v, I253 a0 9 = v := ⟨_, rfl⟩
                have b274 := iv15_9 hS262.1 ta0 c273
                obtain ⟨v275, c276⟩ : ∃ v, I253 a0 13 = v := ⟨_, rfl⟩
                obtain ⟨v277, c278⟩ : ∃ v, I253 a0 14 = v := ⟨_, rfl⟩
                (try rw [c273] at ov271)
                (try rw [c276] at ov271)
                (try rw [c278] at ov271)
                (try rw [c247] at ov271)
                (try rw [c250] at ov271)
                (try rw [c252] at ov271)
                refine tr_aload_n dX12_readRising_54 hl56 ?_
                refine q_getI dX12_readRising_55 fl12_99 (kR15 hS262.1 ta0) c273 ?_
                refine q_iconst dX12_readRising_58 (by decide) ?_
                intro v279 h280
                refine q_icmp_ne 64 dX12_readRising_59 (by decide) (fun h281 => ?_) (fun h281 => ?_)
                · skip
                  exfalso; exact om_1fa3e129 ov271.1 h280 h281
                · skip
                  refine q_iconst dX12_readRising_62 (by decide) ?_
                  intro v282 h283
                  obtain ⟨v284, c285⟩ : ∃ v, I253 a0 10 = v := ⟨_, rfl⟩
                  have b286 := iv15_10 hS262.1 ta0 c285
                  obtain ⟨v287, c288⟩ : ∃ v, I253 a0 11 = v := ⟨_, rfl⟩
                  obtain ⟨y289, c290⟩ : ∃ v, L255 a0 15 = v := ⟨_, rfl⟩
                  obtain ⟨v291, c292⟩ : ∃ v, I253 a0 12 = v := ⟨_, rfl⟩
                  exact tr_iret hZ dX12_readRising_63 rfl (by decide) (by decide) ⟨v282, rfl, rfl, rfl, rfl, rfl, hS262, (by exact om_7d21acc5 h283), (Or.inr (⟨(by rw [← g83]; simp only [riF, ↓reduceIte]; exact om_24d90ed0 p140), (by (try rw [c273]); first | done | with_reducible assumption | exact om_394b70a2 ov271.1), (by (try rw [c276]); rw [← g83]; simp only [riF, ↓reduceIte]; exact om_1f4892f2 p140 p142 ov245.2.1 ov271.2.1), (by (try rw [c278]); rw [← g84]; simp only [riP, ↓reduceIte]; exact om_1c22ab7e p143 ov245.2.2 ov271.2.2), trivial⟩)), trivial⟩
            · skip
              obtain ⟨v293, c294⟩ : ∃ v, I115 a0 9 = v := ⟨_, rfl⟩
              have b295 := iv15_9 hS122.1 ta0 c294
              rw [c294] at p147
              obtain ⟨v296, c297⟩ : ∃ v, I115 a0 13 = v := ⟨_, rfl⟩
              rw [c297] at p148
              obtain ⟨v298, c299⟩ : ∃ v, I115 a0 14 = v := ⟨_, rfl⟩
              rw [c299] at p149
              refine tr_istore dX12_readRising_37 (by decide) (by decide) ?_
              refine tr_iload dX12_readRising_39 hl60 ?_
              refine tr_iload_n dX12_readRising_41 hl59 ?_
              refine q_icmp_ne 50 dX12_readRising_42 (by decide) (fun h300 => ?_) (fun h300 => ?_)
              · skip
                exfalso; exact om_8be05020 hx3.2 hx3.1 g91 h300
              · skip
                refine tr_aload_n dX12_readRising_45 hl56 ?_
                refine q_iconst dX12_readRising_46 (by decide) ?_
                intro v301 h302
                refine q_callVv hE (M' := mX12_flaw) (as := [_]) dX12_readRising_47 lk12_145 inX12_flaw seX12_flaw myX12_flaw (by decide) ⟨by decide, by decide⟩ rfl (kR15 hS122.1 ta0) (Nat.le_of_ble_eq_true rfl) rfl rfl (by decide) (by decide) (k_X12_flaw hS122.1 ta0 (by exact om_054a361c h302)) ?_
                rintro cn' K' N' I303 R304 L305 ⟨rfl, rfl, rfl, rfl, rfl, g306, p308, p309, w310, -⟩
                have hS311 := hS122.tr g306 (by decide +kernel) (by decide +kernel)
                have c312 : I303 a0 10 = v73 := (g306.cell ta0 (by decide +kernel)).trans c123
                have c313 : I303 a0 11 = v75 := (g306.cell ta0 (by decide +kernel)).trans c124
                have c314 : I303 a0 12 = v79 := (g306.cell ta0 (by decide +kernel)).trans c125
                have c315 : I303 a0 8 = v81 := (g306.cell ta0 (by decide +kernel)).trans c126
                obtain ⟨v316, c317⟩ : ∃ v, I303 a0 9 = v := ⟨_, rfl⟩
                have b318 := iv15_9 hS311.1 ta0 c317
                rw [c317] at p308
                rw [c315] at p309
                rw [c126] at p309
                have ov319 := w310.over (by rw [c294]; exact om_394b70a2 p147)
                obtain ⟨v320, c321⟩ : ∃ v, I303 a0 9 = v := ⟨_, rfl⟩
                have b322 := iv15_9 hS311.1 ta0 c321
                obtain ⟨v323, c324⟩ : ∃ v, I303 a0 13 = v := ⟨_, rfl⟩
                obtain ⟨v325, c326⟩ : ∃ v, I303 a0 14 = v := ⟨_, rfl⟩
                (try rw [c321] at ov319)
                (try rw [c324] at ov319)
                (try rw [c326] at ov319)
                (try rw [c294] at ov319)
                (try rw [c297] at ov319)
                (try rw [c299] at ov319)
                refine tr_aload_n dX12_readRising_50 hl56 ?_
                refine q_callVv hE (M' := mX12_goesOn) (as := []) dX12_readRising_51 lk12_142 inX12_goesOn seX12_goesOn myX12_goesOn (by decide) ⟨by decide, by decide⟩ rfl (kR15 hS311.1 ta0) (Nat.le_of_ble_eq_true rfl) rfl rfl (by decide) (by decide) (k_X12_goesOn hS311.1 ta0) ?_
                rintro cn' K' N' I327 R328 L329 ⟨rfl, rfl, rfl, rfl, g330, p332, p333, p334, w335, -⟩
                have hS336 := hS311.tr g330 (by decide +kernel) (by decide +kernel)
                have c337 : I327 a0 13 = v323 := (g330.cell ta0 (by decide +kernel)).trans c324
                have c338 : I327 a0 14 = v325 := (g330.cell ta0 (by decide +kernel)).trans c326
                obtain ⟨v339, c340⟩ : ∃ v, I327 a0 9 = v := ⟨_, rfl⟩
                have b341 := iv15_9 hS336.1 ta0 c340
                rw [c321] at p332
                rw [c340] at p332
                rw [c321] at p333
                rw [c340] at p333
                obtain ⟨v342, c343⟩ : ∃ v, I327 a0 8 = v := ⟨_, rfl⟩
                have b344 := iv15_8 hS336.1 ta0 c343
                rw [c343] at p334
                rw [c315] at p334
                rw [c337] at p334
                rw [c324] at p334
                have ov345 := w335.over (by rw [c321]; exact om_394b70a2 ov319.1)
                obtain ⟨v346, c347⟩ : ∃ v, I327 a0 9 = v := ⟨_, rfl⟩
                have b348 := iv15_9 hS336.1 ta0 c347
                obtain ⟨v349, c350⟩ : ∃ v, I327 a0 13 = v := ⟨_, rfl⟩
                obtain ⟨v351, c352⟩ : ∃ v, I327 a0 14 = v := ⟨_, rfl⟩
                (try rw [c347] at ov345)
                (try rw [c350] at ov345)
                (try rw [c352] at ov345)
                (try rw [c321] at ov345)
                (try rw [c324] at ov345)
                (try rw [c326] at ov345)
                refine tr_aload_n dX12_readRising_54 hl56 ?_
                refine q_getI dX12_readRising_55 fl12_99 (kR15 hS336.1 ta0) c347 ?_
                refine q_iconst dX12_readRising_58 (by decide) ?_
                intro v353 h354
                refine q_icmp_ne 64 dX12_readRising_59 (by decide) (fun h355 => ?_) (fun h355 => ?_)
                · skip
                  exfalso; exact om_1fa3e129 ov345.1 h354 h355
                · skip
                  refine q_iconst dX12_readRising_62 (by decide) ?_
                  intro v356 h357
                  obtain ⟨v358, c359⟩ : ∃ v, I327 a0 10 = v := ⟨_, rfl⟩
                  have b360 := iv15_10 hS336.1 ta0 c359
                  obtain ⟨v361, c362⟩ : ∃ v, I327 a0 11 = v := ⟨_, rfl⟩
                  obtain ⟨y363, c364⟩ : ∃ v, L329 a0 15 = v := ⟨_, rfl⟩
                  obtain ⟨v365, c366⟩ : ∃ v, I327 a0 12 = v := ⟨_, rfl⟩
                  exact tr_iret hZ dX12_readRising_63 rfl (by decide) (by decide) ⟨v356, rfl, rfl, rfl, rfl, rfl, hS336, (by exact om_7d21acc5 h357), (Or.inr (⟨(by rw [← g83]; simp only [riF, ↓reduceIte]; exact om_62e43f65), (by (try rw [c347]); first | done | with_reducible assumption | exact om_394b70a2 ov345.1), (by (try rw [c350]); rw [← g83]; simp only [riF, ↓reduceIte]; exact om_81a00778 p42 h112 h114 p145 p146 p148 ov319.1 ov319.2.1 p333 p332 b341.2 b341.1 ov345.2.1), (by (try rw [c352]); rw [← g84]; simp only [riP, ↓reduceIte]; exact om_1c22ab7e p149 ov319.2.2 ov345.2.2), trivial⟩)), trivial⟩
      · skip
        obtain ⟨gk106, rfl⟩ : ∃ k, gr66 = k + 1 := ⟨gr66 - 1, by exact om_87755ad8 g89 g90 g91 hz105⟩
        refine tr_iload dX12_readRising_9 hl62 ?_
        refine q_if_eq 92 dX12_readRising_11 (by decide) (fun h367 => ?_) (fun h367 => ?_)
        · skip
          exfalso; exact om_3624102b g86 h367
        · skip
          refine tr_aload_n dX12_readRising_14 hl56 ?_
          refine q_getI dX12_readRising_15 fl12_99 (kR15 hS67.1 ta0) c72 ?_
          refine q_iconst dX12_readRising_18 (by decide) ?_
          intro v368 h369
          refine q_icmp_eq 92 dX12_readRising_19 (by decide) (fun h370 => ?_) (fun h370 => ?_)
          · skip
            exfalso; exact om_590814ed g93 g94 b102.1 h369 h370
          · skip
            refine tr_aload_n dX12_readRising_22 hl56 ?_
            refine tr_iload dX12_readRising_23 hl61 ?_
            refine tr_aload_n dX12_readRising_25 hl56 ?_
            refine tr_getR dX12_readRising_26 fl12_188 (kR15 hS67.1 ta0) d12 ?_
            refine q_getI dX12_readRising_29 fl12_192 (kR14 hS67.1 ta11) ((hS67.cell ta11 (by decide +kernel)).trans c40) ?_
            refine q_iconst dX12_readRising_32 (by decide) ?_
            intro v371 h372
            refine q_isubE dX12_readRising_33 (by intro j1 j2 j3 j4; exact om_329ab692 pre9 b41.2 b41.1 p42 h372) ?_
            intro v373 h374
            refine q_callVi hE (M' := mX12_bounded) (as := [_, _]) dX12_readRising_34 lk12_153 inX12_bounded seX12_bounded myX12_bounded (by decide) ⟨by decide, by decide⟩ rfl (kR15 hS67.1 ta0) (Nat.le_of_ble_eq_true rfl) rfl rfl (by decide) (by decide) (fk_X12_bounded hS67.1 (gB) (gs65) ta0 (by (try rw [c72]); first | done | with_reducible assumption | omega) (by (try rw [c72]); first | done | with_reducible assumption | omega) (by (try rw [c74]); first | done | with_reducible assumption | omega) (by (try rw [c76]); first | done | with_reducible assumption | omega) (by (try rw [c78]); first | done | assumption) (by (try rw [c80]); first | done | assumption) (by (try rw [c82]); first | done | assumption)) ?_
            rintro v380 cn' K' N' I375 R376 L377 ⟨rfl, rfl, rfl, rfl, rfl, g378, dj381, -⟩
            have hS382 := hS67.tr g378 (by decide +kernel) (by decide +kernel)
            have c383 : I375 a0 10 = v73 := (g378.cell ta0 (by decide +kernel)).trans c74
            have c384 : I375 a0 11 = v75 := (g378.cell ta0 (by decide +kernel)).trans c76
            have c385 : I375 a0 12 = v79 := (g378.cell ta0 (by decide +kernel)).trans c80
            have c386 : I375 a0 8 = v81 := (g378.cell ta0 (by decide +kernel)).trans c82
            rcases dj381 with ⟨p387, p388, p389, p390, p391, p392, p393, p394, p395, p396, p397, p398, -⟩ | ⟨p399, p400, p401, p402, p403, -⟩ | ⟨p404, p405, p406, p407, p408, p409, -⟩
            · skip
              obtain ⟨v410, c411⟩ : ∃ v, I375 a0 13 = v := ⟨_, rfl⟩
              rw [c411] at p391
              rw [c70] at p391
              obtain ⟨v412, c413⟩ : ∃ v, I375 a0 9 = v := ⟨_, rfl⟩
              have b414 := iv15_9 hS382.1 ta0 c413
              rw [c413] at p392
              rw [c413] at p393
              rw [c383] at p394
              rw [c384] at p395
              rw [c78] at p396
              rw [c385] at p397
              rw [c386] at p398
              refine tr_istore dX12_readRising_37 (by decide) (by decide) ?_
              refine tr_iload dX12_readRising_39 hl60 ?_
              refine tr_iload_n dX12_readRising_41 hl59 ?_
              refine q_icmp_ne 50 dX12_readRising_42 (by decide) (fun h415 => ?_) (fun h415 => ?_)
              · skip
                refine tr_aload_n dX12_readRising_50 hl56 ?_
                have p416 := p398 (by exact om_cab07503 p388)
                refine q_callVv hE (M' := mX12_goesOn) (as := []) dX12_readRising_51 lk12_142 inX12_goesOn seX12_goesOn myX12_goesOn (by decide) ⟨by decide, by decide⟩ rfl (kR15 hS382.1 ta0) (Nat.le_of_ble_eq_true rfl) rfl rfl (by decide) (by decide) (fk_X12_goesOn hS382.1 (gB) ((tkN gB gs65)) ta0 (TxA.kp hT hS382 ta0 rfl rfl rfl (by decide +kernel) (by decide +kernel)) (by (try rw [c386]); first | done | with_reducible assumption | omega) (by (try rw [((hS382.cell ta0 (by decide +kernel)).trans c36)]); first | done | with_reducible assumption | omega) (by (try rw [c413]); first | done | with_reducible assumption | exact om_25eaf917 g93 g94 b102.1 p392)) ?_
                rintro cn' K' N' I417 R418 L419 ⟨rfl, rfl, rfl, rfl, g420, gl421, p423, p424, p425, p426, p427, p428, p429, -⟩
                have hS430 := hS382.tr g420 (by decide +kernel) (by decide +kernel)
                have c431 : I417 a0 13 = v410 := (g420.cell ta0 (by decide +kernel)).trans c411
                have hL432 := hL68.tr gl421 (by decide +kernel)
                obtain ⟨v433, c434⟩ : ∃ v, I417 a0 9 = v := ⟨_, rfl⟩
                have b435 := iv15_9 hS430.1 ta0 c434
                rw [c434] at p423
                rw [c434] at p424
                obtain ⟨v436, c437⟩ : ∃ v, I417 a0 10 = v := ⟨_, rfl⟩
                have b438 := iv15_10 hS430.1 ta0 c437
                rw [c437] at p425
                obtain ⟨v439, c440⟩ : ∃ v, I417 a0 11 = v := ⟨_, rfl⟩
                rw [c440] at p426
                obtain ⟨y441, c442⟩ : ∃ v, L419 a0 15 = v := ⟨_, rfl⟩
                rw [c442] at p427
                obtain ⟨v443, c444⟩ : ∃ v, I417 a0 12 = v := ⟨_, rfl⟩
                rw [c444] at p428
                obtain ⟨v445, c446⟩ : ∃ v, I417 a0 8 = v := ⟨_, rfl⟩
                have b447 := iv15_8 hS430.1 ta0 c446
                rw [c446] at p429
                refine tr_aload_n dX12_readRising_54 hl56 ?_
                refine q_getI dX12_readRising_55 fl12_99 (kR15 hS430.1 ta0) c434 ?_
                refine q_iconst dX12_readRising_58 (by decide) ?_
                intro v448 h449
                refine q_icmp_ne 64 dX12_readRising_59 (by decide) (fun h450 => ?_) (fun h450 => ?_)
                · skip
                  refine tr_aload_n dX12_readRising_64 hl57 ?_
                  refine tr_iload_n dX12_readRising_65 hl58 ?_
                  refine tr_iload dX12_readRising_66 hl60 ?_
                  refine q_iaddE dX12_readRising_68 (by intro j1 j2 j3 j4; exact om_f65b6c8e hx2.2 hx2.1 pre10 g89 g90 g91) ?_
                  intro v451 h452
                  refine tr_iload dX12_readRising_69 rfl ?_
                  refine q_iast dX12_readRising_71 (kR61 hS430.1 ta1) (ti_in (nR61 hS430.1 ta1) (by exact om_a0de44db hx2.2 hx2.1 pre10 g89 g90 g91 h452) (by exact om_dde3f219 hx2.2 hx2.1 pre10 g89 g90 g91 h452)) hS430 ta1 (by show (0 : Int) ≤ v380.toInt ∧ v380.toInt ≤ (239 : Int); exact om_b00d04b4 pre9 b41.2 b41.1 p42 g87 g88 h372 h374 p387 p389 p390) rfl (by rfl) ?_
                  intro I453 hS454 e456 f455
                  have c457 : I453 a0 13 = v410 := (f455 _ _ (fun q => by have z := ta0; rw [q.1, ta1] at z; exact absurd z (by decide))).trans c431
                  have c458 : I453 a0 9 = v433 := (f455 _ _ (fun q => by have z := ta0; rw [q.1, ta1] at z; exact absurd z (by decide))).trans c434
                  have c459 : I453 a0 10 = v436 := (f455 _ _ (fun q => by have z := ta0; rw [q.1, ta1] at z; exact absurd z (by decide))).trans c437
                  have c460 : I453 a0 11 = v439 := (f455 _ _ (fun q => by have z := ta0; rw [q.1, ta1] at z; exact absurd z (by decide))).trans c440
                  have c461 : I453 a0 12 = v443 := (f455 _ _ (fun q => by have z := ta0; rw [q.1, ta1] at z; exact absurd z (by decide))).trans c444
                  have c462 : I453 a0 8 = v445 := (f455 _ _ (fun q => by have z := ta0; rw [q.1, ta1] at z; exact absurd z (by decide))).trans c446
                  refine q_iincE dX12_readRising_72 hl60 (by decide) (by decide) (by intro j1 j2; exact om_54369828 g89 g90 g91) ?_
                  intro v463 h464
                  refine tr_iload dX12_readRising_75 rfl ?_
                  refine q_iconst dX12_readRising_77 (by decide) ?_
                  intro v465 h466
                  refine q_iaddE dX12_readRising_78 (by intro j1 j2 j3 j4; exact om_c223b25f pre9 b41.2 b41.1 p42 g87 g88 h372 h374 p387 p389 p390 h466 j1 j2) ?_
                  intro v467 h468
                  refine tr_istore dX12_readRising_79 (by decide) (by decide) ?_
                  refine tr_aload_n dX12_readRising_81 hl56 ?_
                  refine q_bipush dX12_readRising_82 (by decide +kernel) ?_
                  intro v469 h470
                  refine q_callVi hE (M' := mX12_eatsSign) (as := [_]) dX12_readRising_84 lk12_221 inX12_eatsSign seX12_eatsSign myX12_eatsSign (by decide) ⟨by decide, by decide⟩ rfl (kR15 hS454.1 ta0) (Nat.le_of_ble_eq_true rfl) rfl rfl (by decide) (by decide) (fk_X12_eatsSign hS454.1 (gB) ((tkN gB gs65)) ta0 (TxA.kp hT hS454 ta0 rfl rfl rfl (by decide +kernel) (by decide +kernel)) (by (try rw [c458]); first | done | with_reducible assumption | omega) (by (try rw [c458]); first | done | with_reducible assumption | omega) (by (try rw [c459]); first | done | with_reducible assumption | omega) (by (try rw [c460]); first | done | with_reducible assumption | omega) (by (try rw [c442]); first | done | assumption) (by (try rw [c461]); first | done | assumption) (by (try rw [c462]); first | done | assumption) (by (try rw [((hS454.cell ta0 (by decide +kernel)).trans c36)]); first | done | with_reducible assumption | omega) (by first | done | with_reducible assumption | exact om_00f2e567 h470)) ?_
                  rintro v476 cn' K' N' I471 R472 L473 ⟨rfl, rfl, rfl, rfl, g474, gl475, h477, dj478, -⟩
                  have hS479 := hS454.tr g474 (by decide +kernel) (by decide +kernel)
                  have c480 : I471 a0 13 = v410 := (g474.cell ta0 (by decide +kernel)).trans c457
                  have hL481 := hL432.tr gl475 (by decide +kernel)
                  rcases dj478 with ⟨p482, p483, p484, p485, p486, p487, p488, p489, p490, p491, -⟩ | ⟨p492, p493, p494, p495, p496, p497, p498, p499, p500, p501, -⟩
                  · skip
                    rw [c480] at p484
                    rw [c457] at p484
                    obtain ⟨v502, c503⟩ : ∃ v, I471 a0 9 = v := ⟨_, rfl⟩
                    have b504 := iv15_9 hS479.1 ta0 c503
                    rw [c503] at p485
                    rw [c503] at p486
                    obtain ⟨v505, c506⟩ : ∃ v, I471 a0 10 = v := ⟨_, rfl⟩
                    have b507 := iv15_10 hS479.1 ta0 c506
                    rw [c506] at p487
                    obtain ⟨v508, c509⟩ : ∃ v, I471 a0 11 = v := ⟨_, rfl⟩
                    rw [c509] at p488
                    obtain ⟨y510, c511⟩ : ∃ v, L473 a0 15 = v := ⟨_, rfl⟩
                    rw [c511] at p489
                    obtain ⟨v512, c513⟩ : ∃ v, I471 a0 12 = v := ⟨_, rfl⟩
                    rw [c513] at p490
                    obtain ⟨v514, c515⟩ : ∃ v, I471 a0 8 = v := ⟨_, rfl⟩
                    have b516 := iv15_8 hS479.1 ta0 c515
                    rw [c515] at p491
                    refine tr_istore dX12_readRising_87 (by decide) (by decide) ?_
                    refine tr_goto 9 dX12_readRising_89 (by decide) ?_
                    exact ih100 _ v463 v467 v476 I471 L473 ((tkN gB (tkN gB gs65))) (gk106) v410 v502 v505 v508 y510 v512 v514 hl56 hl57 hl58 hl59 rfl rfl rfl hS479 hL481 c480 c503 c506 c509 c511 c513 c515 (by rw [← g83]; simp only [riF, ↓reduceIte]; rw [show v467.toInt = tkV gB gs65 + 1 by exact om_58c7f992 p387 h466 h468]; repeat' (first | split | omega)) (by rw [← g84]; simp only [riP, ↓reduceIte]; rw [show v467.toInt = tkV gB gs65 + 1 by exact om_58c7f992 p387 h466 h468]; repeat' (first | split | omega)) (by rw [← g85]; simp only [riS, ↓reduceIte]; rw [show v467.toInt = tkV gB gs65 + 1 by exact om_58c7f992 p387 h466 h468]; repeat' (first | split | omega)) (by exact om_ee8a1e2d p482) (by exact om_63134851 g87 g88 p387 p389 h466 h468) (by exact om_8691eab6 pre9 b41.2 b41.1 p42 h372 h374 p387 p390 h466 h468) (by exact om_5091679b g89 g90 g91 h464) (by exact om_92d89344 g89 g90 g91 h464) (by exact om_8d2c04aa g91 h464) (by exact om_9fa72578 g92 p391) (by exact om_acd7a85a p485) (by exact om_fc4b6669 p486) (by exact om_acd7a85a p487) (by exact om_acd7a85a p488) (by assumption) (by assumption) (by assumption) (by exact om_eec28447 hx3.2 hx3.1 g86 g89 g90 g93 g94 hm100 b102.1 g91 h367 h369 h370 p392 h415 p424 p423 b435.1 h449 h450 h464)
                  · skip
                    rw [c480] at p494
                    rw [c457] at p494
                    obtain ⟨v517, c518⟩ : ∃ v, I471 a0 9 = v := ⟨_, rfl⟩
                    have b519 := iv15_9 hS479.1 ta0 c518
                    rw [c518] at p495
                    rw [c518] at p496
                    obtain ⟨v520, c521⟩ : ∃ v, I471 a0 10 = v := ⟨_, rfl⟩
                    have b522 := iv15_10 hS479.1 ta0 c521
                    rw [c521] at p497
                    obtain ⟨v523, c524⟩ : ∃ v, I471 a0 11 = v := ⟨_, rfl⟩
                    rw [c524] at p498
                    obtain ⟨y525, c526⟩ : ∃ v, L473 a0 15 = v := ⟨_, rfl⟩
                    rw [c526] at p499
                    obtain ⟨v527, c528⟩ : ∃ v, I471 a0 12 = v := ⟨_, rfl⟩
                    rw [c528] at p500
                    obtain ⟨v529, c530⟩ : ∃ v, I471 a0 8 = v := ⟨_, rfl⟩
                    have b531 := iv15_8 hS479.1 ta0 c530
                    rw [c530] at p501
                    refine tr_istore dX12_readRising_87 (by decide) (by decide) ?_
                    refine tr_goto 9 dX12_readRising_89 (by decide) ?_
                    refine tr_iload dX12_readRising_9 rfl ?_
                    refine q_if_eq 92 dX12_readRising_11 (by decide) (fun h532 => ?_) (fun h532 => ?_)
                    · skip
                      refine tr_iload dX12_readRising_92 rfl ?_
                      have es533 : riS gB gQ 8 0 gs = (tkN gB gs65) := by rw [← g85]; simp only [riS, ↓reduceIte]; exact om_f7ae9107 h470 p493
                      obtain ⟨v534, c535⟩ : ∃ v, I471 a0 14 = v := ⟨_, rfl⟩
                      exact tr_iret hZ dX12_readRising_94 rfl (by decide) (by decide) ⟨v463, rfl, rfl, rfl, rfl, rfl, hS479, (by exact om_cbe4ec27 g89 g90 g91 h464), (Or.inl ⟨(by rw [← g83]; simp only [riF, ↓reduceIte]; exact om_bd7149ef p42 h372 h374 p387 p388 p389 p390 h466 h468 h470 p493), (by (try rw [es533]); (try rw [c480]); (try rw [c46]); first | done | with_reducible assumption | exact om_9fa72578 g92 p391), (by (try rw [es533]); (try rw [c518]); first | done | with_reducible assumption | omega), (by (try rw [es533]); (try rw [c518]); first | done | with_reducible assumption | omega), (by (try rw [es533]); (try rw [c521]); first | done | with_reducible assumption | omega), (by (try rw [es533]); (try rw [c524]); first | done | with_reducible assumption | omega), (by (try rw [es533]); (try rw [c526]); first | done | assumption), (by (try rw [es533]); (try rw [c528]); first | done | assumption), (by (try rw [es533]); (try rw [c530]); first | done | assumption), hL481, trivial⟩), trivial⟩
                    · skip
                      exfalso; exact om_3a97d4a5 p492 h532
                · skip
                  exfalso; exact om_99cda0b7 p424 p423 b435.1 h449 h450
              · skip
                exfalso; exact om_e38065c1 hx3.2 hx3.1 g89 g90 g91 h415
            · skip
              obtain ⟨v536, c537⟩ : ∃ v, I375 a0 9 = v := ⟨_, rfl⟩
              have b538 := iv15_9 hS382.1 ta0 c537
              rw [c537] at p401
              obtain ⟨v539, c540⟩ : ∃ v, I375 a0 13 = v := ⟨_, rfl⟩
              rw [c540] at p402
              obtain ⟨v541, c542⟩ : ∃ v, I375 a0 14 = v := ⟨_, rfl⟩
              rw [c542] at p403
              refine tr_istore dX12_readRising_37 (by decide) (by decide) ?_
              refine tr_iload dX12_readRising_39 hl60 ?_
              refine tr_iload_n dX12_readRising_41 hl59 ?_
              refine q_icmp_ne 50 dX12_readRising_42 (by decide) (fun h543 => ?_) (fun h543 => ?_)
              · skip
                refine tr_aload_n dX12_readRising_50 hl56 ?_
                refine q_callVv hE (M' := mX12_goesOn) (as := []) dX12_readRising_51 lk12_142 inX12_goesOn seX12_goesOn myX12_goesOn (by decide) ⟨by decide, by decide⟩ rfl (kR15 hS382.1 ta0) (Nat.le_of_ble_eq_true rfl) rfl rfl (by decide) (by decide) (k_X12_goesOn hS382.1 ta0) ?_
                rintro cn' K' N' I544 R545 L546 ⟨rfl, rfl, rfl, rfl, g547, p549, p550, p551, w552, -⟩
                have hS553 := hS382.tr g547 (by decide +kernel) (by decide +kernel)
                have c554 : I544 a0 13 = v539 := (g547.cell ta0 (by decide +kernel)).trans c540
                have c555 : I544 a0 14 = v541 := (g547.cell ta0 (by decide +kernel)).trans c542
                obtain ⟨v556, c557⟩ : ∃ v, I544 a0 9 = v := ⟨_, rfl⟩
                have b558 := iv15_9 hS553.1 ta0 c557
                rw [c537] at p549
                rw [c557] at p549
                rw [c537] at p550
                rw [c557] at p550
                obtain ⟨v559, c560⟩ : ∃ v, I544 a0 8 = v := ⟨_, rfl⟩
                have b561 := iv15_8 hS553.1 ta0 c560
                rw [c560] at p551
                rw [c386] at p551
                rw [c554] at p551
                rw [c540] at p551
                have ov562 := w552.over (by rw [c537]; exact om_394b70a2 p401)
                obtain ⟨v563, c564⟩ : ∃ v, I544 a0 9 = v := ⟨_, rfl⟩
                have b565 := iv15_9 hS553.1 ta0 c564
                obtain ⟨v566, c567⟩ : ∃ v, I544 a0 13 = v := ⟨_, rfl⟩
                obtain ⟨v568, c569⟩ : ∃ v, I544 a0 14 = v := ⟨_, rfl⟩
                (try rw [c564] at ov562)
                (try rw [c567] at ov562)
                (try rw [c569] at ov562)
                (try rw [c537] at ov562)
                (try rw [c540] at ov562)
                (try rw [c542] at ov562)
                refine tr_aload_n dX12_readRising_54 hl56 ?_
                refine q_getI dX12_readRising_55 fl12_99 (kR15 hS553.1 ta0) c564 ?_
                refine q_iconst dX12_readRising_58 (by decide) ?_
                intro v570 h571
                refine q_icmp_ne 64 dX12_readRising_59 (by decide) (fun h572 => ?_) (fun h572 => ?_)
                · skip
                  exfalso; exact om_1fa3e129 ov562.1 h571 h572
                · skip
                  refine q_iconst dX12_readRising_62 (by decide) ?_
                  intro v573 h574
                  obtain ⟨v575, c576⟩ : ∃ v, I544 a0 10 = v := ⟨_, rfl⟩
                  have b577 := iv15_10 hS553.1 ta0 c576
                  obtain ⟨v578, c579⟩ : ∃ v, I544 a0 11 = v := ⟨_, rfl⟩
                  obtain ⟨y580, c581⟩ : ∃ v, L546 a0 15 = v := ⟨_, rfl⟩
                  obtain ⟨v582, c583⟩ : ∃ v, I544 a0 12 = v := ⟨_, rfl⟩
                  exact tr_iret hZ dX12_readRising_63 rfl (by decide) (by decide) ⟨v573, rfl, rfl, rfl, rfl, rfl, hS553, (by exact om_7d21acc5 h574), (Or.inr (⟨(by rw [← g83]; simp only [riF, ↓reduceIte]; exact om_fd03680b p400), (by (try rw [c564]); first | done | with_reducible assumption | exact om_394b70a2 ov562.1), (by (try rw [c567]); rw [← g83]; simp only [riF, ↓reduceIte]; exact om_807ede3a p400 p402 ov562.2.1), (by (try rw [c569]); rw [← g84]; simp only [riP, ↓reduceIte]; exact om_c9eafa42 p400 p403 ov562.2.2), trivial⟩)), trivial⟩
              · skip
                exfalso; exact om_e38065c1 hx3.2 hx3.1 g89 g90 g91 h543
            · skip
              obtain ⟨v584, c585⟩ : ∃ v, I375 a0 9 = v := ⟨_, rfl⟩
              have b586 := iv15_9 hS382.1 ta0 c585
              rw [c585] at p407
              obtain ⟨v587, c588⟩ : ∃ v, I375 a0 13 = v := ⟨_, rfl⟩
              rw [c588] at p408
              obtain ⟨v589, c590⟩ : ∃ v, I375 a0 14 = v := ⟨_, rfl⟩
              rw [c590] at p409
              refine tr_istore dX12_readRising_37 (by decide) (by decide) ?_
              refine tr_iload dX12_readRising_39 hl60 ?_
              refine tr_iload_n dX12_readRising_41 hl59 ?_
              refine q_icmp_ne 50 dX12_readRising_42 (by decide) (fun h591 => ?_) (fun h591 => ?_)
              · skip
                refine tr_aload_n dX12_readRising_50 hl56 ?_
                refine q_callVv hE (M' := mX12_goesOn) (as := []) dX12_readRising_51 lk12_142 inX12_goesOn seX12_goesOn myX12_goesOn (by decide) ⟨by decide, by decide⟩ rfl (kR15 hS382.1 ta0) (Nat.le_of_ble_eq_true rfl) rfl rfl (by decide) (by decide) (k_X12_goesOn hS382.1 ta0) ?_
                rintro cn' K' N' I592 R593 L594 ⟨rfl, rfl, rfl, rfl, g595, p597, p598, p599, w600, -⟩
                have hS601 := hS382.tr g595 (by decide +kernel) (by decide +kernel)
                have c602 : I592 a0 13 = v587 := (g595.cell ta0 (by decide +kernel)).trans c588
                have c603 : I592 a0 14 = v589 := (g595.cell ta0 (by decide +kernel)).trans c590
                obtain ⟨v604, c605⟩ : ∃ v, I592 a0 9 = v := ⟨_, rfl⟩
                have b606 := iv15_9 hS601.1 ta0 c605
                rw [c585] at p597
                rw [c605] at p597
                rw [c585] at p598
                rw [c605] at p598
                obtain ⟨v607, c608⟩ : ∃ v, I592 a0 8 = v := ⟨_, rfl⟩
                have b609 := iv15_8 hS601.1 ta0 c608
                rw [c608] at p599
                rw [c386] at p599
                rw [c602] at p599
                rw [c588] at p599
                have ov610 := w600.over (by rw [c585]; exact om_394b70a2 p407)
                obtain ⟨v611, c612⟩ : ∃ v, I592 a0 9 = v := ⟨_, rfl⟩
                have b613 := iv15_9 hS601.1 ta0 c612
                obtain ⟨v614, c615⟩ : ∃ v, I592 a0 13 = v := ⟨_, rfl⟩
                obtain ⟨v616, c617⟩ : ∃ v, I592 a0 14 = v := ⟨_, rfl⟩
                (try rw [c612] at ov610)
                (try rw [c615] at ov610)
                (try rw [c617] at ov610)
                (try rw [c585] at ov610)
                (try rw [c588] at ov610)
                (try rw [c590] at ov610)
                refine tr_aload_n dX12_readRising_54 hl56 ?_
                refine q_getI dX12_readRising_55 fl12_99 (kR15 hS601.1 ta0) c612 ?_
                refine q_iconst dX12_readRising_58 (by decide) ?_
                intro v618 h619
                refine q_icmp_ne 64 dX12_readRising_59 (by decide) (fun h620 => ?_) (fun h620 => ?_)
                · skip
                  exfalso; exact om_1fa3e129 ov610.1 h619 h620
                · skip
                  refine q_iconst dX12_readRising_62 (by decide) ?_
                  intro v621 h622
                  obtain ⟨v623, c624⟩ : ∃ v, I592 a0 10 = v := ⟨_, rfl⟩
                  have b625 := iv15_10 hS601.1 ta0 c624
                  obtain ⟨v626, c627⟩ : ∃ v, I592 a0 11 = v := ⟨_, rfl⟩
                  obtain ⟨y628, c629⟩ : ∃ v, L594 a0 15 = v := ⟨_, rfl⟩
                  obtain ⟨v630, c631⟩ : ∃ v, I592 a0 12 = v := ⟨_, rfl⟩
                  exact tr_iret hZ dX12_readRising_63 rfl (by decide) (by decide) ⟨v621, rfl, rfl, rfl, rfl, rfl, hS601, (by exact om_7d21acc5 h622), (Or.inr (⟨(by rw [← g83]; simp only [riF, ↓reduceIte]; exact om_39432413 hx3.2 hx3.1 p42 g89 g90 g91 h372 h374 p406 p407 h591 p598 p597 b606.2 b606.1), (by (try rw [c612]); first | done | with_reducible assumption | exact om_394b70a2 ov610.1), (by (try rw [c615]); rw [← g83]; simp only [riF, ↓reduceIte]; exact om_eb7e54a4 hx3.2 hx3.1 p42 g89 g90 g91 h372 h374 p405 p406 p407 p408 h591 p598 p597 b606.2 b606.1 ov610.2.1), (by (try rw [c617]); rw [← g84]; simp only [riP, ↓reduceIte]; exact om_fe700500 hx3.2 hx3.1 p42 g89 g90 g95 b103.2 b103.1 g91 h372 h374 p406 p407 p409 h591 p598 p597 b606.2 b606.1 ov610.2.2), trivial⟩)), trivial⟩
              · skip
                exfalso; exact om_e38065c1 hx3.2 hx3.1 g89 g90 g91 h591
  exact lp100 _ _ v47 v49 v51 I0 L0 (gs) (8) v45 v13 v18 v22 y25 v28 v31 rfl rfl rfl rfl rfl rfl rfl hS0 hL0 c46 c14 c19 c23 c26 c29 c32 (by first | rfl | (congr 1; omega) | (congr 2 <;> omega)) (by first | rfl | (congr 1; omega) | (congr 2 <;> omega)) (by first | rfl | (congr 1; omega) | (congr 2 <;> omega)) (by exact om_ee8a1e2d h52) (by exact om_d99fa9e4 h50) (by exact om_4c96df26 h50) (by exact om_d99fa9e4 h48) (by exact om_91231c9d h48) (by exact om_45513e8b h48) (by exact om_4ee7209a) (by exact om_acd7a85a p16) (by exact om_fc4b6669 p17) (by exact om_acd7a85a p21) (by exact om_acd7a85a p24) (by assumption) (by assumption) (by assumption) (Nat.lt_succ_self _)
def wik_X12_readSlice : List Nat := [902, 968, 969, 970, 971, 972, 973, 974, 3903, 3967]
def wrk_X12_readSlice : List Nat := []
def wlk_X12_readSlice : List Nat := [975]
set_option maxHeartbeats 4000000 in
theorem fk_X12_readSlice {l : Launch} {T : Nat → Nat} {cn : Nat} {K N : Nat → Nat} {I0 : cz_I} {R0 : cz_R} {L0 : cz_L} (hW0 : Wf T cn K N I0 R0 0) (gB : cz_B) (gs : Int) (gQ : Nat → Int) {a0 : Nat} (ta0 : T a0 = 15) (hT : ∀ t, R0 a0 5 = some t → Tx I0 t gB) (hN : ∀ b, R0 a0 4 = some b → NmM I0 R0 L0 b gQ) (pre0 : (I0 a0 9).toInt = (tkM gB gs)) (pre1 : (I0 a0 9).toInt ≤ 4) (pre2 : (I0 a0 10).toInt = (tkS gB gs)) (pre3 : (I0 a0 11).toInt = (tkG gB gs)) (pre4 : (AtW ((tkK gB gs)) ((L0 a0 15).toInt) ((tkW gB gs)))) (pre5 : (AtV ((tkK gB gs)) ((I0 a0 12).toInt) ((tkV gB gs)))) (pre6 : (AtN ((tkK gB gs)) ((I0 a0 8).toInt) ((tkN gB gs)))) (pre7 : (I0 a0 7).toInt = (gB.2)) (pre8 : ∀ b1, R0 a0 4 = some b1 → (I0 b1 0).toInt = (gQ 0)) (pre9 : ∀ b1, R0 a0 4 = some b1 → (I0 b1 1).toInt = (gQ 1)) (pre10 : ∀ b1, R0 a0 4 = some b1 → (I0 b1 2).toInt = (gQ 2)) (pre11 : ∀ b1, R0 a0 4 = some b1 → (I0 b1 3).toInt = (gQ 3)) (pre12 : ∀ b1, R0 a0 4 = some b1 → (I0 b1 4).toInt = (gQ 4)) (pre13 : ∀ b1, R0 a0 4 = some b1 → (I0 b1 5).toInt = (gQ 5)) (pre14 : ∀ b1, R0 a0 4 = some b1 → (I0 b1 6).toInt = (gQ 6)) (pre15 : ∀ b1, R0 a0 4 = some b1 → (I0 b1 9).toInt = (gQ 8)) (pre16 : (Q7M ((gQ 0)) ((gQ 7)))) (pre17 : (tkK gB gs) = 1) (pre18 : (srt gB gs) = 9) (nn4 : ∃ b, R0 a0 4 = some b) : ConE l mX12_readSlice [.ref a0] cn K N I0 R0 L0 (ca_v (fun cn' K' N' I' R' L' => cn = cn' ∧ K = K' ∧ N = N' ∧ R0 = R' ∧ St T cn K N 0 wik_X12_readSlice wrk_X12_readSlice I0 R0 I' R0 ∧ (∀ dr, R0 a0 4 = some dr → FrO 14 dr T I0 I') ∧ ((((lnF gB gQ gs) = 0) ∧ (∀ b1, R0 a0 4 = some b1 → (I' b1 0).toInt = (lnQ gB gQ gs 0)) ∧ (∀ b1, R0 a0 4 = some b1 → (I' b1 1).toInt = (lnQ gB gQ gs 1)) ∧ (∀ b1, R0 a0 4 = some b1 → (I' b1 2).toInt = (lnQ gB gQ gs 2)) ∧ (∀ b1, R0 a0 4 = some b1 → (I' b1 3).toInt = (lnQ gB gQ gs 3)) ∧ (∀ b1, R0 a0 4 = some b1 → (I' b1 4).toInt = (lnQ gB gQ gs 4)) ∧ (∀ b1, R0 a0 4 = some b1 → (I' b1 5).toInt = (lnQ gB gQ gs 5)) ∧ (∀ b1, R0 a0 4 = some b1 → (I' b1 6).toInt = (lnQ gB gQ gs 6)) ∧ (∀ b1, R0 a0 4 = some b1 → (I' b1 9).toInt = (lnQ gB gQ gs 8)) ∧ ((I' a0 13).toInt = (I0 a0 13).toInt) ∧ ((I' a0 9).toInt = (tkM gB (lnS gB gQ gs))) ∧ ((I' a0 9).toInt ≤ 4) ∧ ((I' a0 10).toInt = (tkS gB (lnS gB gQ gs))) ∧ ((I' a0 11).toInt = (tkG gB (lnS gB gQ gs))) ∧ ((AtW ((tkK gB (lnS gB gQ gs))) ((L' a0 15).toInt) ((tkW gB (lnS gB gQ gs))))) ∧ ((AtV ((tkK gB (lnS gB gQ gs))) ((I' a0 12).toInt) ((tkV gB (lnS gB gQ gs))))) ∧ ((AtN ((tkK gB (lnS gB gQ gs))) ((I' a0 8).toInt) ((tkN gB (lnS gB gQ gs))))) ∧ LgS T wlk_X12_readSlice L0 L' ∧ (∀ b, R0 a0 4 = some b → NmM I' R0 L' b (lnQ gB gQ gs)) ∧ True) ∨ (((lnF gB gQ gs) ≠ 0) ∧ ((I' a0 9).toInt = 5) ∧ ((I' a0 13).toInt = (lnF gB gQ gs)) ∧ ((I' a0 14).toInt = (lnP gB gQ gs)) ∧ True)) ∧ True)) := by
  refine ConE.of (by decide +kernel) rfl (Nat.le_of_ble_eq_true rfl) rfl (fun X hX hZ hE => ?_)
  subst hX
  have hS0 : St T cn K N 0 wik_X12_readSlice wrk_X12_readSlice I0 R0 I0 R0 := St.rf0 hW0
  have hL0 : LgS T wlk_X12_readSlice L0 L0 := LgS.rf0
  obtain ⟨a1, d2⟩ := nn4
  have ta1 : T a1 = 14 := hW0.rsN ta0 rfl d2
  obtain ⟨v3, c4⟩ : ∃ v, I0 a0 9 = v := ⟨_, rfl⟩
  have b5 := iv15_9 hS0.1 ta0 c4
  have p6 := pre0
  rw [c4] at p6
  have p7 := pre1
  rw [c4] at p7
  obtain ⟨v8, c9⟩ : ∃ v, I0 a0 10 = v := ⟨_, rfl⟩
  have b10 := iv15_10 hS0.1 ta0 c9
  have p11 := pre2
  rw [c9] at p11
  obtain ⟨v12, c13⟩ : ∃ v, I0 a0 11 = v := ⟨_, rfl⟩
  have p14 := pre3
  rw [c13] at p14
  obtain ⟨y15, c16⟩ : ∃ v, L0 a0 15 = v := ⟨_, rfl⟩
  have p17 := pre4
  rw [c16] at p17
  obtain ⟨v18, c19⟩ : ∃ v, I0 a0 12 = v := ⟨_, rfl⟩
  have p20 := pre5
  rw [c19] at p20
  obtain ⟨v21, c22⟩ : ∃ v, I0 a0 8 = v := ⟨_, rfl⟩
  have b23 := iv15_8 hS0.1 ta0 c22
  have p24 := pre6
  rw [c22] at p24
  obtain ⟨v25, c26⟩ : ∃ v, I0 a0 7 = v := ⟨_, rfl⟩
  have b27 := iv15_7 hW0 ta0 c26
  have p28 := pre7
  rw [c26] at p28
  obtain ⟨v29, c30⟩ : ∃ v, I0 a1 0 = v := ⟨_, rfl⟩
  have b31 := iv14_0 hW0 ta1 c30
  have p32 := pre8 _ d2
  rw [c30] at p32
  obtain ⟨v33, c34⟩ : ∃ v, I0 a1 1 = v := ⟨_, rfl⟩
  have b35 := iv14_1 hW0 ta1 c34
  have p36 := pre9 _ d2
  rw [c34] at p36
  obtain ⟨v37, c38⟩ : ∃ v, I0 a1 2 = v := ⟨_, rfl⟩
  have b39 := iv14_2 hW0 ta1 c38
  have p40 := pre10 _ d2
  rw [c38] at p40
  obtain ⟨v41, c42⟩ : ∃ v, I0 a1 3 = v := ⟨_, rfl⟩
  have b43 := iv14_3 hW0 ta1 c42
  have p44 := pre11 _ d2
  rw [c42] at p44
  obtain ⟨v45, c46⟩ : ∃ v, I0 a1 4 = v := ⟨_, rfl⟩
  have b47 := iv14_4 hW0 ta1 c46
  have p48 := pre12 _ d2
  rw [c46] at p48
  obtain ⟨v49, c50⟩ : ∃ v, I0 a1 5 = v := ⟨_, rfl⟩
  have b51 := iv14_5 hW0 ta1 c50
  have p52 := pre13 _ d2
  rw [c50] at p52
  obtain ⟨v53, c54⟩ : ∃ v, I0 a1 6 = v := ⟨_, rfl⟩
  have b55 := iv14_6 hS0.1 ta1 c54
  have p56 := pre14 _ d2
  rw [c54] at p56
  obtain ⟨v57, c58⟩ : ∃ v, I0 a1 9 = v := ⟨_, rfl⟩
  have b59 := iv14_9 hW0 ta1 c58
  have p60 := pre15 _ d2
  rw [c58] at p60
  have p61 := pre16
  have p62 := pre17
  have p63 := pre18
  obtain ⟨v64, c65⟩ : ∃ v, I0 a0 13 = v := ⟨_, rfl⟩
  have hM0 := hN _ d2
  have hO0 : FrO 14 a1 T I0 I0 := FrO.rf
  have hF := lnF_ch gB gQ gs
  have hP := lnP_ch gB gQ gs
  replace hF := hF.neg (by exact om_158a9ba2 pre18)
  replace hP := hP.neg (by exact om_158a9ba2 pre18)
  replace hF := hF.neg (by exact om_fac1cf92 pre18)
  replace hP := hP.neg (by exact om_fac1cf92 pre18)
  refine tr_aload_n dX12_readSlice_0 rfl ?_
  refine tr_aload_n dX12_readSlice_1 rfl ?_
  refine tr_getR dX12_readSlice_2 fl12_188 (kR15 hS0.1 ta0) d2 ?_
  refine q_getI dX12_readSlice_5 fl12_370 (kR14 hS0.1 ta1) c54 ?_
  refine q_iconst dX12_readSlice_8 (by decide) ?_
  intro v66 h67
  refine q_callVv hE (M' := mX12_begins) (as := [_, _]) dX12_readSlice_9 lk12_268 inX12_begins seX12_begins myX12_begins (by decide) ⟨by decide, by decide⟩ rfl (kR15 hS0.1 ta0) (Nat.le_of_ble_eq_true rfl) rfl rfl (by decide) (by decide) (fk_X12_begins hS0.1 (gB) (gs) (gQ) ta0 (TxA.kp hT hS0 ta0 rfl rfl rfl (by decide +kernel) (by decide +kernel)) (by (try rw [c4]); first | done | with_reducible assumption | omega) (by (try rw [c4]); first | done | with_reducible assumption | omega) (by (try rw [c9]); first | done | with_reducible assumption | omega) (by (try rw [c13]); first | done | with_reducible assumption | omega) (by (try rw [c16]); first | done | assumption) (by (try rw [c19]); first | done | assumption) (by (try rw [c22]); first | done | assumption) (by (try rw [c26]); first | done | with_reducible assumption | omega) (fun q0 z0 => by obtain rfl := Option.some.inj ((d2).symm.trans z0); (try rw [c30]); first | done | with_reducible assumption | omega) (by first | done | with_reducible assumption | omega) ⟨_, d2⟩) ?_
  rintro cn' K' N' I68 R69 L70 ⟨rfl, rfl, rfl, rfl, g71, dj74, -⟩
  have hM75 : NmM I68 R0 L0 a1 gQ := NmM.kpS hM0 g71 hS0.1 ta1 (by decide +kernel) (by decide +kernel)
  have hS76 := hS0.tr g71 (by decide +kernel) (by decide +kernel)
  have c77 : I68 a1 6 = v53 := (g71.cell ta1 (by decide +kernel)).trans c54
  have hO78 : FrO 14 a1 T I0 I68 := hO0.st g71 (by decide +kernel)
  rcases dj74 with ⟨p79, p80, p81, p82, p83, p84, p85, p86, p87, p88, gl89, -⟩ | ⟨p90, p91, p92, p93, -⟩ | ⟨p94, p95, p96, p97, p98, -⟩
  · skip
    have hL99 := hL0.tr gl89 (by decide +kernel)
    have hM100 : NmM I68 R0 L70 a1 gQ := NmM.kpL hM75 gl89 hS76.1 ta1 (by decide +kernel)
    obtain ⟨v101, c102⟩ : ∃ v, I68 a0 13 = v := ⟨_, rfl⟩
    rw [c102] at p81
    rw [c65] at p81
    obtain ⟨v103, c104⟩ : ∃ v, I68 a0 9 = v := ⟨_, rfl⟩
    have b105 := iv15_9 hS76.1 ta0 c104
    rw [c104] at p82
    rw [c104] at p83
    obtain ⟨v106, c107⟩ : ∃ v, I68 a0 10 = v := ⟨_, rfl⟩
    have b108 := iv15_10 hS76.1 ta0 c107
    rw [c107] at p84
    obtain ⟨v109, c110⟩ : ∃ v, I68 a0 11 = v := ⟨_, rfl⟩
    rw [c110] at p85
    obtain ⟨y111, c112⟩ : ∃ v, L70 a0 15 = v := ⟨_, rfl⟩
    rw [c112] at p86
    obtain ⟨v113, c114⟩ : ∃ v, I68 a0 12 = v := ⟨_, rfl⟩
    rw [c114] at p87
    obtain ⟨v115, c116⟩ : ∃ v, I68 a0 8 = v := ⟨_, rfl⟩
    have b117 := iv15_8 hS76.1 ta0 c116
    rw [c116] at p88
    have p118 := p61
    unfold Q7M at p118
    replace hF := hF.neg (by exact om_6d4d7dd0 pre18 b31.2 b31.1 p32 b55.2 b55.1 p56 h67 p79 p80 p118)
    replace hP := hP.neg (by exact om_6d4d7dd0 pre18 b31.2 b31.1 p32 b55.2 b55.1 p56 h67 p79 p80 p118)
    replace hF := hF.neg (by exact om_5b4205da pre18 p80 p118)
    replace hP := hP.neg (by exact om_5b4205da pre18 p80 p118)
    clear p118
    obtain ⟨w119, w120, w121, w122, w123, w124, w125, w126, w127, w128, w129, w130⟩ := lnl_9 (B := gB) (Q := gQ) (s := gs) (by exact om_eb509709 p63)
    replace hF := hF.to w119 (show ChE (riF gB gQ 8 0 (tkN gB gs)) (riF gB gQ 8 0 (tkN gB gs)) from rfl)
    replace hP := hP.to w120 (show ChE (riP gB gQ 8 0 (tkN gB gs)) (riP gB gQ 8 0 (tkN gB gs)) from rfl)
    refine tr_aload_n dX12_readSlice_12 rfl ?_
    refine tr_aload_n dX12_readSlice_13 rfl ?_
    refine tr_getR dX12_readSlice_14 fl12_188 (kR15 hS76.1 ta0) d2 ?_
    obtain ⟨a131, d132, ta131⟩ := rf14_18 hW0 ta1
    refine tr_getR dX12_readSlice_17 fl12_373 (kR14 hS76.1 ta1) d132 ?_
    refine q_bipush dX12_readSlice_20 (by decide +kernel) ?_
    intro v133 h134
    refine tr_aload_n dX12_readSlice_22 rfl ?_
    refine tr_getR dX12_readSlice_23 fl12_188 (kR15 hS76.1 ta0) d2 ?_
    refine q_getI dX12_readSlice_26 fl12_370 (kR14 hS76.1 ta1) c77 ?_
    refine q_imulE (c := 8) dX12_readSlice_29 (by exact om_ab0fb6d5 h134) (by exact om_fc19c4c9 b55.2 b55.1 p56 w128) ?_
    intro v135 h136
    refine q_bipush dX12_readSlice_30 (by decide +kernel) ?_
    intro v137 h138
    refine q_callVi hE (M' := mX12_readRising) (as := [_, _, _]) dX12_readSlice_32 lk12_308 inX12_readRising seX12_readRising myX12_readRising (by decide) ⟨by decide, by decide⟩ rfl (kR15 hS76.1 ta0) (Nat.le_of_ble_eq_true rfl) rfl rfl (by decide) (by decide) (fk_X12_readRising_1 hS76.1 (gB) ((tkN gB gs)) (gQ) ta0 ta131 (by exact om_bb9fe762 b55.2 b55.1 p56 w128 h136) (by exact om_abb56aaf h138) (TxA.kp hT hS76 ta0 rfl rfl rfl (by decide +kernel) (by decide +kernel)) (by (try rw [c104]); first | done | with_reducible assumption | omega) (by (try rw [c104]); first | done | with_reducible assumption | omega) (by (try rw [c107]); first | done | with_reducible assumption | omega) (by (try rw [c110]); first | done | with_reducible assumption | omega) (by (try rw [c112]); first | done | assumption) (by (try rw [c114]); first | done | assumption) (by (try rw [c116]); first | done | assumption) (by (try rw [((hS76.cell ta0 (by decide +kernel)).trans c26)]); first | done | with_reducible assumption | omega) (fun q0 z0 => by obtain rfl := Option.some.inj ((d2).symm.trans z0); (try rw [((hS76.cell ta1 (by decide +kernel)).trans c30)]); first | done | with_reducible assumption | omega) (by first | done | with_reducible assumption | exact om_6c62a19e b31.2 b31.1 p32 p80 w122) (by first | done | with_reducible assumption | exact om_5807c982 b31.2 b31.1 p32 b55.2 b55.1 p56 h67 p79 p80 w122 w128 h136) ⟨_, d2⟩) ?_
    rintro v144 cn' K' N' I139 R140 L141 ⟨rfl, rfl, rfl, rfl, g142, h145, dj146, -⟩
    have hM147 : NmM I139 R0 L70 a1 gQ := NmM.kpS hM100 g142 hS76.1 ta1 (by decide +kernel) (by decide +kernel)
    have hS148 := hS76.tr g142 (by decide +kernel) (by decide +kernel)
    have c149 : I139 a1 6 = v53 := (g142.cell ta1 (by decide +kernel)).trans c77
    have hO150 : FrO 14 a1 T I0 I139 := hO78.st g142 (by decide +kernel)
    rcases dj146 with ⟨p151, p152, p153, p154, p155, p156, p157, p158, p159, gl160, -⟩ | ⟨p161, p162, p163, p164, -⟩
    · skip
      have hL165 := hL99.tr gl160 (by decide +kernel)
      have hM166 : NmM I139 R0 L141 a1 gQ := NmM.kpL hM147 gl160 hS148.1 ta1 (by decide +kernel)
      obtain ⟨v167, c168⟩ : ∃ v, I139 a0 13 = v := ⟨_, rfl⟩
      rw [c168] at p152
      rw [c102] at p152
      obtain ⟨v169, c170⟩ : ∃ v, I139 a0 9 = v := ⟨_, rfl⟩
      have b171 := iv15_9 hS148.1 ta0 c170
      rw [c170] at p153
      rw [c170] at p154
      obtain ⟨v172, c173⟩ : ∃ v, I139 a0 10 = v := ⟨_, rfl⟩
      have b174 := iv15_10 hS148.1 ta0 c173
      rw [c173] at p155
      obtain ⟨v175, c176⟩ : ∃ v, I139 a0 11 = v := ⟨_, rfl⟩
      rw [c176] at p156
      obtain ⟨y177, c178⟩ : ∃ v, L141 a0 15 = v := ⟨_, rfl⟩
      rw [c178] at p157
      obtain ⟨v179, c180⟩ : ∃ v, I139 a0 12 = v := ⟨_, rfl⟩
      rw [c180] at p158
      obtain ⟨v181, c182⟩ : ∃ v, I139 a0 8 = v := ⟨_, rfl⟩
      have b183 := iv15_8 hS148.1 ta0 c182
      rw [c182] at p159
      refine tr_istore_n dX12_readSlice_35 (by decide) (by decide) ?_
      refine tr_aload_n dX12_readSlice_36 rfl ?_
      refine q_getI dX12_readSlice_37 fl12_99 (kR15 hS148.1 ta0) c170 ?_
      refine q_iconst dX12_readSlice_40 (by decide) ?_
      intro v184 h185
      refine q_icmp_ne 45 dX12_readSlice_41 (by decide) (fun h186 => ?_) (fun h186 => ?_)
      · skip
        refine tr_aload_n dX12_readSlice_45 rfl ?_
        refine tr_getR dX12_readSlice_46 fl12_188 (kR15 hS148.1 ta0) d2 ?_
        obtain ⟨a187, d188, ta187⟩ := rf14_17 hW0 ta1
        refine tr_getR dX12_readSlice_49 fl12_375 (kR14 hS148.1 ta1) d188 ?_
        refine tr_aload_n dX12_readSlice_52 rfl ?_
        refine tr_getR dX12_readSlice_53 fl12_188 (kR15 hS148.1 ta0) d2 ?_
        refine q_getI dX12_readSlice_56 fl12_370 (kR14 hS148.1 ta1) c149 ?_
        refine tr_iload_n dX12_readSlice_59 rfl ?_
        refine q_iast dX12_readSlice_60 (kR60 hS148.1 ta187) (ti_in (nR60 hS148.1 ta187) (by exact om_440fd0c9 b55.2 b55.1 p56 w128) (by exact om_2baa980e b31.2 b31.1 p32 b55.2 b55.1 p56 h67 p79 p80 w122 w128 p154 p153 b171.1 h185 h186)) hS148 ta187 (by show (0 : Int) ≤ v144.toInt ∧ v144.toInt ≤ (8 : Int); exact om_575e5997 h145) rfl (by rfl) ?_
        intro I189 hS190 e192 f191
        have c193 : I189 a1 6 = v53 := (f191 _ _ (fun q => by have z := ta1; rw [q.1, ta187] at z; exact absurd z (by decide))).trans c149
        have c194 : I189 a0 13 = v167 := (f191 _ _ (fun q => by have z := ta0; rw [q.1, ta187] at z; exact absurd z (by decide))).trans c168
        have c195 : I189 a0 9 = v169 := (f191 _ _ (fun q => by have z := ta0; rw [q.1, ta187] at z; exact absurd z (by decide))).trans c170
        have c196 : I189 a0 10 = v172 := (f191 _ _ (fun q => by have z := ta0; rw [q.1, ta187] at z; exact absurd z (by decide))).trans c173
        have c197 : I189 a0 11 = v175 := (f191 _ _ (fun q => by have z := ta0; rw [q.1, ta187] at z; exact absurd z (by decide))).trans c176
        have c198 : I189 a0 12 = v179 := (f191 _ _ (fun q => by have z := ta0; rw [q.1, ta187] at z; exact absurd z (by decide))).trans c180
        have c199 : I189 a0 8 = v181 := (f191 _ _ (fun q => by have z := ta0; rw [q.1, ta187] at z; exact absurd z (by decide))).trans c182
        have hO200 : FrO 14 a1 T I0 I189 := hO150.put f191 ta187 (Or.inl (by decide))
        have hM201 : NmM I189 R0 L141 a1 gQ := NmM.kp1 hM166 f191 ta187 rfl rfl hS148.1 ta1
        refine tr_aload_n dX12_readSlice_61 rfl ?_
        refine tr_getR dX12_readSlice_62 fl12_188 (kR15 hS190.1 ta0) d2 ?_
        refine tr_dup dX12_readSlice_65 rfl ?_
        refine q_getI dX12_readSlice_66 fl12_370 (kR14 hS190.1 ta1) c193 ?_
        refine q_iconst dX12_readSlice_69 (by decide) ?_
        intro v202 h203
        refine q_iaddE dX12_readSlice_70 (by intro j1 j2 j3 j4; exact om_1057f747 b55.2 b55.1 p56 w128 h203) ?_
        intro v204 h205
        refine q_putI dX12_readSlice_71 fl12_370 (kR14 hS190.1 ta1) (Or.inl rfl) hS190 ta1 (by show (0 : Int) ≤ v204.toInt ∧ v204.toInt ≤ (4 : Int); exact om_9906412c b31.2 b31.1 p32 b55.2 b55.1 p56 h67 p79 p80 w122 w128 p154 p153 b171.1 h185 h186 h203 h205) rfl (by decide +kernel) ?_
        intro I206 hS207 e208 f209
        have c210 : I206 a0 13 = v167 := (f209 _ _ (fun q => absurd q.2 (by decide))).trans c194
        have c211 : I206 a0 9 = v169 := (f209 _ _ (fun q => absurd q.2 (by decide))).trans c195
        have c212 : I206 a0 10 = v172 := (f209 _ _ (fun q => absurd q.2 (by decide))).trans c196
        have c213 : I206 a0 11 = v175 := (f209 _ _ (fun q => absurd q.2 (by decide))).trans c197
        have c214 : I206 a0 12 = v179 := (f209 _ _ (fun q => absurd q.2 (by decide))).trans c198
        have c215 : I206 a0 8 = v181 := (f209 _ _ (fun q => absurd q.2 (by decide))).trans c199
        have hO216 : FrO 14 a1 T I0 I206 := hO200.put f209 ta1 (Or.inr rfl)
        have hM217 : NmM I206 R0 L141 a1 gQ := NmM.kp1 hM201 f209 ta1 rfl rfl hS190.1 ta1
        have eF := hF.eq
        have eP := hP.eq
        obtain ⟨v218, c219⟩ : ∃ v, I206 a0 14 = v := ⟨_, rfl⟩
        exact tr_vret hZ dX12_readSlice_74 rfl (by decide) (by decide) ⟨rfl, rfl, rfl, rfl, rfl, hS207, (fun dr hd => (Option.some.inj (d2.symm.trans hd)) ▸ hO216), (Or.inl ⟨(by (try rw [w121]); first | done | with_reducible assumption | exact om_d12bbb76 p151 eF), (fun q0 z0 => by obtain rfl := Option.some.inj ((d2).symm.trans z0); (try rw [w121]); (try rw [((hS207.cell ta1 (by decide +kernel)).trans c30)]); first | done | with_reducible assumption | exact om_2757374c p32 w122), (fun q0 z0 => by obtain rfl := Option.some.inj ((d2).symm.trans z0); (try rw [w121]); (try rw [((hS207.cell ta1 (by decide +kernel)).trans c34)]); first | done | with_reducible assumption | exact om_2757374c p36 w123), (fun q0 z0 => by obtain rfl := Option.some.inj ((d2).symm.trans z0); (try rw [w121]); (try rw [((hS207.cell ta1 (by decide +kernel)).trans c38)]); first | done | with_reducible assumption | exact om_2757374c p40 w124), (fun q0 z0 => by obtain rfl := Option.some.inj ((d2).symm.trans z0); (try rw [w121]); (try rw [((hS207.cell ta1 (by decide +kernel)).trans c42)]); first | done | with_reducible assumption | exact om_2757374c p44 w125), (fun q0 z0 => by obtain rfl := Option.some.inj ((d2).symm.trans z0); (try rw [w121]); (try rw [((hS207.cell ta1 (by decide +kernel)).trans c46)]); first | done | with_reducible assumption | exact om_2757374c p48 w126), (fun q0 z0 => by obtain rfl := Option.some.inj ((d2).symm.trans z0); (try rw [w121]); (try rw [((hS207.cell ta1 (by decide +kernel)).trans c50)]); first | done | with_reducible assumption | exact om_2757374c p52 w127), (fun q0 z0 => by obtain rfl := Option.some.inj ((d2).symm.trans z0); (try rw [w121]); (try rw [e208]); first | done | with_reducible assumption | exact om_7149e5be p56 w128 h203 h205), (fun q0 z0 => by obtain rfl := Option.some.inj ((d2).symm.trans z0); (try rw [w121]); (try rw [((hS207.cell ta1 (by decide +kernel)).trans c58)]); first | done | with_reducible assumption | exact om_2757374c p60 w130), (by (try rw [w121]); (try rw [c210]); (try rw [c65]); first | done | with_reducible assumption | exact om_9fa72578 p81 p152), (by (try rw [w121]); (try rw [c211]); first | done | with_reducible assumption | omega), (by (try rw [w121]); (try rw [c211]); first | done | with_reducible assumption | omega), (by (try rw [w121]); (try rw [c212]); first | done | with_reducible assumption | omega), (by (try rw [w121]); (try rw [c213]); first | done | with_reducible assumption | omega), (by (try rw [w121]); (try rw [c178]); first | done | assumption), (by (try rw [w121]); (try rw [c214]); first | done | assumption), (by (try rw [w121]); (try rw [c215]); first | done | assumption), hL165, (fun b hb => (Option.some.inj (d2.symm.trans hb)) ▸ NmM.ln (NmM.bd (k := srt gB gs) hM217 (by exact om_dfad54ab pre18) (by exact om_33c1ecb5 pre18)) rfl), trivial⟩), trivial⟩
      · skip
        exfalso; exact om_99cda0b7 p154 p153 b171.1 h185 h186
    · skip
      obtain ⟨v220, c221⟩ : ∃ v, I139 a0 9 = v := ⟨_, rfl⟩
      have b222 := iv15_9 hS148.1 ta0 c221
      rw [c221] at p162
      obtain ⟨v223, c224⟩ : ∃ v, I139 a0 13 = v := ⟨_, rfl⟩
      rw [c224] at p163
      obtain ⟨v225, c226⟩ : ∃ v, I139 a0 14 = v := ⟨_, rfl⟩
      rw [c226] at p164
      refine tr_istore_n dX12_readSlice_35 (by decide) (by decide) ?_
      refine tr_aload_n dX12_readSlice_36 rfl ?_
      refine q_getI dX12_readSlice_37 fl12_99 (kR15 hS148.1 ta0) c221 ?_
      refine q_iconst dX12_readSlice_40 (by decide) ?_
      intro v227 h228
      refine q_icmp_ne 45 dX12_readSlice_41 (by decide) (fun h229 => ?_) (fun h229 => ?_)
      · skip
        exfalso; exact om_1fa3e129 p162 h228 h229
      · skip
        have eF := hF.eq
        have eP := hP.eq
        obtain ⟨v230, c231⟩ : ∃ v, I139 a0 10 = v := ⟨_, rfl⟩
        have b232 := iv15_10 hS148.1 ta0 c231
        obtain ⟨v233, c234⟩ : ∃ v, I139 a0 11 = v := ⟨_, rfl⟩
        obtain ⟨y235, c236⟩ : ∃ v, L141 a0 15 = v := ⟨_, rfl⟩
        obtain ⟨v237, c238⟩ : ∃ v, I139 a0 12 = v := ⟨_, rfl⟩
        obtain ⟨v239, c240⟩ : ∃ v, I139 a0 8 = v := ⟨_, rfl⟩
        have b241 := iv15_8 hS148.1 ta0 c240
        exact tr_vret hZ dX12_readSlice_44 rfl (by decide) (by decide) ⟨rfl, rfl, rfl, rfl, rfl, hS148, (fun dr hd => (Option.some.inj (d2.symm.trans hd)) ▸ hO150), (Or.inr (⟨(by (try rw [w121]); first | done | with_reducible assumption | exact om_53549b26 p161 p163 eF), (by (try rw [w121]); (try rw [c221]); first | done | with_reducible assumption | omega), (by (try rw [w121]); (try rw [c224]); first | done | with_reducible assumption | exact om_2757374c p163 eF), (by (try rw [w121]); (try rw [c226]); first | done | with_reducible assumption | exact om_2757374c p164 eP), trivial⟩)), trivial⟩
  · skip
    obtain ⟨v242, c243⟩ : ∃ v, I68 a0 9 = v := ⟨_, rfl⟩
    have b244 := iv15_9 hS76.1 ta0 c243
    rw [c243] at p91
    obtain ⟨v245, c246⟩ : ∃ v, I68 a0 13 = v := ⟨_, rfl⟩
    rw [c246] at p92
    obtain ⟨v247, c248⟩ : ∃ v, I68 a0 14 = v := ⟨_, rfl⟩
    rw [c248] at p93
    have p249 := p61
    unfold Q7M at p249
    replace hF := hF.pos (by exact om_10e77491 pre18 p56 h67 p90)
    replace hP := hP.pos (by exact om_10e77491 pre18 p56 h67 p90)
    clear p249
    refine tr_aload_n dX12_readSlice_12 rfl ?_
    refine tr_aload_n dX12_readSlice_13 rfl ?_
    refine tr_getR dX12_readSlice_14 fl12_188 (kR15 hS76.1 ta0) d2 ?_
    obtain ⟨a250, d251, ta250⟩ := rf14_18 hW0 ta1
    refine tr_getR dX12_readSlice_17 fl12_373 (kR14 hS76.1 ta1) d251 ?_
    refine q_bipush dX12_readSlice_20 (by decide +kernel) ?_
    intro v252 h253
    refine tr_aload_n dX12_readSlice_22 rfl ?_
    refine tr_getR dX12_readSlice_23 fl12_188 (kR15 hS76.1 ta0) d2 ?_
    refine q_getI dX12_readSlice_26 fl12_370 (kR14 hS76.1 ta1) c77 ?_
    refine q_imulE (c := 8) dX12_readSlice_29 (by exact om_ab0fb6d5 h253) (by exact om_c9a68b8e p56 h67 p90) ?_
    intro v254 h255
    refine q_bipush dX12_readSlice_30 (by decide +kernel) ?_
    intro v256 h257
    refine q_callVi hE (M' := mX12_readRising) (as := [_, _, _]) dX12_readSlice_32 lk12_308 inX12_readRising seX12_readRising myX12_readRising (by decide) ⟨by decide, by decide⟩ rfl (kR15 hS76.1 ta0) (Nat.le_of_ble_eq_true rfl) rfl rfl (by decide) (by decide) (k_X12_readRising hS76.1 ta0 ta250 (by exact om_8091a5de p56 h67 p90 h255) (by exact om_abb56aaf h257) (fun z => absurd (by rw [c243]; exact om_394b70a2 p91) z) ⟨_, d2⟩) ?_
    rintro v262 cn' K' N' I258 R259 L260 ⟨rfl, rfl, rfl, rfl, g261, h263, w264, -⟩
    have hS265 := hS76.tr g261 (by decide +kernel) (by decide +kernel)
    have c266 : I258 a1 6 = v53 := (g261.cell ta1 (by decide +kernel)).trans c77
    have hO267 : FrO 14 a1 T I0 I258 := hO78.st g261 (by decide +kernel)
    have ov268 := w264.over (by rw [c243]; exact om_394b70a2 p91)
    obtain ⟨v269, c270⟩ : ∃ v, I258 a0 9 = v := ⟨_, rfl⟩
    have b271 := iv15_9 hS265.1 ta0 c270
    obtain ⟨v272, c273⟩ : ∃ v, I258 a0 13 = v := ⟨_, rfl⟩
    obtain ⟨v274, c275⟩ : ∃ v, I258 a0 14 = v := ⟨_, rfl⟩
    (try rw [c270] at ov268)
    (try rw [c273] at ov268)
    (try rw [c275] at ov268)
    (try rw [c243] at ov268)
    (try rw [c246] at ov268)
    (try rw [c248] at ov268)
    refine tr_istore_n dX12_readSlice_35 (by decide) (by decide) ?_
    refine tr_aload_n dX12_readSlice_36 rfl ?_
    refine q_getI dX12_readSlice_37 fl12_99 (kR15 hS265.1 ta0) c270 ?_
    refine q_iconst dX12_readSlice_40 (by decide) ?_
    intro v276 h277
    refine q_icmp_ne 45 dX12_readSlice_41 (by decide) (fun h278 => ?_) (fun h278 => ?_)
    · skip
      exfalso; exact om_1fa3e129 ov268.1 h277 h278
    · skip
      have eF := hF.eq
      have eP := hP.eq
      obtain ⟨v279, c280⟩ : ∃ v, I258 a0 10 = v := ⟨_, rfl⟩
      have b281 := iv15_10 hS265.1 ta0 c280
      obtain ⟨v282, c283⟩ : ∃ v, I258 a0 11 = v := ⟨_, rfl⟩
      obtain ⟨y284, c285⟩ : ∃ v, L260 a0 15 = v := ⟨_, rfl⟩
      obtain ⟨v286, c287⟩ : ∃ v, I258 a0 12 = v := ⟨_, rfl⟩
      obtain ⟨v288, c289⟩ : ∃ v, I258 a0 8 = v := ⟨_, rfl⟩
      have b290 := iv15_8 hS265.1 ta0 c289
      exact tr_vret hZ dX12_readSlice_44 rfl (by decide) (by decide) ⟨rfl, rfl, rfl, rfl, rfl, hS265, (fun dr hd => (Option.some.inj (d2.symm.trans hd)) ▸ hO267), (Or.inr (⟨(by first | done | with_reducible assumption | exact om_64c62efe eF), (by (try rw [c270]); first | done | with_reducible assumption | exact om_394b70a2 ov268.1), (by (try rw [c273]); first | done | with_reducible assumption | exact om_7fd518bd p92 ov268.2.1 eF), (by (try rw [c275]); first | done | with_reducible assumption | exact om_8e6888af p11 p93 ov268.2.2 eP), trivial⟩)), trivial⟩
  · skip
    obtain ⟨v291, c292⟩ : ∃ v, I68 a0 9 = v := ⟨_, rfl⟩
    have b293 := iv15_9 hS76.1 ta0 c292
    rw [c292] at p96
    obtain ⟨v294, c295⟩ : ∃ v, I68 a0 13 = v := ⟨_, rfl⟩
    rw [c295] at p97
    obtain ⟨v296, c297⟩ : ∃ v, I68 a0 14 = v := ⟨_, rfl⟩
    rw [c297] at p98
    have p298 := p61
    unfold Q7M at p298
    replace hF := hF.neg (by exact om_2e1142e6 pre18 b55.2 b55.1 p56 h67 p94 p95 p298)
    replace hP := hP.neg (by exact om_2e1142e6 pre18 b55.2 b55.1 p56 h67 p94 p95 p298)
    replace hF := hF.pos (by exact om_c3956492 pre18 p95 p298)
    replace hP := hP.pos (by exact om_c3956492 pre18 p95 p298)
    clear p298
    refine tr_aload_n dX12_readSlice_12 rfl ?_
    refine tr_aload_n dX12_readSlice_13 rfl ?_
    refine tr_getR dX12_readSlice_14 fl12_188 (kR15 hS76.1 ta0) d2 ?_
    obtain ⟨a299, d300, ta299⟩ := rf14_18 hW0 ta1
    refine tr_getR dX12_readSlice_17 fl12_373 (kR14 hS76.1 ta1) d300 ?_
    refine q_bipush dX12_readSlice_20 (by decide +kernel) ?_
    intro v301 h302
    refine tr_aload_n dX12_readSlice_22 rfl ?_
    refine tr_getR dX12_readSlice_23 fl12_188 (kR15 hS76.1 ta0) d2 ?_
    refine q_getI dX12_readSlice_26 fl12_370 (kR14 hS76.1 ta1) c77 ?_
    refine q_imulE (c := 8) dX12_readSlice_29 (by exact om_ab0fb6d5 h302) (by exact om_4ae38929 b55.2 b55.1 p56) ?_
    intro v303 h304
    refine q_bipush dX12_readSlice_30 (by decide +kernel) ?_
    intro v305 h306
    refine q_callVi hE (M' := mX12_readRising) (as := [_, _, _]) dX12_readSlice_32 lk12_308 inX12_readRising seX12_readRising myX12_readRising (by decide) ⟨by decide, by decide⟩ rfl (kR15 hS76.1 ta0) (Nat.le_of_ble_eq_true rfl) rfl rfl (by decide) (by decide) (k_X12_readRising hS76.1 ta0 ta299 (by exact om_79655e87 b55.2 b55.1 p56 h304) (by exact om_abb56aaf h306) (fun z => absurd (by rw [c292]; exact om_394b70a2 p96) z) ⟨_, d2⟩) ?_
    rintro v311 cn' K' N' I307 R308 L309 ⟨rfl, rfl, rfl, rfl, g310, h312, w313, -⟩
    have hS314 := hS76.tr g310 (by decide +kernel) (by decide +kernel)
    have c315 : I307 a1 6 = v53 := (g310.cell ta1 (by decide +kernel)).trans c77
    have hO316 : FrO 14 a1 T I0 I307 := hO78.st g310 (by decide +kernel)
    have ov317 := w313.over (by rw [c292]; exact om_394b70a2 p96)
    obtain ⟨v318, c319⟩ : ∃ v, I307 a0 9 = v := ⟨_, rfl⟩
    have b320 := iv15_9 hS314.1 ta0 c319
    obtain ⟨v321, c322⟩ : ∃ v, I307 a0 13 = v := ⟨_, rfl⟩
    obtain ⟨v323, c324⟩ : ∃ v, I307 a0 14 = v := ⟨_, rfl⟩
    (try rw [c319] at ov317)
    (try rw [c322] at ov317)
    (try rw [c324] at ov317)
    (try rw [c292] at ov317)
    (try rw [c295] at ov317)
    (try rw [c297] at ov317)
    refine tr_istore_n dX12_readSlice_35 (by decide) (by decide) ?_
    refine tr_aload_n dX12_readSlice_36 rfl ?_
    refine q_getI dX12_readSlice_37 fl12_99 (kR15 hS314.1 ta0) c319 ?_
    refine q_iconst dX12_readSlice_40 (by decide) ?_
    intro v325 h326
    refine q_icmp_ne 45 dX12_readSlice_41 (by decide) (fun h327 => ?_) (fun h327 => ?_)
    · skip
      exfalso; exact om_1fa3e129 ov317.1 h326 h327
    · skip
      have eF := hF.eq
      have eP := hP.eq
      obtain ⟨v328, c329⟩ : ∃ v, I307 a0 10 = v := ⟨_, rfl⟩
      have b330 := iv15_10 hS314.1 ta0 c329
      obtain ⟨v331, c332⟩ : ∃ v, I307 a0 11 = v := ⟨_, rfl⟩
      obtain ⟨y333, c334⟩ : ∃ v, L309 a0 15 = v := ⟨_, rfl⟩
      obtain ⟨v335, c336⟩ : ∃ v, I307 a0 12 = v := ⟨_, rfl⟩
      obtain ⟨v337, c338⟩ : ∃ v, I307 a0 8 = v := ⟨_, rfl⟩
      have b339 := iv15_8 hS314.1 ta0 c338
      exact tr_vret hZ dX12_readSlice_44 rfl (by decide) (by decide) ⟨rfl, rfl, rfl, rfl, rfl, hS314, (fun dr hd => (Option.some.inj (d2.symm.trans hd)) ▸ hO316), (Or.inr (⟨(by first | done | with_reducible assumption | exact om_3a8e1f7c eF), (by (try rw [c319]); first | done | with_reducible assumption | exact om_394b70a2 ov317.1), (by (try rw [c322]); first | done | with_reducible assumption | exact om_1428d4dd p97 ov317.2.1 eF), (by (try rw [c324]); first | done | with_reducible assumption | exact om_8e6888af p11 p98 ov317.2.2 eP), trivial⟩)), trivial⟩
def wif_oC128 : List Nat := []
def wrf_oC128 : List Nat := []
def wlf_oC128 : List Nat := []
set_option maxHeartbeats 4000000 in
theorem sf_oC128 {X : cz_X} (hE : cz_env X) {T : Nat → Nat} {cn : Nat} {K N : Nat → Nat} {I0 : cz_I} {R0 : cz_R} {L0 : cz_L} {Q : cz_Q} (hZ : cz_Z X mX12_readCall Q) (hW0 : Wf T cn K N I0 R0 0) (gB : cz_B) {a0 : Nat} (ta0 : T a0 = 15) {x1 : Int32} {x2 : Int32} {x3 : Int32} {x4 : Int32} {x5 : Int32} (pre0 : (I0 a0 9).toInt = 5) (nn4 : ∃ b, R0 a0 4 = some b) {ls : Nat → Option Value} (hl0 : ls 0 = some (.ref a0)) (hl1 : ls 1 = some (.int x1)) (hl2 : ls 2 = some (.int x2)) (hl3 : ls 3 = some (.int x3)) (hl4 : ls 4 = some (.int x4)) (hl5 : ls 5 = some (.int x5)) (hq : ∀ (I' : cz_I) (R' : cz_R) (L' : cz_L), St T cn K N 0 wif_oC128 wrf_oC128 I0 R0 I' R' ∧ ((I' a0 9).toInt = 5) ∧ ((I' a0 13).toInt = (I0 a0 13).toInt) ∧ ((I' a0 14).toInt = (I0 a0 14).toInt) ∧ True → Q none cn K N I' R' L') : Tr X mX12_readCall 128 ls [] cn K N I0 R0 L0 0 0 := by
  have hS0 : St T cn K N 0 wif_oC128 wrf_oC128 I0 R0 I0 R0 := St.rf0 hW0
  have hL0 : LgS T wlf_oC128 L0 L0 := LgS.rf0
  obtain ⟨a1, d2⟩ := nn4
  have ta1 : T a1 = 14 := hW0.rsN ta0 rfl d2
  obtain ⟨v3, c4⟩ : ∃ v, I0 a0 9 = v := ⟨_, rfl⟩
  have b5 := iv15_9 hW0 ta0 c4
  have p6 := pre0
  rw [c4] at p6
  obtain ⟨v7, c8⟩ : ∃ v, I0 a0 13 = v := ⟨_, rfl⟩
  obtain ⟨v9, c10⟩ : ∃ v, I0 a0 14 = v := ⟨_, rfl⟩
  refine tr_aload_n dX12_readCall_128 hl0 ?_
  refine q_getI dX12_readCall_129 fl12_99 (kR15 hS0.1 ta0) c4 ?_
  refine q_iconst dX12_readCall_132 (by decide) ?_
  intro v11 h12
  refine q_icmp_ne 137 dX12_readCall_133 (by decide) (fun h13 => ?_) (fun h13 => ?_)
  · skip
    exfalso; exact om_1fa3e129 p6 h12 h13
  · skip
    exact tr_vret hZ dX12_readCall_136 rfl (by decide) (by decide) (hq _ _ _ ⟨hS0, (by (try rw [c4]); first | done | with_reducible assumption | omega), (by (try rw [c8]); first | done | with_reducible assumption | omega), (by (try rw [c10]); first | done | with_reducible assumption | omega), trivial⟩)
def wif_oC116 : List Nat := [968, 969, 970, 971, 972, 973, 974]
def wrf_oC116 : List Nat := []
def wlf_oC116 : List Nat := []
set_option maxHeartbeats 4000000 in
theorem sf_oC116 {X : cz_X} (hE : cz_env X) {T : Nat → Nat} {cn : Nat} {K N : Nat → Nat} {I0 : cz_I} {R0 : cz_R} {L0 : cz_L} {Q : cz_Q} (hZ : cz_Z X mX12_readCall Q) (hW0 : Wf T cn K N I0 R0 0) (gB : cz_B) {a0 : Nat} (ta0 : T a0 = 15) {x1 : Int32} {x2 : Int32} {x3 : Int32} {x4 : Int32} (pre0 : (I0 a0 9).toInt = 5) (nn4 : ∃ b, R0 a0 4 = some b) {ls : Nat → Option Value} (hl0 : ls 0 = some (.ref a0)) (hl1 : ls 1 = some (.int x1)) (hl2 : ls 2 = some (.int x2)) (hl3 : ls 3 = some (.int x3)) (hl4 : ls 4 = some (.int x4)) (hq : ∀ (I' : cz_I) (R' : cz_R) (L' : cz_L), St T cn K N 0 wif_oC116 wrf_oC116 I0 R0 I' R' ∧ ((I' a0 9).toInt = 5) ∧ ((I' a0 13).toInt = (I0 a0 13).toInt) ∧ ((I' a0 14).toInt = (I0 a0 14).toInt) ∧ True → Q none cn K N I' R' L') : Tr X mX12_readCall 116 ls [] cn K N I0 R0 L0 0 0 := by
  have hS0 : St T cn K N 0 wif_oC116 wrf_oC116 I0 R0 I0 R0 := St.rf0 hW0
  have hL0 : LgS T wlf_oC116 L0 L0 := LgS.rf0
  obtain ⟨a1, d2⟩ := nn4
  have ta1 : T a1 = 14 := hW0.rsN ta0 rfl d2
  obtain ⟨v3, c4⟩ : ∃ v, I0 a0 9 = v := ⟨_, rfl⟩
  have b5 := iv15_9 hS0.1 ta0 c4
  have p6 := pre0
  rw [c4] at p6
  obtain ⟨v7, c8⟩ : ∃ v, I0 a0 13 = v := ⟨_, rfl⟩
  obtain ⟨v9, c10⟩ : ∃ v, I0 a0 14 = v := ⟨_, rfl⟩
  refine tr_aload_n dX12_readCall_116 hl0 ?_
  refine tr_ldcwS dX12_readCall_117 ld12_356 ?_
  refine q_iconst dX12_readCall_120 (by decide) ?_
  intro v11 h12
  refine q_bipush dX12_readCall_121 (by decide +kernel) ?_
  intro v13 h14
  refine q_callVi hE (M' := mX12_readPart) (as := [_, _, _]) dX12_readCall_123 lk12_249 inX12_readPart seX12_readPart myX12_readPart (by decide) ⟨by decide, by decide⟩ rfl (kR15 hS0.1 ta0) (Nat.le_of_ble_eq_true rfl) rfl rfl (by decide) (by decide) (k_X12_readPart hS0.1 ta0 (by decide)) ?_
  rintro v19 cn' K' N' I15 R16 L17 ⟨rfl, rfl, rfl, rfl, g18, p20, w21, -⟩
  have hS22 := hS0.tr g18 (by decide +kernel) (by decide +kernel)
  have b23 : 0 ≤ v19.toInt ∧ v19.toInt ≤ 99 := by exact om_caf9e5f4 h12 h14 p20
  clear p20
  have ov24 := w21.over (by rw [c4]; exact om_394b70a2 p6)
  obtain ⟨v25, c26⟩ : ∃ v, I15 a0 9 = v := ⟨_, rfl⟩
  have b27 := iv15_9 hS22.1 ta0 c26
  obtain ⟨v28, c29⟩ : ∃ v, I15 a0 13 = v := ⟨_, rfl⟩
  obtain ⟨v30, c31⟩ : ∃ v, I15 a0 14 = v := ⟨_, rfl⟩
  (try rw [c26] at ov24)
  (try rw [c29] at ov24)
  (try rw [c31] at ov24)
  (try rw [c4] at ov24)
  (try rw [c8] at ov24)
  (try rw [c10] at ov24)
  refine tr_istore dX12_readCall_126 (by decide) (by decide) ?_
  refine sf_oC128 hE hZ hS22.1 (gB) ta0 (by (try rw [c26]); first | done | with_reducible assumption | exact om_394b70a2 ov24.1) ⟨_, d2⟩ hl0 hl1 hl2 hl3 hl4 rfl ?_
  rintro I32 R33 L34 ⟨g35, p36, p37, p38, -⟩
  obtain rfl : R0 = R33 := funext fun a => funext fun j => (g35.2.2 a j (wm_no rfl)).symm
  have hS39 := hS22.tr g35 (by decide +kernel) (by decide +kernel)
  have c40 : I32 a0 9 = v25 := (g35.cell ta0 (by decide +kernel)).trans c26
  have c41 : I32 a0 13 = v28 := (g35.cell ta0 (by decide +kernel)).trans c29
  have c42 : I32 a0 14 = v30 := (g35.cell ta0 (by decide +kernel)).trans c31
  rw [c40] at p36
  rw [c41] at p37
  rw [c29] at p37
  rw [c42] at p38
  rw [c31] at p38
  exact hq _ _ _ ⟨hS39, (by (try rw [c40]); first | done | with_reducible assumption | omega), (by (try rw [c41]); (try rw [c8]); first | done | with_reducible assumption | exact om_acd7a85a ov24.2.1), (by (try rw [c42]); (try rw [c10]); first | done | with_reducible assumption | exact om_acd7a85a ov24.2.2), trivial⟩
def wif_oC104 : List Nat := [968, 969, 970, 971, 972, 973, 974]
def wrf_oC104 : List Nat := []
def wlf_oC104 : List Nat := []
set_option maxHeartbeats 4000000 in
theorem sf_oC104 {X : cz_X} (hE : cz_env X) {T : Nat → Nat} {cn : Nat} {K N : Nat → Nat} {I0 : cz_I} {R0 : cz_R} {L0 : cz_L} {Q : cz_Q} (hZ : cz_Z X mX12_readCall Q) (hW0 : Wf T cn K N I0 R0 0) (gB : cz_B) {a0 : Nat} (ta0 : T a0 = 15) {x1 : Int32} {x2 : Int32} {x3 : Int32} (pre0 : (I0 a0 9).toInt = 5) (nn4 : ∃ b, R0 a0 4 = some b) {ls : Nat → Option Value} (hl0 : ls 0 = some (.ref a0)) (hl1 : ls 1 = some (.int x1)) (hl2 : ls 2 = some (.int x2)) (hl3 : ls 3 = some (.int x3)) (hq : ∀ (I' : cz_I) (R' : cz_R) (L' : cz_L), St T cn K N 0 wif_oC104 wrf_oC104 I0 R0 I' R' ∧ ((I' a0 9).toInt = 5) ∧ ((I' a0 13).toInt = (I0 a0 13).toInt) ∧ ((I' a0 14).toInt = (I0 a0 14).toInt) ∧ True → Q none cn K N I' R' L') : Tr X mX12_readCall 104 ls [] cn K N I0 R0 L0 0 0 := by
  have hS0 : St T cn K N 0 wif_oC104 wrf_oC104 I0 R0 I0 R0 := St.rf0 hW0
  have hL0 : LgS T wlf_oC104 L0 L0 := LgS.rf0
  obtain ⟨a1, d2⟩ := nn4
  have ta1 : T a1 = 14 := hW0.rsN ta0 rfl d2
  obtain ⟨v3, c4⟩ : ∃ v, I0 a0 9 = v := ⟨_, rfl⟩
  have b5 := iv15_9 hS0.1 ta0 c4
  have p6 := pre0
  rw [c4] at p6
  obtain ⟨v7, c8⟩ : ∃ v, I0 a0 13 = v := ⟨_, rfl⟩
  obtain ⟨v9, c10⟩ : ∃ v, I0 a0 14 = v := ⟨_, rfl⟩
  refine tr_aload_n dX12_readCall_104 hl0 ?_
  refine tr_ldcwS dX12_readCall_105 ld12_354 ?_
  refine q_iconst dX12_readCall_108 (by decide) ?_
  intro v11 h12
  refine q_bipush dX12_readCall_109 (by decide +kernel) ?_
  intro v13 h14
  refine q_callVi hE (M' := mX12_readPart) (as := [_, _, _]) dX12_readCall_111 lk12_249 inX12_readPart seX12_readPart myX12_readPart (by decide) ⟨by decide, by decide⟩ rfl (kR15 hS0.1 ta0) (Nat.le_of_ble_eq_true rfl) rfl rfl (by decide) (by decide) (k_X12_readPart hS0.1 ta0 (by decide)) ?_
  rintro v19 cn' K' N' I15 R16 L17 ⟨rfl, rfl, rfl, rfl, g18, p20, w21, -⟩
  have hS22 := hS0.tr g18 (by decide +kernel) (by decide +kernel)
  have b23 : 1 ≤ v19.toInt ∧ v19.toInt ≤ 60 := by exact om_9b23b34d h12 h14 p20
  clear p20
  have ov24 := w21.over (by rw [c4]; exact om_394b70a2 p6)
  obtain ⟨v25, c26⟩ : ∃ v, I15 a0 9 = v := ⟨_, rfl⟩
  have b27 := iv15_9 hS22.1 ta0 c26
  obtain ⟨v28, c29⟩ : ∃ v, I15 a0 13 = v := ⟨_, rfl⟩
  obtain ⟨v30, c31⟩ : ∃ v, I15 a0 14 = v := ⟨_, rfl⟩
  (try rw [c26] at ov24)
  (try rw [c29] at ov24)
  (try rw [c31] at ov24)
  (try rw [c4] at ov24)
  (try rw [c8] at ov24)
  (try rw [c10] at ov24)
  refine tr_istore dX12_readCall_114 (by decide) (by decide) ?_
  refine sf_oC116 hE hZ hS22.1 (gB) ta0 (by (try rw [c26]); first | done | with_reducible assumption | exact om_394b70a2 ov24.1) ⟨_, d2⟩ hl0 hl1 hl2 hl3 rfl ?_
  rintro I32 R33 L34 ⟨g35, p36, p37, p38, -⟩
  obtain rfl : R0 = R33 := funext fun a => funext fun j => (g35.2.2 a j (wm_no rfl)).symm
  have hS39 := hS22.tr g35 (by decide +kernel) (by decide +kernel)
  obtain ⟨v40, c41⟩ : ∃ v, I32 a0 9 = v := ⟨_, rfl⟩
  have b42 := iv15_9 hS39.1 ta0 c41
  rw [c41] at p36
  obtain ⟨v43, c44⟩ : ∃ v, I32 a0 13 = v := ⟨_, rfl⟩
  rw [c44] at p37
  rw [c29] at p37
  obtain ⟨v45, c46⟩ : ∃ v, I32 a0 14 = v := ⟨_, rfl⟩
  rw [c46] at p38
  rw [c31] at p38
  exact hq _ _ _ ⟨hS39, (by (try rw [c41]); first | done | with_reducible assumption | omega), (by (try rw [c44]); (try rw [c8]); first | done | with_reducible assumption | exact om_9fa72578 ov24.2.1 p37), (by (try rw [c46]); (try rw [c10]); first | done | with_reducible assumption | exact om_9fa72578 ov24.2.2 p38), trivial⟩
def wif_oC82 : List Nat := [968, 969, 970, 971, 972, 973, 974]
def wrf_oC82 : List Nat := []
def wlf_oC82 : List Nat := []
set_option maxHeartbeats 4000000 in
theorem sf_oC82 {X : cz_X} (hE : cz_env X) {T : Nat → Nat} {cn : Nat} {K N : Nat → Nat} {I0 : cz_I} {R0 : cz_R} {L0 : cz_L} {Q : cz_Q} (hZ : cz_Z X mX12_readCall Q) (hW0 : Wf T cn K N I0 R0 0) (gB : cz_B) {a0 : Nat} (ta0 : T a0 = 15) {x1 : Int32} {x2 : Int32} (pre0 : (I0 a0 9).toInt = 5) (nn4 : ∃ b, R0 a0 4 = some b) {ls : Nat → Option Value} (hl0 : ls 0 = some (.ref a0)) (hl1 : ls 1 = some (.int x1)) (hl2 : ls 2 = some (.int x2)) (hq : ∀ (I' : cz_I) (R' : cz_R) (L' : cz_L), St T cn K N 0 wif_oC82 wrf_oC82 I0 R0 I' R' ∧ ((I' a0 9).toInt = 5) ∧ ((I' a0 13).toInt = (I0 a0 13).toInt) ∧ ((I' a0 14).toInt = (I0 a0 14).toInt) ∧ True → Q none cn K N I' R' L') : Tr X mX12_readCall 82 ls [] cn K N I0 R0 L0 0 0 := by
  have hS0 : St T cn K N 0 wif_oC82 wrf_oC82 I0 R0 I0 R0 := St.rf0 hW0
  have hL0 : LgS T wlf_oC82 L0 L0 := LgS.rf0
  obtain ⟨a1, d2⟩ := nn4
  have ta1 : T a1 = 14 := hW0.rsN ta0 rfl d2
  obtain ⟨v3, c4⟩ : ∃ v, I0 a0 9 = v := ⟨_, rfl⟩
  have b5 := iv15_9 hS0.1 ta0 c4
  have p6 := pre0
  rw [c4] at p6
  obtain ⟨v7, c8⟩ : ∃ v, I0 a0 13 = v := ⟨_, rfl⟩
  obtain ⟨v9, c10⟩ : ∃ v, I0 a0 14 = v := ⟨_, rfl⟩
  refine tr_aload_n dX12_readCall_82 hl0 ?_
  obtain ⟨v11, c12⟩ : ∃ v, I0 a0 8 = v := ⟨_, rfl⟩
  have b13 := iv15_8 hS0.1 ta0 c12
  refine q_callVv hE (M' := mX12_goesOn) (as := []) dX12_readCall_83 lk12_142 inX12_goesOn seX12_goesOn myX12_goesOn (by decide) ⟨by decide, by decide⟩ rfl (kR15 hS0.1 ta0) (Nat.le_of_ble_eq_true rfl) rfl rfl (by decide) (by decide) (k_X12_goesOn hS0.1 ta0) ?_
  rintro cn' K' N' I14 R15 L16 ⟨rfl, rfl, rfl, rfl, g17, p19, p20, p21, w22, -⟩
  have hS23 := hS0.tr g17 (by decide +kernel) (by decide +kernel)
  have c24 : I14 a0 13 = v7 := (g17.cell ta0 (by decide +kernel)).trans c8
  have c25 : I14 a0 14 = v9 := (g17.cell ta0 (by decide +kernel)).trans c10
  obtain ⟨v26, c27⟩ : ∃ v, I14 a0 9 = v := ⟨_, rfl⟩
  have b28 := iv15_9 hS23.1 ta0 c27
  rw [c4] at p19
  rw [c27] at p19
  rw [c4] at p20
  rw [c27] at p20
  obtain ⟨v29, c30⟩ : ∃ v, I14 a0 8 = v := ⟨_, rfl⟩
  have b31 := iv15_8 hS23.1 ta0 c30
  rw [c30] at p21
  rw [c12] at p21
  rw [c24] at p21
  rw [c8] at p21
  have ov32 := w22.over (by rw [c4]; exact om_394b70a2 p6)
  obtain ⟨v33, c34⟩ : ∃ v, I14 a0 9 = v := ⟨_, rfl⟩
  have b35 := iv15_9 hS23.1 ta0 c34
  obtain ⟨v36, c37⟩ : ∃ v, I14 a0 13 = v := ⟨_, rfl⟩
  obtain ⟨v38, c39⟩ : ∃ v, I14 a0 14 = v := ⟨_, rfl⟩
  (try rw [c34] at ov32)
  (try rw [c37] at ov32)
  (try rw [c39] at ov32)
  (try rw [c4] at ov32)
  (try rw [c8] at ov32)
  (try rw [c10] at ov32)
  refine tr_aload_n dX12_readCall_86 hl0 ?_
  refine tr_ldcwS dX12_readCall_87 ld12_352 ?_
  refine q_iconst dX12_readCall_90 (by decide) ?_
  intro v40 h41
  refine tr_aload_n dX12_readCall_91 hl0 ?_
  refine tr_getR dX12_readCall_92 fl12_188 (kR15 hS23.1 ta0) d2 ?_
  obtain ⟨v42, c43⟩ : ∃ v, I0 a1 0 = v := ⟨_, rfl⟩
  have b44 := iv14_0 hW0 ta1 c43
  refine q_getI dX12_readCall_95 fl12_192 (kR14 hS23.1 ta1) ((hS23.cell ta1 (by decide +kernel)).trans c43) ?_
  refine q_iconst dX12_readCall_98 (by decide) ?_
  intro v45 h46
  refine q_isubE dX12_readCall_99 (by intro j1 j2 j3 j4; exact om_c6626f59 b44.2 b44.1 h46) ?_
  intro v47 h48
  refine q_callVi hE (M' := mX12_readPart) (as := [_, _, _]) dX12_readCall_100 lk12_249 inX12_readPart seX12_readPart myX12_readPart (by decide) ⟨by decide, by decide⟩ rfl (kR15 hS23.1 ta0) (Nat.le_of_ble_eq_true rfl) rfl rfl (by decide) (by decide) (k_X12_readPart hS23.1 ta0 (by decide)) ?_
  rintro v53 cn' K' N' I49 R50 L51 ⟨rfl, rfl, rfl, rfl, g52, p54, w55, -⟩
  have hS56 := hS23.tr g52 (by decide +kernel) (by decide +kernel)
  have b57 : 0 ≤ v53.toInt ∧ v53.toInt ≤ 239 := by exact om_62c0eb21 h41 b44.2 b44.1 h46 h48 p54
  clear p54
  have ov58 := w55.over (by rw [c34]; exact om_394b70a2 ov32.1)
  obtain ⟨v59, c60⟩ : ∃ v, I49 a0 9 = v := ⟨_, rfl⟩
  have b61 := iv15_9 hS56.1 ta0 c60
  obtain ⟨v62, c63⟩ : ∃ v, I49 a0 13 = v := ⟨_, rfl⟩
  obtain ⟨v64, c65⟩ : ∃ v, I49 a0 14 = v := ⟨_, rfl⟩
  (try rw [c60] at ov58)
  (try rw [c63] at ov58)
  (try rw [c65] at ov58)
  (try rw [c34] at ov58)
  (try rw [c37] at ov58)
  (try rw [c39] at ov58)
  refine tr_istore_n dX12_readCall_103 (by decide) (by decide) ?_
  refine sf_oC104 hE hZ hS56.1 (gB) ta0 (by (try rw [c60]); first | done | with_reducible assumption | exact om_394b70a2 ov58.1) ⟨_, d2⟩ hl0 hl1 hl2 rfl ?_
  rintro I66 R67 L68 ⟨g69, p70, p71, p72, -⟩
  obtain rfl : R0 = R67 := funext fun a => funext fun j => (g69.2.2 a j (wm_no rfl)).symm
  have hS73 := hS56.tr g69 (by decide +kernel) (by decide +kernel)
  obtain ⟨v74, c75⟩ : ∃ v, I66 a0 9 = v := ⟨_, rfl⟩
  have b76 := iv15_9 hS73.1 ta0 c75
  rw [c75] at p70
  obtain ⟨v77, c78⟩ : ∃ v, I66 a0 13 = v := ⟨_, rfl⟩
  rw [c78] at p71
  rw [c63] at p71
  obtain ⟨v79, c80⟩ : ∃ v, I66 a0 14 = v := ⟨_, rfl⟩
  rw [c80] at p72
  rw [c65] at p72
  exact hq _ _ _ ⟨hS73, (by (try rw [c75]); first | done | with_reducible assumption | omega), (by (try rw [c78]); (try rw [c8]); first | done | with_reducible assumption | exact om_1c22ab7e ov32.2.1 ov58.2.1 p71), (by (try rw [c80]); (try rw [c10]); first | done | with_reducible assumption | exact om_1c22ab7e ov32.2.2 ov58.2.2 p72), trivial⟩
def wif_oC60 : List Nat := [968, 969, 970, 971, 972, 973, 974]
def wrf_oC60 : List Nat := []
def wlf_oC60 : List Nat := []
set_option maxHeartbeats 4000000 in
theorem sf_oC60 {X : cz_X} (hE : cz_env X) {T : Nat → Nat} {cn : Nat} {K N : Nat → Nat} {I0 : cz_I} {R0 : cz_R} {L0 : cz_L} {Q : cz_Q} (hZ : cz_Z X mX12_readCall Q) (hW0 : Wf T cn K N I0 R0 0) (gB : cz_B) {a0 : Nat} (ta0 : T a0 = 15) {x1 : Int32} (pre0 : (I0 a0 9).toInt = 5) (nn4 : ∃ b, R0 a0 4 = some b) {ls : Nat → Option Value} (hl0 : ls 0 = some (.ref a0)) (hl1 : ls 1 = some (.int x1)) (hq : ∀ (I' : cz_I) (R' : cz_R) (L' : cz_L), St T cn K N 0 wif_oC60 wrf_oC60 I0 R0 I' R' ∧ ((I' a0 9).toInt = 5) ∧ ((I' a0 13).toInt = (I0 a0 13).toInt) ∧ ((I' a0 14).toInt = (I0 a0 14).toInt) ∧ True → Q none cn K N I' R' L') : Tr X mX12_readCall 60 ls [] cn K N I0 R0 L0 0 0 := by
  have hS0 : St T cn K N 0 wif_oC60 wrf_oC60 I0 R0 I0 R0 := St.rf0 hW0
  have hL0 : LgS T wlf_oC60 L0 L0 := LgS.rf0
  obtain ⟨a1, d2⟩ := nn4
  have ta1 : T a1 = 14 := hW0.rsN ta0 rfl d2
  obtain ⟨v3, c4⟩ : ∃ v, I0 a0 9 = v := ⟨_, rfl⟩
  have b5 := iv15_9 hS0.1 ta0 c4
  have p6 := pre0
  rw [c4] at p6
  obtain ⟨v7, c8⟩ : ∃ v, I0 a0 13 = v := ⟨_, rfl⟩
  obtain ⟨v9, c10⟩ : ∃ v, I0 a0 14 = v := ⟨_, rfl⟩
  refine tr_aload_n dX12_readCall_60 hl0 ?_
  refine q_getI dX12_readCall_61 fl12_99 (kR15 hS0.1 ta0) c4 ?_
  refine q_iconst dX12_readCall_64 (by decide) ?_
  intro v11 h12
  refine q_icmp_ne 72 dX12_readCall_65 (by decide) (fun h13 => ?_) (fun h13 => ?_)
  · skip
    exfalso; exact om_1fa3e129 p6 h12 h13
  · skip
    refine q_iconst dX12_readCall_68 (by decide) ?_
    intro v14 h15
    refine tr_goto 81 dX12_readCall_69 (by decide) ?_
    refine tr_istore_n dX12_readCall_81 (by decide) (by decide) ?_
    refine sf_oC82 hE hZ hS0.1 (gB) ta0 (by (try rw [c4]); first | done | with_reducible assumption | omega) ⟨_, d2⟩ hl0 hl1 rfl ?_
    rintro I16 R17 L18 ⟨g19, p20, p21, p22, -⟩
    obtain rfl : R0 = R17 := funext fun a => funext fun j => (g19.2.2 a j (wm_no rfl)).symm
    have hS23 := hS0.tr g19 (by decide +kernel) (by decide +kernel)
    obtain ⟨v24, c25⟩ : ∃ v, I16 a0 9 = v := ⟨_, rfl⟩
    have b26 := iv15_9 hS23.1 ta0 c25
    rw [c25] at p20
    obtain ⟨v27, c28⟩ : ∃ v, I16 a0 13 = v := ⟨_, rfl⟩
    rw [c28] at p21
    rw [c8] at p21
    obtain ⟨v29, c30⟩ : ∃ v, I16 a0 14 = v := ⟨_, rfl⟩
    rw [c30] at p22
    rw [c10] at p22
    exact hq _ _ _ ⟨hS23, (by (try rw [c25]); first | done | with_reducible assumption | omega), (by (try rw [c28]); (try rw [c8]); first | done | with_reducible assumption | omega), (by (try rw [c30]); (try rw [c10]); first | done | with_reducible assumption | omega), trivial⟩
def wif_oC25 : List Nat := [968, 969, 970, 971, 972, 973, 974]
def wrf_oC25 : List Nat := []
def wlf_oC25 : List Nat := []
set_option maxHeartbeats 4000000 in
theorem sf_oC25 {X : cz_X} (hE : cz_env X) {T : Nat → Nat} {cn : Nat} {K N : Nat → Nat} {I0 : cz_I} {R0 : cz_R} {L0 : cz_L} {Q : cz_Q} (hZ : cz_Z X mX12_readCall Q) (hW0 : Wf T cn K N I0 R0 0) (gB : cz_B) {a0 : Nat} (ta0 : T a0 = 15) (pre0 : (I0 a0 9).toInt = 5) (nn4 : ∃ b, R0 a0 4 = some b) {ls : Nat → Option Value} (hl0 : ls 0 = some (.ref a0)) (hq : ∀ (I' : cz_I) (R' : cz_R) (L' : cz_L), St T cn K N 0 wif_oC25 wrf_oC25 I0 R0 I' R' ∧ ((I' a0 9).toInt = 5) ∧ ((I' a0 13).toInt = (I0 a0 13).toInt) ∧ ((I' a0 14).toInt = (I0 a0 14).toInt) ∧ True → Q none cn K N I' R' L') : Tr X mX12_readCall 25 ls [] cn K N I0 R0 L0 0 0 := by
  have hS0 : St T cn K N 0 wif_oC25 wrf_oC25 I0 R0 I0 R0 := St.rf0 hW0
  have hL0 : LgS T wlf_oC25 L0 L0 := LgS.rf0
  obtain ⟨a1, d2⟩ := nn4
  have ta1 : T a1 = 14 := hW0.rsN ta0 rfl d2
  obtain ⟨v3, c4⟩ : ∃ v, I0 a0 9 = v := ⟨_, rfl⟩
  have b5 := iv15_9 hS0.1 ta0 c4
  have p6 := pre0
  rw [c4] at p6
  obtain ⟨v7, c8⟩ : ∃ v, I0 a0 13 = v := ⟨_, rfl⟩
  obtain ⟨v9, c10⟩ : ∃ v, I0 a0 14 = v := ⟨_, rfl⟩
  refine tr_aload_n dX12_readCall_25 hl0 ?_
  refine tr_getR dX12_readCall_26 fl12_188 (kR15 hS0.1 ta0) d2 ?_
  refine tr_aload_n dX12_readCall_29 hl0 ?_
  obtain ⟨y11, c12⟩ : ∃ v, L0 a0 15 = v := ⟨_, rfl⟩
  refine q_getLE dX12_readCall_30 fl12_118 (kR15 hS0.1 ta0) c12 ?_
  refine q_callVi hE (M' := mX11_find) (as := [_]) dX12_readCall_33 lk12_201 inX11_find seX11_find myX11_find (by decide) ⟨by decide, by decide⟩ rfl (kR14 hS0.1 ta1) (Nat.le_of_ble_eq_true rfl) rfl rfl (by decide) (by decide) (k_X11_find hS0.1 ta1) ?_
  rintro v17 cn' K' N' I13 R14 L15 ⟨rfl, rfl, rfl, rfl, rfl, rfl, h18, -⟩
  refine tr_istore_n dX12_readCall_36 (by decide) (by decide) ?_
  refine tr_iload_n dX12_readCall_37 rfl ?_
  refine q_iconst dX12_readCall_38 (by decide) ?_
  intro v19 h20
  refine q_icmp_eq 55 dX12_readCall_39 (by decide) (fun h21 => ?_) (fun h21 => ?_)
  · skip
    refine tr_aload_n dX12_readCall_55 hl0 ?_
    refine q_iconst dX12_readCall_56 (by decide) ?_
    intro v22 h23
    obtain ⟨v24, c25⟩ : ∃ v, I0 a0 8 = v := ⟨_, rfl⟩
    have b26 := iv15_8 hS0.1 ta0 c25
    refine q_callVv hE (M' := mX12_flaw) (as := [_]) dX12_readCall_57 lk12_145 inX12_flaw seX12_flaw myX12_flaw (by decide) ⟨by decide, by decide⟩ rfl (kR15 hS0.1 ta0) (Nat.le_of_ble_eq_true rfl) rfl rfl (by decide) (by decide) (k_X12_flaw hS0.1 ta0 (by exact om_18f49b90 h23)) ?_
    rintro cn' K' N' I27 R28 L29 ⟨rfl, rfl, rfl, rfl, rfl, g30, p32, p33, w34, -⟩
    have hS35 := hS0.tr g30 (by decide +kernel) (by decide +kernel)
    have c36 : I27 a0 8 = v24 := (g30.cell ta0 (by decide +kernel)).trans c25
    obtain ⟨v37, c38⟩ : ∃ v, I27 a0 9 = v := ⟨_, rfl⟩
    have b39 := iv15_9 hS35.1 ta0 c38
    rw [c38] at p32
    rw [c36] at p33
    rw [c25] at p33
    have ov40 := w34.over (by rw [c4]; exact om_394b70a2 p6)
    obtain ⟨v41, c42⟩ : ∃ v, I27 a0 9 = v := ⟨_, rfl⟩
    have b43 := iv15_9 hS35.1 ta0 c42
    obtain ⟨v44, c45⟩ : ∃ v, I27 a0 13 = v := ⟨_, rfl⟩
    obtain ⟨v46, c47⟩ : ∃ v, I27 a0 14 = v := ⟨_, rfl⟩
    (try rw [c42] at ov40)
    (try rw [c45] at ov40)
    (try rw [c47] at ov40)
    (try rw [c4] at ov40)
    (try rw [c8] at ov40)
    (try rw [c10] at ov40)
    refine sf_oC60 hE hZ hS35.1 (gB) ta0 (by (try rw [c42]); first | done | with_reducible assumption | exact om_394b70a2 ov40.1) ⟨_, d2⟩ hl0 rfl ?_
    rintro I48 R49 L50 ⟨g51, p52, p53, p54, -⟩
    obtain rfl : R0 = R49 := funext fun a => funext fun j => (g51.2.2 a j (wm_no rfl)).symm
    have hS55 := hS35.tr g51 (by decide +kernel) (by decide +kernel)
    obtain ⟨v56, c57⟩ : ∃ v, I48 a0 9 = v := ⟨_, rfl⟩
    have b58 := iv15_9 hS55.1 ta0 c57
    rw [c57] at p52
    obtain ⟨v59, c60⟩ : ∃ v, I48 a0 13 = v := ⟨_, rfl⟩
    rw [c60] at p53
    rw [c45] at p53
    obtain ⟨v61, c62⟩ : ∃ v, I48 a0 14 = v := ⟨_, rfl⟩
    rw [c62] at p54
    rw [c47] at p54
    exact hq _ _ _ ⟨hS55, (by (try rw [c57]); first | done | with_reducible assumption | omega), (by (try rw [c60]); (try rw [c8]); first | done | with_reducible assumption | exact om_9fa72578 ov40.2.1 p53), (by (try rw [c62]); (try rw [c10]); first | done | with_reducible assumption | exact om_9fa72578 ov40.2.2 p54), trivial⟩
  · skip
    refine tr_aload_n dX12_readCall_42 hl0 ?_
    refine tr_getR dX12_readCall_43 fl12_188 (kR15 hS0.1 ta0) d2 ?_
    obtain ⟨a63, d64, ta63⟩ := rf14_31 hW0 ta1
    refine tr_getR dX12_readCall_46 fl12_212 (kR14 hS0.1 ta1) d64 ?_
    refine tr_iload_n dX12_readCall_49 rfl ?_
    refine q_iald dX12_readCall_50 (kR74 hS0.1 ta63) (ti_in (nR74 hS0.1 ta63) (by exact om_3fddbd34 h18.2 h18.1 h20 h21) (by exact om_ce29e679 h18.2 h18.1)) ?_
    intro v65 c66
    refine q_iconst dX12_readCall_51 (by decide) ?_
    intro v67 h68
    refine q_icmp_eq 60 dX12_readCall_52 (by decide) (fun h69 => ?_) (fun h69 => ?_)
    · skip
      refine sf_oC60 hE hZ hS0.1 (gB) ta0 (by (try rw [c4]); first | done | with_reducible assumption | omega) ⟨_, d2⟩ hl0 rfl ?_
      rintro I70 R71 L72 ⟨g73, p74, p75, p76, -⟩
      obtain rfl : R0 = R71 := funext fun a => funext fun j => (g73.2.2 a j (wm_no rfl)).symm
      have hS77 := hS0.tr g73 (by decide +kernel) (by decide +kernel)
      obtain ⟨v78, c79⟩ : ∃ v, I70 a0 9 = v := ⟨_, rfl⟩
      have b80 := iv15_9 hS77.1 ta0 c79
      rw [c79] at p74
      obtain ⟨v81, c82⟩ : ∃ v, I70 a0 13 = v := ⟨_, rfl⟩
      rw [c82] at p75
      rw [c8] at p75
      obtain ⟨v83, c84⟩ : ∃ v, I70 a0 14 = v := ⟨_, rfl⟩
      rw [c84] at p76
      rw [c10] at p76
      exact hq _ _ _ ⟨hS77, (by (try rw [c79]); first | done | with_reducible assumption | omega), (by (try rw [c82]); (try rw [c8]); first | done | with_reducible assumption | omega), (by (try rw [c84]); (try rw [c10]); first | done | with_reducible assumption | omega), trivial⟩
    · skip
      refine tr_aload_n dX12_readCall_55 hl0 ?_
      refine q_iconst dX12_readCall_56 (by decide) ?_
      intro v85 h86
      obtain ⟨v87, c88⟩ : ∃ v, I0 a0 8 = v := ⟨_, rfl⟩
      have b89 := iv15_8 hS0.1 ta0 c88
      refine q_callVv hE (M' := mX12_flaw) (as := [_]) dX12_readCall_57 lk12_145 inX12_flaw seX12_flaw myX12_flaw (by decide) ⟨by decide, by decide⟩ rfl (kR15 hS0.1 ta0) (Nat.le_of_ble_eq_true rfl) rfl rfl (by decide) (by decide) (k_X12_flaw hS0.1 ta0 (by exact om_18f49b90 h86)) ?_
      rintro cn' K' N' I90 R91 L92 ⟨rfl, rfl, rfl, rfl, rfl, g93, p95, p96, w97, -⟩
      have hS98 := hS0.tr g93 (by decide +kernel) (by decide +kernel)
      have c99 : I90 a0 8 = v87 := (g93.cell ta0 (by decide +kernel)).trans c88
      obtain ⟨v100, c101⟩ : ∃ v, I90 a0 9 = v := ⟨_, rfl⟩
      have b102 := iv15_9 hS98.1 ta0 c101
      rw [c101] at p95
      rw [c99] at p96
      rw [c88] at p96
      have ov103 := w97.over (by rw [c4]; exact om_394b70a2 p6)
      obtain ⟨v104, c105⟩ : ∃ v, I90 a0 9 = v := ⟨_, rfl⟩
      have b106 := iv15_9 hS98.1 ta0 c105
      obtain ⟨v107, c108⟩ : ∃ v, I90 a0 13 = v := ⟨_, rfl⟩
      obtain ⟨v109, c110⟩ : ∃ v, I90 a0 14 = v := ⟨_, rfl⟩
      (try rw [c105] at ov103)
      (try rw [c108] at ov103)
      (try rw [c110] at ov103)
      (try rw [c4] at ov103)
      (try rw [c8] at ov103)
      (try rw [c10] at ov103)
      refine sf_oC60 hE hZ hS98.1 (gB) ta0 (by (try rw [c105]); first | done | with_reducible assumption | exact om_394b70a2 ov103.1) ⟨_, d2⟩ hl0 rfl ?_
      rintro I111 R112 L113 ⟨g114, p115, p116, p117, -⟩
      obtain rfl : R0 = R112 := funext fun a => funext fun j => (g114.2.2 a j (wm_no rfl)).symm
      have hS118 := hS98.tr g114 (by decide +kernel) (by decide +kernel)
      obtain ⟨v119, c120⟩ : ∃ v, I111 a0 9 = v := ⟨_, rfl⟩
      have b121 := iv15_9 hS118.1 ta0 c120
      rw [c120] at p115
      obtain ⟨v122, c123⟩ : ∃ v, I111 a0 13 = v := ⟨_, rfl⟩
      rw [c123] at p116
      rw [c108] at p116
      obtain ⟨v124, c125⟩ : ∃ v, I111 a0 14 = v := ⟨_, rfl⟩
      rw [c125] at p117
      rw [c110] at p117
      exact hq _ _ _ ⟨hS118, (by (try rw [c120]); first | done | with_reducible assumption | omega), (by (try rw [c123]); (try rw [c8]); first | done | with_reducible assumption | exact om_9fa72578 ov103.2.1 p116), (by (try rw [c125]); (try rw [c10]); first | done | with_reducible assumption | exact om_9fa72578 ov103.2.2 p117), trivial⟩
def wif_oC13 : List Nat := [968, 969, 970, 971, 972, 973, 974]
def wrf_oC13 : List Nat := []
def wlf_oC13 : List Nat := []
set_option maxHeartbeats 4000000 in
theorem sf_oC13 {X : cz_X} (hE : cz_env X) {T : Nat → Nat} {cn : Nat} {K N : Nat → Nat} {I0 : cz_I} {R0 : cz_R} {L0 : cz_L} {Q : cz_Q} (hZ : cz_Z X mX12_readCall Q) (hW0 : Wf T cn K N I0 R0 0) (gB : cz_B) {a0 : Nat} (ta0 : T a0 = 15) (pre0 : (I0 a0 9).toInt = 5) (nn4 : ∃ b, R0 a0 4 = some b) {ls : Nat → Option Value} (hl0 : ls 0 = some (.ref a0)) (hq : ∀ (I' : cz_I) (R' : cz_R) (L' : cz_L), St T cn K N 0 wif_oC13 wrf_oC13 I0 R0 I' R' ∧ ((I' a0 9).toInt = 5) ∧ ((I' a0 13).toInt = (I0 a0 13).toInt) ∧ ((I' a0 14).toInt = (I0 a0 14).toInt) ∧ True → Q none cn K N I' R' L') : Tr X mX12_readCall 13 ls [] cn K N I0 R0 L0 0 0 := by
  have hS0 : St T cn K N 0 wif_oC13 wrf_oC13 I0 R0 I0 R0 := St.rf0 hW0
  have hL0 : LgS T wlf_oC13 L0 L0 := LgS.rf0
  obtain ⟨a1, d2⟩ := nn4
  have ta1 : T a1 = 14 := hW0.rsN ta0 rfl d2
  obtain ⟨v3, c4⟩ : ∃ v, I0 a0 9 = v := ⟨_, rfl⟩
  have b5 := iv15_9 hS0.1 ta0 c4
  have p6 := pre0
  rw [c4] at p6
  obtain ⟨v7, c8⟩ : ∃ v, I0 a0 13 = v := ⟨_, rfl⟩
  obtain ⟨v9, c10⟩ : ∃ v, I0 a0 14 = v := ⟨_, rfl⟩
  refine tr_aload_n dX12_readCall_13 hl0 ?_
  refine q_callVi hE (M' := mX12_isName) (as := []) dX12_readCall_14 lk12_197 inX12_isName seX12_isName myX12_isName (by decide) ⟨by decide, by decide⟩ rfl (kR15 hS0.1 ta0) (Nat.le_of_ble_eq_true rfl) rfl rfl (by decide) (by decide) (k_X12_isName hS0.1 ta0) ?_
  rintro v15 cn' K' N' I11 R12 L13 ⟨rfl, rfl, rfl, rfl, rfl, rfl, h16, -⟩
  refine q_if_ne 25 dX12_readCall_17 (by decide) (fun h17 => ?_) (fun h17 => ?_)
  · skip
    refine sf_oC25 hE hZ hS0.1 (gB) ta0 (by (try rw [c4]); first | done | with_reducible assumption | omega) ⟨_, d2⟩ hl0 ?_
    rintro I18 R19 L20 ⟨g21, p22, p23, p24, -⟩
    obtain rfl : R0 = R19 := funext fun a => funext fun j => (g21.2.2 a j (wm_no rfl)).symm
    have hS25 := hS0.tr g21 (by decide +kernel) (by decide +kernel)
    obtain ⟨v26, c27⟩ : ∃ v, I18 a0 9 = v := ⟨_, rfl⟩
    have b28 := iv15_9 hS25.1 ta0 c27
    rw [c27] at p22
    obtain ⟨v29, c30⟩ : ∃ v, I18 a0 13 = v := ⟨_, rfl⟩
    rw [c30] at p23
    rw [c8] at p23
    obtain ⟨v31, c32⟩ : ∃ v, I18 a0 14 = v := ⟨_, rfl⟩
    rw [c32] at p24
    rw [c10] at p24
    exact hq _ _ _ ⟨hS25, (by (try rw [c27]); first | done | with_reducible assumption | omega), (by (try rw [c30]); (try rw [c8]); first | done | with_reducible assumption | omega), (by (try rw [c32]); (try rw [c10]); first | done | with_reducible assumption | omega), trivial⟩
  · skip
    refine tr_aload_n dX12_readCall_20 hl0 ?_
    refine q_iconst dX12_readCall_21 (by decide) ?_
    intro v33 h34
    obtain ⟨v35, c36⟩ : ∃ v, I0 a0 8 = v := ⟨_, rfl⟩
    have b37 := iv15_8 hS0.1 ta0 c36
    refine q_callVv hE (M' := mX12_flaw) (as := [_]) dX12_readCall_22 lk12_145 inX12_flaw seX12_flaw myX12_flaw (by decide) ⟨by decide, by decide⟩ rfl (kR15 hS0.1 ta0) (Nat.le_of_ble_eq_true rfl) rfl rfl (by decide) (by decide) (k_X12_flaw hS0.1 ta0 (by exact om_95922198 h34)) ?_
    rintro cn' K' N' I38 R39 L40 ⟨rfl, rfl, rfl, rfl, rfl, g41, p43, p44, w45, -⟩
    have hS46 := hS0.tr g41 (by decide +kernel) (by decide +kernel)
    have c47 : I38 a0 8 = v35 := (g41.cell ta0 (by decide +kernel)).trans c36
    obtain ⟨v48, c49⟩ : ∃ v, I38 a0 9 = v := ⟨_, rfl⟩
    have b50 := iv15_9 hS46.1 ta0 c49
    rw [c49] at p43
    rw [c47] at p44
    rw [c36] at p44
    have ov51 := w45.over (by rw [c4]; exact om_394b70a2 p6)
    obtain ⟨v52, c53⟩ : ∃ v, I38 a0 9 = v := ⟨_, rfl⟩
    have b54 := iv15_9 hS46.1 ta0 c53
    obtain ⟨v55, c56⟩ : ∃ v, I38 a0 13 = v := ⟨_, rfl⟩
    obtain ⟨v57, c58⟩ : ∃ v, I38 a0 14 = v := ⟨_, rfl⟩
    (try rw [c53] at ov51)
    (try rw [c56] at ov51)
    (try rw [c58] at ov51)
    (try rw [c4] at ov51)
    (try rw [c8] at ov51)
    (try rw [c10] at ov51)
    refine sf_oC25 hE hZ hS46.1 (gB) ta0 (by (try rw [c53]); first | done | with_reducible assumption | exact om_394b70a2 ov51.1) ⟨_, d2⟩ hl0 ?_
    rintro I59 R60 L61 ⟨g62, p63, p64, p65, -⟩
    obtain rfl : R0 = R60 := funext fun a => funext fun j => (g62.2.2 a j (wm_no rfl)).symm
    have hS66 := hS46.tr g62 (by decide +kernel) (by decide +kernel)
    obtain ⟨v67, c68⟩ : ∃ v, I59 a0 9 = v := ⟨_, rfl⟩
    have b69 := iv15_9 hS66.1 ta0 c68
    rw [c68] at p63
    obtain ⟨v70, c71⟩ : ∃ v, I59 a0 13 = v := ⟨_, rfl⟩
    rw [c71] at p64
    rw [c56] at p64
    obtain ⟨v72, c73⟩ : ∃ v, I59 a0 14 = v := ⟨_, rfl⟩
    rw [c73] at p65
    rw [c58] at p65
    exact hq _ _ _ ⟨hS66, (by (try rw [c68]); first | done | with_reducible assumption | omega), (by (try rw [c71]); (try rw [c8]); first | done | with_reducible assumption | exact om_9fa72578 ov51.2.1 p64), (by (try rw [c73]); (try rw [c10]); first | done | with_reducible assumption | exact om_9fa72578 ov51.2.2 p65), trivial⟩
def wik_X12_readCall : List Nat := [901, 968, 969, 970, 971, 972, 973, 974, 4479, 4543, 4607, 4671]
def wrk_X12_readCall : List Nat := []
def wlk_X12_readCall : List Nat := [975]
set_option maxHeartbeats 4000000 in
theorem fk_X12_readCall {l : Launch} {T : Nat → Nat} {cn : Nat} {K N : Nat → Nat} {I0 : cz_I} {R0 : cz_R} {L0 : cz_L} (hW0 : Wf T cn K N I0 R0 0) (gB : cz_B) (gs : Int) (gQ : Nat → Int) {a0 : Nat} (ta0 : T a0 = 15) (hT : ∀ t, R0 a0 5 = some t → Tx I0 t gB) (hN : ∀ b, R0 a0 4 = some b → NmM I0 R0 L0 b gQ) (pre0 : (I0 a0 9).toInt = (tkM gB gs)) (pre1 : (I0 a0 9).toInt ≤ 4) (pre2 : (I0 a0 10).toInt = (tkS gB gs)) (pre3 : (I0 a0 11).toInt = (tkG gB gs)) (pre4 : (AtW ((tkK gB gs)) ((L0 a0 15).toInt) ((tkW gB gs)))) (pre5 : (AtV ((tkK gB gs)) ((I0 a0 12).toInt) ((tkV gB gs)))) (pre6 : (AtN ((tkK gB gs)) ((I0 a0 8).toInt) ((tkN gB gs)))) (pre7 : (I0 a0 7).toInt = (gB.2)) (pre8 : ∀ b1, R0 a0 4 = some b1 → (I0 b1 0).toInt = (gQ 0)) (pre9 : ∀ b1, R0 a0 4 = some b1 → (I0 b1 1).toInt = (gQ 1)) (pre10 : ∀ b1, R0 a0 4 = some b1 → (I0 b1 2).toInt = (gQ 2)) (pre11 : ∀ b1, R0 a0 4 = some b1 → (I0 b1 3).toInt = (gQ 3)) (pre12 : ∀ b1, R0 a0 4 = some b1 → (I0 b1 4).toInt = (gQ 4)) (pre13 : ∀ b1, R0 a0 4 = some b1 → (I0 b1 5).toInt = (gQ 5)) (pre14 : ∀ b1, R0 a0 4 = some b1 → (I0 b1 6).toInt = (gQ 6)) (pre15 : ∀ b1, R0 a0 4 = some b1 → (I0 b1 9).toInt = (gQ 8)) (pre16 : (Q7M ((gQ 0)) ((gQ 7)))) (pre17 : (tkK gB gs) = 1) (pre18 : (srt gB gs) = 8) (nn4 : ∃ b, R0 a0 4 = some b) : ConE l mX12_readCall [.ref a0] cn K N I0 R0 L0 (ca_v (fun cn' K' N' I' R' L' => cn = cn' ∧ K = K' ∧ N = N' ∧ R0 = R' ∧ St T cn K N 0 wik_X12_readCall wrk_X12_readCall I0 R0 I' R0 ∧ (∀ dr, R0 a0 4 = some dr → FrO 14 dr T I0 I') ∧ ((((lnF gB gQ gs) = 0) ∧ (∀ b1, R0 a0 4 = some b1 → (I' b1 0).toInt = (lnQ gB gQ gs 0)) ∧ (∀ b1, R0 a0 4 = some b1 → (I' b1 1).toInt = (lnQ gB gQ gs 1)) ∧ (∀ b1, R0 a0 4 = some b1 → (I' b1 2).toInt = (lnQ gB gQ gs 2)) ∧ (∀ b1, R0 a0 4 = some b1 → (I' b1 3).toInt = (lnQ gB gQ gs 3)) ∧ (∀ b1, R0 a0 4 = some b1 → (I' b1 4).toInt = (lnQ gB gQ gs 4)) ∧ (∀ b1, R0 a0 4 = some b1 → (I' b1 5).toInt = (lnQ gB gQ gs 5)) ∧ (∀ b1, R0 a0 4 = some b1 → (I' b1 6).toInt = (lnQ gB gQ gs 6)) ∧ (∀ b1, R0 a0 4 = some b1 → (I' b1 9).toInt = (lnQ gB gQ gs 8)) ∧ ((I' a0 13).toInt = (I0 a0 13).toInt) ∧ ((I' a0 9).toInt = (tkM gB (lnS gB gQ gs))) ∧ ((I' a0 9).toInt ≤ 4) ∧ ((I' a0 10).toInt = (tkS gB (lnS gB gQ gs))) ∧ ((I' a0 11).toInt = (tkG gB (lnS gB gQ gs))) ∧ ((AtW ((tkK gB (lnS gB gQ gs))) ((L' a0 15).toInt) ((tkW gB (lnS gB gQ gs))))) ∧ ((AtV ((tkK gB (lnS gB gQ gs))) ((I' a0 12).toInt) ((tkV gB (lnS gB gQ gs))))) ∧ ((AtN ((tkK gB (lnS gB gQ gs))) ((I' a0 8).toInt) ((tkN gB (lnS gB gQ gs))))) ∧ LgS T wlk_X12_readCall L0 L' ∧ (∀ b, R0 a0 4 = some b → NmM I' R0 L' b (lnQ gB gQ gs)) ∧ True) ∨ (((lnF gB gQ gs) ≠ 0) ∧ ((I' a0 9).toInt = 5) ∧ ((I' a0 13).toInt = (lnF gB gQ gs)) ∧ ((I' a0 14).toInt = (lnP gB gQ gs)) ∧ True)) ∧ True)) := by
  refine ConE.of (by decide +kernel) rfl (Nat.le_of_ble_eq_true rfl) rfl (fun X hX hZ hE => ?_)
  subst hX
  have hS0 : St T cn K N 0 wik_X12_readCall wrk_X12_readCall I0 R0 I0 R0 := St.rf0 hW0
  have hL0 : LgS T wlk_X12_readCall L0 L0 := LgS.rf0
  obtain ⟨a1, d2⟩ := nn4
  have ta1 : T a1 = 14 := hW0.rsN ta0 rfl d2
  obtain ⟨v3, c4⟩ : ∃ v, I0 a0 9 = v := ⟨_, rfl⟩
  have b5 := iv15_9 hS0.1 ta0 c4
  have p6 := pre0
  rw [c4] at p6
  have p7 := pre1
  rw [c4] at p7
  obtain ⟨v8, c9⟩ : ∃ v, I0 a0 10 = v := ⟨_, rfl⟩
  have b10 := iv15_10 hS0.1 ta0 c9
  have p11 := pre2
  rw [c9] at p11
  obtain ⟨v12, c13⟩ : ∃ v, I0 a0 11 = v := ⟨_, rfl⟩
  have p14 := pre3
  rw [c13] at p14
  obtain ⟨y15, c16⟩ : ∃ v, L0 a0 15 = v := ⟨_, rfl⟩
  have p17 := pre4
  rw [c16] at p17
  obtain ⟨v18, c19⟩ : ∃ v, I0 a0 12 = v := ⟨_, rfl⟩
  have p20 := pre5
  rw [c19] at p20
  obtain ⟨v21, c22⟩ : ∃ v, I0 a0 8 = v := ⟨_, rfl⟩
  have b23 := iv15_8 hS0.1 ta0 c22
  have p24 := pre6
  rw [c22] at p24
  obtain ⟨v25, c26⟩ : ∃ v, I0 a0 7 = v := ⟨_, rfl⟩
  have b27 := iv15_7 hW0 ta0 c26
  have p28 := pre7
  rw [c26] at p28
  obtain ⟨v29, c30⟩ : ∃ v, I0 a1 0 = v := ⟨_, rfl⟩
  have b31 := iv14_0 hW0 ta1 c30
  have p32 := pre8 _ d2
  rw [c30] at p32
  obtain ⟨v33, c34⟩ : ∃ v, I0 a1 1 = v := ⟨_, rfl⟩
  have b35 := iv14_1 hW0 ta1 c34
  have p36 := pre9 _ d2
  rw [c34] at p36
  obtain ⟨v37, c38⟩ : ∃ v, I0 a1 2 = v := ⟨_, rfl⟩
  have b39 := iv14_2 hW0 ta1 c38
  have p40 := pre10 _ d2
  rw [c38] at p40
  obtain ⟨v41, c42⟩ : ∃ v, I0 a1 3 = v := ⟨_, rfl⟩
  have b43 := iv14_3 hW0 ta1 c42
  have p44 := pre11 _ d2
  rw [c42] at p44
  obtain ⟨v45, c46⟩ : ∃ v, I0 a1 4 = v := ⟨_, rfl⟩
  have b47 := iv14_4 hW0 ta1 c46
  have p48 := pre12 _ d2
  rw [c46] at p48
  obtain ⟨v49, c50⟩ : ∃ v, I0 a1 5 = v := ⟨_, rfl⟩
  have b51 := iv14_5 hS0.1 ta1 c50
  have p52 := pre13 _ d2
  rw [c50] at p52
  obtain ⟨v53, c54⟩ : ∃ v, I0 a1 6 = v := ⟨_, rfl⟩
  have b55 := iv14_6 hW0 ta1 c54
  have p56 := pre14 _ d2
  rw [c54] at p56
  obtain ⟨v57, c58⟩ : ∃ v, I0 a1 9 = v := ⟨_, rfl⟩
  have b59 := iv14_9 hW0 ta1 c58
  have p60 := pre15 _ d2
  rw [c58] at p60
  have p61 := pre16
  have p62 := pre17
  have p63 := pre18
  obtain ⟨v64, c65⟩ : ∃ v, I0 a0 13 = v := ⟨_, rfl⟩
  have hM0 := hN _ d2
  have hO0 : FrO 14 a1 T I0 I0 := FrO.rf
  have hF := lnF_ch gB gQ gs
  have hP := lnP_ch gB gQ gs
  replace hF := hF.neg (by exact om_966a22b9 pre18)
  replace hP := hP.neg (by exact om_966a22b9 pre18)
  replace hF := hF.neg (by exact om_01420888 pre18)
  replace hP := hP.neg (by exact om_01420888 pre18)
  refine tr_aload_n dX12_readCall_0 rfl ?_
  refine tr_aload_n dX12_readCall_1 rfl ?_
  refine tr_getR dX12_readCall_2 fl12_188 (kR15 hS0.1 ta0) d2 ?_
  refine q_getI dX12_readCall_5 fl12_349 (kR14 hS0.1 ta1) c50 ?_
  refine q_bipush dX12_readCall_8 (by decide +kernel) ?_
  intro v66 h67
  refine q_callVv hE (M' := mX12_begins) (as := [_, _]) dX12_readCall_10 lk12_268 inX12_begins seX12_begins myX12_begins (by decide) ⟨by decide, by decide⟩ rfl (kR15 hS0.1 ta0) (Nat.le_of_ble_eq_true rfl) rfl rfl (by decide) (by decide) (fk_X12_begins hS0.1 (gB) (gs) (gQ) ta0 (TxA.kp hT hS0 ta0 rfl rfl rfl (by decide +kernel) (by decide +kernel)) (by (try rw [c4]); first | done | with_reducible assumption | omega) (by (try rw [c4]); first | done | with_reducible assumption | omega) (by (try rw [c9]); first | done | with_reducible assumption | omega) (by (try rw [c13]); first | done | with_reducible assumption | omega) (by (try rw [c16]); first | done | assumption) (by (try rw [c19]); first | done | assumption) (by (try rw [c22]); first | done | assumption) (by (try rw [c26]); first | done | with_reducible assumption | omega) (fun q0 z0 => by obtain rfl := Option.some.inj ((d2).symm.trans z0); (try rw [c30]); first | done | with_reducible assumption | omega) (by first | done | with_reducible assumption | omega) ⟨_, d2⟩) ?_
  rintro cn' K' N' I68 R69 L70 ⟨rfl, rfl, rfl, rfl, g71, dj74, -⟩
  have hM75 : NmM I68 R0 L0 a1 gQ := NmM.kpS hM0 g71 hS0.1 ta1 (by decide +kernel) (by decide +kernel)
  have hS76 := hS0.tr g71 (by decide +kernel) (by decide +kernel)
  have c77 : I68 a1 5 = v49 := (g71.cell ta1 (by decide +kernel)).trans c50
  have hO78 : FrO 14 a1 T I0 I68 := hO0.st g71 (by decide +kernel)
  rcases dj74 with ⟨p79, p80, p81, p82, p83, p84, p85, p86, p87, p88, gl89, -⟩ | ⟨p90, p91, p92, p93, -⟩ | ⟨p94, p95, p96, p97, p98, -⟩
  · skip
    have hL99 := hL0.tr gl89 (by decide +kernel)
    have hM100 : NmM I68 R0 L70 a1 gQ := NmM.kpL hM75 gl89 hS76.1 ta1 (by decide +kernel)
    obtain ⟨v101, c102⟩ : ∃ v, I68 a0 13 = v := ⟨_, rfl⟩
    rw [c102] at p81
    rw [c65] at p81
    obtain ⟨v103, c104⟩ : ∃ v, I68 a0 9 = v := ⟨_, rfl⟩
    have b105 := iv15_9 hS76.1 ta0 c104
    rw [c104] at p82
    rw [c104] at p83
    obtain ⟨v106, c107⟩ : ∃ v, I68 a0 10 = v := ⟨_, rfl⟩
    have b108 := iv15_10 hS76.1 ta0 c107
    rw [c107] at p84
    obtain ⟨v109, c110⟩ : ∃ v, I68 a0 11 = v := ⟨_, rfl⟩
    rw [c110] at p85
    obtain ⟨y111, c112⟩ : ∃ v, L70 a0 15 = v := ⟨_, rfl⟩
    rw [c112] at p86
    obtain ⟨v113, c114⟩ : ∃ v, I68 a0 12 = v := ⟨_, rfl⟩
    rw [c114] at p87
    obtain ⟨v115, c116⟩ : ∃ v, I68 a0 8 = v := ⟨_, rfl⟩
    have b117 := iv15_8 hS76.1 ta0 c116
    rw [c116] at p88
    have p118 := p61
    unfold Q7M at p118
    replace hF := hF.neg (by exact om_45bd3bb7 pre18 b31.2 b31.1 p32 b51.2 b51.1 p52 h67 p79 p80 p118)
    replace hP := hP.neg (by exact om_45bd3bb7 pre18 b31.2 b31.1 p32 b51.2 b51.1 p52 h67 p79 p80 p118)
    replace hF := hF.neg (by exact om_7e43a084 pre18 p80 p118)
    replace hP := hP.neg (by exact om_7e43a084 pre18 p80 p118)
    clear p118
    obtain ⟨w119, w120, w121, w122, w123, w124, w125, w126, w127, w128, w129, w130⟩ := lnl_8 (B := gB) (Q := gQ) (s := gs) (by exact om_ab0fb6d5 p63)
    replace hF := hF.to w119 (caF_ch gB gQ (tkN gB gs))
    replace hP := hP.to w120 (caP_ch gB gQ (tkN gB gs))
    refine tr_aload_n dX12_readCall_13 rfl ?_
    refine q_callVi hE (M' := mX12_isName) (as := []) dX12_readCall_14 lk12_197 inX12_isName seX12_isName myX12_isName (by decide) ⟨by decide, by decide⟩ rfl (kR15 hS76.1 ta0) (Nat.le_of_ble_eq_true rfl) rfl rfl (by decide) (by decide) (fk_X12_isName hS76.1 (gB) ((tkN gB gs)) ta0 (by (try rw [c104]); first | done | with_reducible assumption | omega) (by (try rw [c112]); first | done | assumption)) ?_
    rintro v136 cn' K' N' I131 R132 L133 ⟨rfl, rfl, rfl, rfl, rfl, rfl, h137, dj138, -⟩
    rcases dj138 with ⟨p139, p140, p141, -⟩ | ⟨p142, p143, -⟩
    · skip
      replace hF := hF.neg (by exact om_e4d065d5 p140)
      replace hP := hP.neg (by exact om_e4d065d5 p140)
      refine q_if_ne 25 dX12_readCall_17 (by decide) (fun h144 => ?_) (fun h144 => ?_)
      · skip
        refine tr_aload_n dX12_readCall_25 rfl ?_
        refine tr_getR dX12_readCall_26 fl12_188 (kR15 hS76.1 ta0) d2 ?_
        refine tr_aload_n dX12_readCall_29 rfl ?_
        have p145 := p86 (by exact om_ee8a1e2d p141)
        refine q_getLE dX12_readCall_30 fl12_118 (kR15 hS76.1 ta0) c112 ?_
        refine q_callVi hE (M' := mX11_find) (as := [_]) dX12_readCall_33 lk12_201 inX11_find seX11_find myX11_find (by decide) ⟨by decide, by decide⟩ rfl (kR14 hS76.1 ta1) (Nat.le_of_ble_eq_true rfl) rfl rfl (by decide) (by decide) (fk_X11_find hS76.1 ((tkW gB (tkN gB gs))) ta1 (by first | done | with_reducible assumption | omega)) ?_
        rintro v151 cn' K' N' I146 R147 L148 ⟨rfl, rfl, rfl, rfl, rfl, rfl, h152, rp153, -⟩
        obtain ⟨v156, c157⟩ : ∃ v, I0 a1 7 = v := ⟨_, rfl⟩
        have b158 := iv14_7 hW0 ta1 c157
        have p155 := hS76.1.2.2.2.2.1 a0 ta0 _ d2
        rw [((hS76.cell ta1 (by decide +kernel)).trans c157), ((hS76.cell ta1 (by decide +kernel)).trans c42), ((hS76.cell ta1 (by decide +kernel)).trans c46)] at p155
        have fd154 := fd_told hM100 hS76.1 ta1 rp153 (by rw [((hS76.cell ta1 (by decide +kernel)).trans c157)]; exact om_10c6dfe5 p44 p48 w125 w126 p155)
        rw [((hS76.cell ta1 (by decide +kernel)).trans c157)] at fd154
        refine tr_istore_n dX12_readCall_36 (by decide) (by decide) ?_
        refine tr_iload_n dX12_readCall_37 rfl ?_
        refine q_iconst dX12_readCall_38 (by decide) ?_
        intro v159 h160
        refine q_icmp_eq 55 dX12_readCall_39 (by decide) (fun h161 => ?_) (fun h161 => ?_)
        · skip
          replace hF := hF.pos (by exact om_500a6f2f fd154 h160 h161)
          replace hP := hP.pos (by exact om_500a6f2f fd154 h160 h161)
          refine tr_aload_n dX12_readCall_55 rfl ?_
          refine q_iconst dX12_readCall_56 (by decide) ?_
          intro v162 h163
          refine q_callVv hE (M' := mX12_flaw) (as := [_]) dX12_readCall_57 lk12_145 inX12_flaw seX12_flaw myX12_flaw (by decide) ⟨by decide, by decide⟩ rfl (kR15 hS76.1 ta0) (Nat.le_of_ble_eq_true rfl) rfl rfl (by decide) (by decide) (fk_X12_flaw hS76.1  ta0 (by exact om_18f49b90 h163) (by (try rw [c104]); first | done | with_reducible assumption | exact om_f9de8b4b p83 p82 b105.1)) ?_
          rintro cn' K' N' I164 R165 L166 ⟨rfl, rfl, rfl, rfl, rfl, g167, p170, p171, p172, -⟩
          have hM173 : NmM I164 R0 L70 a1 gQ := NmM.kpS hM100 g167 hS76.1 ta1 (by decide +kernel) (by decide +kernel)
          have hS174 := hS76.tr g167 (by decide +kernel) (by decide +kernel)
          have c175 : I164 a1 5 = v49 := (g167.cell ta1 (by decide +kernel)).trans c77
          have c176 : I164 a0 10 = v106 := (g167.cell ta0 (by decide +kernel)).trans c107
          have c177 : I164 a0 11 = v109 := (g167.cell ta0 (by decide +kernel)).trans c110
          have c178 : I164 a0 12 = v113 := (g167.cell ta0 (by decide +kernel)).trans c114
          have c179 : I164 a0 8 = v115 := (g167.cell ta0 (by decide +kernel)).trans c116
          have hO180 : FrO 14 a1 T I0 I164 := hO78.st g167 (by decide +kernel)
          obtain ⟨v181, c182⟩ : ∃ v, I164 a0 9 = v := ⟨_, rfl⟩
          have b183 := iv15_9 hS174.1 ta0 c182
          rw [c182] at p170
          obtain ⟨v184, c185⟩ : ∃ v, I164 a0 13 = v := ⟨_, rfl⟩
          rw [c185] at p171
          obtain ⟨v186, c187⟩ : ∃ v, I164 a0 14 = v := ⟨_, rfl⟩
          rw [c187] at p172
          rw [c107] at p172
          refine sf_oC60 hE hZ hS174.1 (gB) ta0 (by (try rw [c182]); first | done | with_reducible assumption | omega) ⟨_, d2⟩ rfl rfl ?_
          rintro I188 R189 L190 ⟨g191, p192, p193, p194, -⟩
          obtain rfl : R0 = R189 := funext fun a => funext fun j => (g191.2.2 a j (wm_no rfl)).symm
          have hS195 := hS174.tr g191 (by decide +kernel) (by decide +kernel)
          have c196 : I188 a1 5 = v49 := (g191.cell ta1 (by decide +kernel)).trans c175
          have hO197 : FrO 14 a1 T I0 I188 := hO180.st g191 (by decide +kernel)
          obtain ⟨v198, c199⟩ : ∃ v, I188 a0 9 = v := ⟨_, rfl⟩
          have b200 := iv15_9 hS195.1 ta0 c199
          rw [c199] at p192
          obtain ⟨v201, c202⟩ : ∃ v, I188 a0 13 = v := ⟨_, rfl⟩
          rw [c202] at p193
          rw [c185] at p193
          obtain ⟨v203, c204⟩ : ∃ v, I188 a0 14 = v := ⟨_, rfl⟩
          rw [c204] at p194
          rw [c187] at p194
          have eF := hF.eq
          have eP := hP.eq
          obtain ⟨v205, c206⟩ : ∃ v, I188 a0 10 = v := ⟨_, rfl⟩
          have b207 := iv15_10 hS195.1 ta0 c206
          obtain ⟨v208, c209⟩ : ∃ v, I188 a0 11 = v := ⟨_, rfl⟩
          obtain ⟨y210, c211⟩ : ∃ v, L190 a0 15 = v := ⟨_, rfl⟩
          obtain ⟨v212, c213⟩ : ∃ v, I188 a0 12 = v := ⟨_, rfl⟩
          obtain ⟨v214, c215⟩ : ∃ v, I188 a0 8 = v := ⟨_, rfl⟩
          have b216 := iv15_8 hS195.1 ta0 c215
          exact ⟨rfl, rfl, rfl, rfl, rfl, hS195, (fun dr hd => (Option.some.inj (d2.symm.trans hd)) ▸ hO197), (Or.inr (⟨(by first | done | with_reducible assumption | exact om_ecb25a59 eF), (by (try rw [c199]); first | done | with_reducible assumption | omega), (by (try rw [c202]); first | done | with_reducible assumption | exact om_56a31c7f h163 p171 p193 eF), (by (try rw [c204]); first | done | with_reducible assumption | exact om_3efc13ef p84 p172 p194 eP), trivial⟩)), trivial⟩
        · skip
          refine tr_aload_n dX12_readCall_42 rfl ?_
          refine tr_getR dX12_readCall_43 fl12_188 (kR15 hS76.1 ta0) d2 ?_
          obtain ⟨a217, d218, ta217⟩ := rf14_31 hW0 ta1
          refine tr_getR dX12_readCall_46 fl12_212 (kR14 hS76.1 ta1) d218 ?_
          refine tr_iload_n dX12_readCall_49 rfl ?_
          refine q_iald dX12_readCall_50 (kR74 hS76.1 ta217) (ti_in (nR74 hS76.1 ta217) (by exact om_3fddbd34 h152.2 h152.1 h160 h161) (by exact om_ce29e679 h152.2 h152.1)) ?_
          intro v219 c220
          have fs221 := fd_sort hM100 hS76.1 ta1 rp153 (by rw [((hS76.cell ta1 (by decide +kernel)).trans c157)]; exact om_10c6dfe5 p44 p48 w125 w126 p155) (by exact om_3fddbd34 h152.2 h152.1 h160 h161) d218 c220
          refine q_iconst dX12_readCall_51 (by decide) ?_
          intro v222 h223
          refine q_icmp_eq 60 dX12_readCall_52 (by decide) (fun h224 => ?_) (fun h224 => ?_)
          · skip
            replace hF := hF.neg (by exact om_ce6a9429 fs221 h223 h224)
            replace hP := hP.neg (by exact om_ce6a9429 fs221 h223 h224)
            refine tr_aload_n dX12_readCall_60 rfl ?_
            refine q_getI dX12_readCall_61 fl12_99 (kR15 hS76.1 ta0) c104 ?_
            refine q_iconst dX12_readCall_64 (by decide) ?_
            intro v225 h226
            refine q_icmp_ne 72 dX12_readCall_65 (by decide) (fun h227 => ?_) (fun h227 => ?_)
            · skip
              refine tr_aload_n dX12_readCall_72 rfl ?_
              refine tr_getR dX12_readCall_73 fl12_188 (kR15 hS76.1 ta0) d2 ?_
              obtain ⟨a228, d229, ta228⟩ := rf14_32 hW0 ta1
              refine tr_getR dX12_readCall_76 fl12_215 (kR14 hS76.1 ta1) d229 ?_
              refine tr_iload_n dX12_readCall_79 rfl ?_
              refine q_iald dX12_readCall_80 (kR75 hS76.1 ta228) (ti_in (nR75 hS76.1 ta228) (by exact om_85fc2745 p83 p82 b105.1 h152.2 h152.1 h160 h161 fs221 h223 h224 h226 h227) (by exact om_ce29e679 h152.2 h152.1)) ?_
              intro v230 c231
              refine tr_istore_n dX12_readCall_81 (by decide) (by decide) ?_
              refine tr_aload_n dX12_readCall_82 rfl ?_
              have p232 := p88 (by exact om_e0d38eff p141)
              refine q_callVv hE (M' := mX12_goesOn) (as := []) dX12_readCall_83 lk12_142 inX12_goesOn seX12_goesOn myX12_goesOn (by decide) ⟨by decide, by decide⟩ rfl (kR15 hS76.1 ta0) (Nat.le_of_ble_eq_true rfl) rfl rfl (by decide) (by decide) (fk_X12_goesOn hS76.1 (gB) ((tkN gB (tkN gB gs))) ta0 (TxA.kp hT hS76 ta0 rfl rfl rfl (by decide +kernel) (by decide +kernel)) (by (try rw [c116]); first | done | with_reducible assumption | omega) (by (try rw [((hS76.cell ta0 (by decide +kernel)).trans c26)]); first | done | with_reducible assumption | omega) (by (try rw [c104]); first | done | with_reducible assumption | exact om_f9de8b4b p83 p82 b105.1)) ?_
              rintro cn' K' N' I233 R234 L235 ⟨rfl, rfl, rfl, rfl, g236, gl237, p239, p240, p241, p242, p243, p244, p245, -⟩
              have hM246 : NmM I233 R0 L70 a1 gQ := NmM.kpS hM100 g236 hS76.1 ta1 (by decide +kernel) (by decide +kernel)
              have hS247 := hS76.tr g236 (by decide +kernel) (by decide +kernel)
              have c248 : I233 a1 5 = v49 := (g236.cell ta1 (by decide +kernel)).trans c77
              have c249 : I233 a0 13 = v101 := (g236.cell ta0 (by decide +kernel)).trans c102
              have hO250 : FrO 14 a1 T I0 I233 := hO78.st g236 (by decide +kernel)
              have hL251 := hL99.tr gl237 (by decide +kernel)
              have hM252 : NmM I233 R0 L235 a1 gQ := NmM.kpL hM246 gl237 hS247.1 ta1 (by decide +kernel)
              obtain ⟨v253, c254⟩ : ∃ v, I233 a0 9 = v := ⟨_, rfl⟩
              have b255 := iv15_9 hS247.1 ta0 c254
              rw [c254] at p239
              rw [c254] at p240
              obtain ⟨v256, c257⟩ : ∃ v, I233 a0 10 = v := ⟨_, rfl⟩
              have b258 := iv15_10 hS247.1 ta0 c257
              rw [c257] at p241
              obtain ⟨v259, c260⟩ : ∃ v, I233 a0 11 = v := ⟨_, rfl⟩
              rw [c260] at p242
              obtain ⟨y261, c262⟩ : ∃ v, L235 a0 15 = v := ⟨_, rfl⟩
              rw [c262] at p243
              obtain ⟨v263, c264⟩ : ∃ v, I233 a0 12 = v := ⟨_, rfl⟩
              rw [c264] at p244
              obtain ⟨v265, c266⟩ : ∃ v, I233 a0 8 = v := ⟨_, rfl⟩
              have b267 := iv15_8 hS247.1 ta0 c266
              rw [c266] at p245
              refine tr_aload_n dX12_readCall_86 rfl ?_
              refine tr_ldcwS dX12_readCall_87 ld12_352 ?_
              refine q_iconst dX12_readCall_90 (by decide) ?_
              intro v268 h269
              refine tr_aload_n dX12_readCall_91 rfl ?_
              refine tr_getR dX12_readCall_92 fl12_188 (kR15 hS247.1 ta0) d2 ?_
              refine q_getI dX12_readCall_95 fl12_192 (kR14 hS247.1 ta1) ((hS247.cell ta1 (by decide +kernel)).trans c30) ?_
              refine q_iconst dX12_readCall_98 (by decide) ?_
              intro v270 h271
              refine q_isubE dX12_readCall_99 (by intro j1 j2 j3 j4; exact om_6479810f b31.2 b31.1 p32 w122 h271) ?_
              intro v272 h273
              refine q_callVi hE (M' := mX12_readPart) (as := [_, _, _]) dX12_readCall_100 lk12_249 inX12_readPart seX12_readPart myX12_readPart (by decide) ⟨by decide, by decide⟩ rfl (kR15 hS247.1 ta0) (Nat.le_of_ble_eq_true rfl) rfl rfl (by decide) (by decide) (fk_X12_readPart hS247.1 (gB) ((tkN gB (tkN gB gs))) ta0 (by decide) (TxA.kp hT hS247 ta0 rfl rfl rfl (by decide +kernel) (by decide +kernel)) (by (try rw [c254]); first | done | with_reducible assumption | omega) (by (try rw [c254]); first | done | with_reducible assumption | omega) (by (try rw [c257]); first | done | with_reducible assumption | omega) (by (try rw [c260]); first | done | with_reducible assumption | omega) (by (try rw [c262]); first | done | assumption) (by (try rw [c264]); first | done | assumption) (by (try rw [c266]); first | done | assumption) (by (try rw [((hS247.cell ta0 (by decide +kernel)).trans c26)]); first | done | with_reducible assumption | omega)) ?_
              rintro v279 cn' K' N' I274 R275 L276 ⟨rfl, rfl, rfl, rfl, g277, dj280, -⟩
              (try rw [pk_2] at dj280)
              have hM281 : NmM I274 R0 L235 a1 gQ := NmM.kpS hM252 g277 hS247.1 ta1 (by decide +kernel) (by decide +kernel)
              have hS282 := hS247.tr g277 (by decide +kernel) (by decide +kernel)
              have c283 : I274 a1 5 = v49 := (g277.cell ta1 (by decide +kernel)).trans c248
              have hO284 : FrO 14 a1 T I0 I274 := hO250.st g277 (by decide +kernel)
              rcases dj280 with ⟨p285, p286, p287, p288, p289, p290, p291, p292, p293, p294, p295, p296, p297, p298, gl299, -⟩ | ⟨p300, p301, p302, p303, p304, -⟩ | ⟨p305, p306, p307, p308, p309, p310, p311, -⟩ | ⟨p312, p313, p314, p315, p316, p317, p318, p319, -⟩
              · skip
                have hL320 := hL251.tr gl299 (by decide +kernel)
                have hM321 : NmM I274 R0 L276 a1 gQ := NmM.kpL hM281 gl299 hS282.1 ta1 (by decide +kernel)
                obtain ⟨v322, c323⟩ : ∃ v, I274 a0 13 = v := ⟨_, rfl⟩
                rw [c323] at p291
                rw [c249] at p291
                obtain ⟨v324, c325⟩ : ∃ v, I274 a0 9 = v := ⟨_, rfl⟩
                have b326 := iv15_9 hS282.1 ta0 c325
                rw [c325] at p292
                rw [c325] at p293
                obtain ⟨v327, c328⟩ : ∃ v, I274 a0 10 = v := ⟨_, rfl⟩
                have b329 := iv15_10 hS282.1 ta0 c328
                rw [c328] at p294
                obtain ⟨v330, c331⟩ : ∃ v, I274 a0 11 = v := ⟨_, rfl⟩
                rw [c331] at p295
                obtain ⟨y332, c333⟩ : ∃ v, L276 a0 15 = v := ⟨_, rfl⟩
                rw [c333] at p296
                obtain ⟨v334, c335⟩ : ∃ v, I274 a0 12 = v := ⟨_, rfl⟩
                rw [c335] at p297
                obtain ⟨v336, c337⟩ : ∃ v, I274 a0 8 = v := ⟨_, rfl⟩
                have b338 := iv15_8 hS282.1 ta0 c337
                rw [c337] at p298
                replace hF := hF.neg (by exact om_04eb041f p286 p287)
                replace hP := hP.neg (by exact om_04eb041f p286 p287)
                replace hF := hF.neg (by exact om_10ed11b5 p288)
                replace hP := hP.neg (by exact om_10ed11b5 p288)
                replace hF := hF.neg (by exact om_4062d996 p32 w122 h269 h271 h273 p289 p290)
                replace hP := hP.neg (by exact om_4062d996 p32 w122 h269 h271 h273 p289 p290)
                refine tr_istore_n dX12_readCall_103 (by decide) (by decide) ?_
                refine tr_aload_n dX12_readCall_104 rfl ?_
                refine tr_ldcwS dX12_readCall_105 ld12_354 ?_
                refine q_iconst dX12_readCall_108 (by decide) ?_
                intro v339 h340
                refine q_bipush dX12_readCall_109 (by decide +kernel) ?_
                intro v341 h342
                refine q_callVi hE (M' := mX12_readPart) (as := [_, _, _]) dX12_readCall_111 lk12_249 inX12_readPart seX12_readPart myX12_readPart (by decide) ⟨by decide, by decide⟩ rfl (kR15 hS282.1 ta0) (Nat.le_of_ble_eq_true rfl) rfl rfl (by decide) (by decide) (fk_X12_readPart hS282.1 (gB) ((tkN gB (tkN gB (tkN gB (tkN gB gs))))) ta0 (by decide) (TxA.kp hT hS282 ta0 rfl rfl rfl (by decide +kernel) (by decide +kernel)) (by (try rw [c325]); first | done | with_reducible assumption | omega) (by (try rw [c325]); first | done | with_reducible assumption | omega) (by (try rw [c328]); first | done | with_reducible assumption | omega) (by (try rw [c331]); first | done | with_reducible assumption | omega) (by (try rw [c333]); first | done | assumption) (by (try rw [c335]); first | done | assumption) (by (try rw [c337]); first | done | assumption) (by (try rw [((hS282.cell ta0 (by decide +kernel)).trans c26)]); first | done | with_reducible assumption | omega)) ?_
                rintro v348 cn' K' N' I343 R344 L345 ⟨rfl, rfl, rfl, rfl, g346, dj349, -⟩
                (try rw [pk_12] at dj349)
                have hM350 : NmM I343 R0 L276 a1 gQ := NmM.kpS hM321 g346 hS282.1 ta1 (by decide +kernel) (by decide +kernel)
                have hS351 := hS282.tr g346 (by decide +kernel) (by decide +kernel)
                have c352 : I343 a1 5 = v49 := (g346.cell ta1 (by decide +kernel)).trans c283
                have hO353 : FrO 14 a1 T I0 I343 := hO284.st g346 (by decide +kernel)
                rcases dj349 with ⟨p354, p355, p356, p357, p358, p359, p360, p361, p362, p363, p364, p365, p366, p367, gl368, -⟩ | ⟨p369, p370, p371, p372, p373, -⟩ | ⟨p374, p375, p376, p377, p378, p379, p380, -⟩ | ⟨p381, p382, p383, p384, p385, p386, p387, p388, -⟩
                · skip
                  have hL389 := hL320.tr gl368 (by decide +kernel)
                  have hM390 : NmM I343 R0 L345 a1 gQ := NmM.kpL hM350 gl368 hS351.1 ta1 (by decide +kernel)
                  obtain ⟨v391, c392⟩ : ∃ v, I343 a0 13 = v := ⟨_, rfl⟩
                  rw [c392] at p360
                  rw [c323] at p360
                  obtain ⟨v393, c394⟩ : ∃ v, I343 a0 9 = v := ⟨_, rfl⟩
                  have b395 := iv15_9 hS351.1 ta0 c394
                  rw [c394] at p361
                  rw [c394] at p362
                  obtain ⟨v396, c397⟩ : ∃ v, I343 a0 10 = v := ⟨_, rfl⟩
                  have b398 := iv15_10 hS351.1 ta0 c397
                  rw [c397] at p363
                  obtain ⟨v399, c400⟩ : ∃ v, I343 a0 11 = v := ⟨_, rfl⟩
                  rw [c400] at p364
                  obtain ⟨y401, c402⟩ : ∃ v, L345 a0 15 = v := ⟨_, rfl⟩
                  rw [c402] at p365
                  obtain ⟨v403, c404⟩ : ∃ v, I343 a0 12 = v := ⟨_, rfl⟩
                  rw [c404] at p366
                  obtain ⟨v405, c406⟩ : ∃ v, I343 a0 8 = v := ⟨_, rfl⟩
                  have b407 := iv15_8 hS351.1 ta0 c406
                  rw [c406] at p367
                  replace hF := hF.neg (by exact om_9e763d12 p355 p356)
                  replace hP := hP.neg (by exact om_9e763d12 p355 p356)
                  replace hF := hF.neg (by exact om_10ed11b5 p357)
                  replace hP := hP.neg (by exact om_10ed11b5 p357)
                  replace hF := hF.neg (by exact om_431b39b1 h340 h342 p358 p359)
                  replace hP := hP.neg (by exact om_431b39b1 h340 h342 p358 p359)
                  refine tr_istore dX12_readCall_114 (by decide) (by decide) ?_
                  refine tr_aload_n dX12_readCall_116 rfl ?_
                  refine tr_ldcwS dX12_readCall_117 ld12_356 ?_
                  refine q_iconst dX12_readCall_120 (by decide) ?_
                  intro v408 h409
                  refine q_bipush dX12_readCall_121 (by decide +kernel) ?_
                  intro v410 h411
                  refine q_callVi hE (M' := mX12_readPart) (as := [_, _, _]) dX12_readCall_123 lk12_249 inX12_readPart seX12_readPart myX12_readPart (by decide) ⟨by decide, by decide⟩ rfl (kR15 hS351.1 ta0) (Nat.le_of_ble_eq_true rfl) rfl rfl (by decide) (by decide) (fk_X12_readPart hS351.1 (gB) ((tkN gB (tkN gB (tkN gB (tkN gB (tkN gB (tkN gB gs))))))) ta0 (by decide) (TxA.kp hT hS351 ta0 rfl rfl rfl (by decide +kernel) (by decide +kernel)) (by (try rw [c394]); first | done | with_reducible assumption | omega) (by (try rw [c394]); first | done | with_reducible assumption | omega) (by (try rw [c397]); first | done | with_reducible assumption | omega) (by (try rw [c400]); first | done | with_reducible assumption | omega) (by (try rw [c402]); first | done | assumption) (by (try rw [c404]); first | done | assumption) (by (try rw [c406]); first | done | assumption) (by (try rw [((hS351.cell ta0 (by decide +kernel)).trans c26)]); first | done | with_reducible assumption | omega)) ?_
                  rintro v417 cn' K' N' I412 R413 L414 ⟨rfl, rfl, rfl, rfl, g415, dj418, -⟩
                  (try rw [pk_8] at dj418)
                  have hM419 : NmM I412 R0 L345 a1 gQ := NmM.kpS hM390 g415 hS351.1 ta1 (by decide +kernel) (by decide +kernel)
                  have hS420 := hS351.tr g415 (by decide +kernel) (by decide +kernel)
                  have c421 : I412 a1 5 = v49 := (g415.cell ta1 (by decide +kernel)).trans c352
                  have hO422 : FrO 14 a1 T I0 I412 := hO353.st g415 (by decide +kernel)
                  rcases dj418 with ⟨p423, p424, p425, p426, p427, p428, p429, p430, p431, p432, p433, p434, p435, p436, gl437, -⟩ | ⟨p438, p439, p440, p441, p442, -⟩ | ⟨p443, p444, p445, p446, p447, p448, p449, -⟩ | ⟨p450, p451, p452, p453, p454, p455, p456, p457, -⟩
                  · skip
                    have hL458 := hL389.tr gl437 (by decide +kernel)
                    have hM459 : NmM I412 R0 L414 a1 gQ := NmM.kpL hM419 gl437 hS420.1 ta1 (by decide +kernel)
                    obtain ⟨v460, c461⟩ : ∃ v, I412 a0 13 = v := ⟨_, rfl⟩
                    rw [c461] at p429
                    rw [c392] at p429
                    obtain ⟨v462, c463⟩ : ∃ v, I412 a0 9 = v := ⟨_, rfl⟩
                    have b464 := iv15_9 hS420.1 ta0 c463
                    rw [c463] at p430
                    rw [c463] at p431
                    obtain ⟨v465, c466⟩ : ∃ v, I412 a0 10 = v := ⟨_, rfl⟩
                    have b467 := iv15_10 hS420.1 ta0 c466
                    rw [c466] at p432
                    obtain ⟨v468, c469⟩ : ∃ v, I412 a0 11 = v := ⟨_, rfl⟩
                    rw [c469] at p433
                    obtain ⟨y470, c471⟩ : ∃ v, L414 a0 15 = v := ⟨_, rfl⟩
                    rw [c471] at p434
                    obtain ⟨v472, c473⟩ : ∃ v, I412 a0 12 = v := ⟨_, rfl⟩
                    rw [c473] at p435
                    obtain ⟨v474, c475⟩ : ∃ v, I412 a0 8 = v := ⟨_, rfl⟩
                    have b476 := iv15_8 hS420.1 ta0 c475
                    rw [c475] at p436
                    replace hF := hF.neg (by exact om_95feeb19 p424 p425)
                    replace hP := hP.neg (by exact om_95feeb19 p424 p425)
                    replace hF := hF.neg (by exact om_10ed11b5 p426)
                    replace hP := hP.neg (by exact om_10ed11b5 p426)
                    replace hF := hF.neg (by exact om_6dc00766 h409 h411 p427 p428)
                    replace hP := hP.neg (by exact om_6dc00766 h409 h411 p427 p428)
                    refine tr_istore dX12_readCall_126 (by decide) (by decide) ?_
                    refine tr_aload_n dX12_readCall_128 rfl ?_
                    refine q_getI dX12_readCall_129 fl12_99 (kR15 hS420.1 ta0) c463 ?_
                    refine q_iconst dX12_readCall_132 (by decide) ?_
                    intro v477 h478
                    refine q_icmp_ne 137 dX12_readCall_133 (by decide) (fun h479 => ?_) (fun h479 => ?_)
                    · skip
                      refine tr_aload_n dX12_readCall_137 rfl ?_
                      refine tr_getR dX12_readCall_138 fl12_188 (kR15 hS420.1 ta0) d2 ?_
                      obtain ⟨a480, d481, ta480⟩ := rf14_26 hW0 ta1
                      refine tr_getR dX12_readCall_141 fl12_358 (kR14 hS420.1 ta1) d481 ?_
                      refine tr_aload_n dX12_readCall_144 rfl ?_
                      refine tr_getR dX12_readCall_145 fl12_188 (kR15 hS420.1 ta0) d2 ?_
                      refine q_getI dX12_readCall_148 fl12_349 (kR14 hS420.1 ta1) c421 ?_
                      refine tr_iload_n dX12_readCall_151 rfl ?_
                      refine q_iast dX12_readCall_152 (kR69 hS420.1 ta480) (ti_in (nR69 hS420.1 ta480) (by exact om_54ee00be b51.2 b51.1 p52 w127) (by exact om_3680079f b31.2 b31.1 p32 b51.2 b51.1 p52 h67 p79 p80 p83 p82 b105.1 w122 w127 p139 h144 h152.2 h152.1 fd154 h160 h161 fs221 h223 h224 h226 h227 h271 h273 p431 p430 b464.1 h478 h479)) hS420 ta480 (iokF rfl) rfl (by rfl) ?_
                      intro I482 hS483 e485 f484
                      have c486 : I482 a1 5 = v49 := (f484 _ _ (fun q => by have z := ta1; rw [q.1, ta480] at z; exact absurd z (by decide))).trans c421
                      have c487 : I482 a0 13 = v460 := (f484 _ _ (fun q => by have z := ta0; rw [q.1, ta480] at z; exact absurd z (by decide))).trans c461
                      have c488 : I482 a0 9 = v462 := (f484 _ _ (fun q => by have z := ta0; rw [q.1, ta480] at z; exact absurd z (by decide))).trans c463
                      have c489 : I482 a0 10 = v465 := (f484 _ _ (fun q => by have z := ta0; rw [q.1, ta480] at z; exact absurd z (by decide))).trans c466
                      have c490 : I482 a0 11 = v468 := (f484 _ _ (fun q => by have z := ta0; rw [q.1, ta480] at z; exact absurd z (by decide))).trans c469
                      have c491 : I482 a0 12 = v472 := (f484 _ _ (fun q => by have z := ta0; rw [q.1, ta480] at z; exact absurd z (by decide))).trans c473
                      have c492 : I482 a0 8 = v474 := (f484 _ _ (fun q => by have z := ta0; rw [q.1, ta480] at z; exact absurd z (by decide))).trans c475
                      have hO493 : FrO 14 a1 T I0 I482 := hO422.put f484 ta480 (Or.inl (by decide))
                      have hM494 : NmM I482 R0 L414 a1 gQ := NmM.kp1 hM459 f484 ta480 rfl rfl hS420.1 ta1
                      refine tr_aload_n dX12_readCall_153 rfl ?_
                      refine tr_getR dX12_readCall_154 fl12_188 (kR15 hS483.1 ta0) d2 ?_
                      obtain ⟨a495, d496, ta495⟩ := rf14_27 hW0 ta1
                      refine tr_getR dX12_readCall_157 fl12_361 (kR14 hS483.1 ta1) d496 ?_
                      refine tr_aload_n dX12_readCall_160 rfl ?_
                      refine tr_getR dX12_readCall_161 fl12_188 (kR15 hS483.1 ta0) d2 ?_
                      refine q_getI dX12_readCall_164 fl12_349 (kR14 hS483.1 ta1) c486 ?_
                      refine tr_iload_n dX12_readCall_167 rfl ?_
                      refine q_iast dX12_readCall_168 (kR70 hS483.1 ta495) (ti_in (nR70 hS483.1 ta495) (by exact om_54ee00be b51.2 b51.1 p52 w127) (by exact om_3680079f b31.2 b31.1 p32 b51.2 b51.1 p52 h67 p79 p80 p83 p82 b105.1 w122 w127 p139 h144 h152.2 h152.1 fd154 h160 h161 fs221 h223 h224 h226 h227 h271 h273 p431 p430 b464.1 h478 h479)) hS483 ta495 (iokF rfl) rfl (by rfl) ?_
                      intro I497 hS498 e500 f499
                      have c501 : I497 a1 5 = v49 := (f499 _ _ (fun q => by have z := ta1; rw [q.1, ta495] at z; exact absurd z (by decide))).trans c486
                      have c502 : I497 a0 13 = v460 := (f499 _ _ (fun q => by have z := ta0; rw [q.1, ta495] at z; exact absurd z (by decide))).trans c487
                      have c503 : I497 a0 9 = v462 := (f499 _ _ (fun q => by have z := ta0; rw [q.1, ta495] at z; exact absurd z (by decide))).trans c488
                      have c504 : I497 a0 10 = v465 := (f499 _ _ (fun q => by have z := ta0; rw [q.1, ta495] at z; exact absurd z (by decide))).trans c489
                      have c505 : I497 a0 11 = v468 := (f499 _ _ (fun q => by have z := ta0; rw [q.1, ta495] at z; exact absurd z (by decide))).trans c490
                      have c506 : I497 a0 12 = v472 := (f499 _ _ (fun q => by have z := ta0; rw [q.1, ta495] at z; exact absurd z (by decide))).trans c491
                      have c507 : I497 a0 8 = v474 := (f499 _ _ (fun q => by have z := ta0; rw [q.1, ta495] at z; exact absurd z (by decide))).trans c492
                      have hO508 : FrO 14 a1 T I0 I497 := hO493.put f499 ta495 (Or.inl (by decide))
                      have hM509 : NmM I497 R0 L414 a1 gQ := NmM.kp1 hM494 f499 ta495 rfl rfl hS483.1 ta1
                      refine tr_aload_n dX12_readCall_169 rfl ?_
                      refine tr_getR dX12_readCall_170 fl12_188 (kR15 hS498.1 ta0) d2 ?_
                      obtain ⟨a510, d511, ta510⟩ := rf14_28 hW0 ta1
                      refine tr_getR dX12_readCall_173 fl12_364 (kR14 hS498.1 ta1) d511 ?_
                      refine tr_aload_n dX12_readCall_176 rfl ?_
                      refine tr_getR dX12_readCall_177 fl12_188 (kR15 hS498.1 ta0) d2 ?_
                      refine q_getI dX12_readCall_180 fl12_349 (kR14 hS498.1 ta1) c501 ?_
                      refine tr_iload dX12_readCall_183 rfl ?_
                      refine q_iast dX12_readCall_185 (kR71 hS498.1 ta510) (ti_in (nR71 hS498.1 ta510) (by exact om_54ee00be b51.2 b51.1 p52 w127) (by exact om_3680079f b31.2 b31.1 p32 b51.2 b51.1 p52 h67 p79 p80 p83 p82 b105.1 w122 w127 p139 h144 h152.2 h152.1 fd154 h160 h161 fs221 h223 h224 h226 h227 h271 h273 p431 p430 b464.1 h478 h479)) hS498 ta510 (iokF rfl) rfl (by rfl) ?_
                      intro I512 hS513 e515 f514
                      have c516 : I512 a1 5 = v49 := (f514 _ _ (fun q => by have z := ta1; rw [q.1, ta510] at z; exact absurd z (by decide))).trans c501
                      have c517 : I512 a0 13 = v460 := (f514 _ _ (fun q => by have z := ta0; rw [q.1, ta510] at z; exact absurd z (by decide))).trans c502
                      have c518 : I512 a0 9 = v462 := (f514 _ _ (fun q => by have z := ta0; rw [q.1, ta510] at z; exact absurd z (by decide))).trans c503
                      have c519 : I512 a0 10 = v465 := (f514 _ _ (fun q => by have z := ta0; rw [q.1, ta510] at z; exact absurd z (by decide))).trans c504
                      have c520 : I512 a0 11 = v468 := (f514 _ _ (fun q => by have z := ta0; rw [q.1, ta510] at z; exact absurd z (by decide))).trans c505
                      have c521 : I512 a0 12 = v472 := (f514 _ _ (fun q => by have z := ta0; rw [q.1, ta510] at z; exact absurd z (by decide))).trans c506
                      have c522 : I512 a0 8 = v474 := (f514 _ _ (fun q => by have z := ta0; rw [q.1, ta510] at z; exact absurd z (by decide))).trans c507
                      have hO523 : FrO 14 a1 T I0 I512 := hO508.put f514 ta510 (Or.inl (by decide))
                      have hM524 : NmM I512 R0 L414 a1 gQ := NmM.kp1 hM509 f514 ta510 rfl rfl hS498.1 ta1
                      refine tr_aload_n dX12_readCall_186 rfl ?_
                      refine tr_getR dX12_readCall_187 fl12_188 (kR15 hS513.1 ta0) d2 ?_
                      obtain ⟨a525, d526, ta525⟩ := rf14_29 hW0 ta1
                      refine tr_getR dX12_readCall_190 fl12_367 (kR14 hS513.1 ta1) d526 ?_
                      refine tr_aload_n dX12_readCall_193 rfl ?_
                      refine tr_getR dX12_readCall_194 fl12_188 (kR15 hS513.1 ta0) d2 ?_
                      refine q_getI dX12_readCall_197 fl12_349 (kR14 hS513.1 ta1) c516 ?_
                      refine tr_iload dX12_readCall_200 rfl ?_
                      refine q_iast dX12_readCall_202 (kR72 hS513.1 ta525) (ti_in (nR72 hS513.1 ta525) (by exact om_54ee00be b51.2 b51.1 p52 w127) (by exact om_3680079f b31.2 b31.1 p32 b51.2 b51.1 p52 h67 p79 p80 p83 p82 b105.1 w122 w127 p139 h144 h152.2 h152.1 fd154 h160 h161 fs221 h223 h224 h226 h227 h271 h273 p431 p430 b464.1 h478 h479)) hS513 ta525 (iokF rfl) rfl (by rfl) ?_
                      intro I527 hS528 e530 f529
                      have c531 : I527 a1 5 = v49 := (f529 _ _ (fun q => by have z := ta1; rw [q.1, ta525] at z; exact absurd z (by decide))).trans c516
                      have c532 : I527 a0 13 = v460 := (f529 _ _ (fun q => by have z := ta0; rw [q.1, ta525] at z; exact absurd z (by decide))).trans c517
                      have c533 : I527 a0 9 = v462 := (f529 _ _ (fun q => by have z := ta0; rw [q.1, ta525] at z; exact absurd z (by decide))).trans c518
                      have c534 : I527 a0 10 = v465 := (f529 _ _ (fun q => by have z := ta0; rw [q.1, ta525] at z; exact absurd z (by decide))).trans c519
                      have c535 : I527 a0 11 = v468 := (f529 _ _ (fun q => by have z := ta0; rw [q.1, ta525] at z; exact absurd z (by decide))).trans c520
                      have c536 : I527 a0 12 = v472 := (f529 _ _ (fun q => by have z := ta0; rw [q.1, ta525] at z; exact absurd z (by decide))).trans c521
                      have c537 : I527 a0 8 = v474 := (f529 _ _ (fun q => by have z := ta0; rw [q.1, ta525] at z; exact absurd z (by decide))).trans c522
                      have hO538 : FrO 14 a1 T I0 I527 := hO523.put f529 ta525 (Or.inl (by decide))
                      have hM539 : NmM I527 R0 L414 a1 gQ := NmM.kp1 hM524 f529 ta525 rfl rfl hS513.1 ta1
                      refine tr_aload_n dX12_readCall_203 rfl ?_
                      refine tr_getR dX12_readCall_204 fl12_188 (kR15 hS528.1 ta0) d2 ?_
                      refine tr_dup dX12_readCall_207 rfl ?_
                      refine q_getI dX12_readCall_208 fl12_349 (kR14 hS528.1 ta1) c531 ?_
                      refine q_iconst dX12_readCall_211 (by decide) ?_
                      intro v540 h541
                      refine q_iaddE dX12_readCall_212 (by intro j1 j2 j3 j4; exact om_bce0c7e7 b51.2 b51.1 p52 w127 h541) ?_
                      intro v542 h543
                      refine q_putI dX12_readCall_213 fl12_349 (kR14 hS528.1 ta1) (Or.inl rfl) hS528 ta1 (by show (0 : Int) ≤ v542.toInt ∧ v542.toInt ≤ (6 : Int); exact om_715f173a b31.2 b31.1 p32 b51.2 b51.1 p52 h67 p79 p80 p83 p82 b105.1 w122 w127 p139 h144 h152.2 h152.1 fd154 h160 h161 fs221 h223 h224 h226 h227 h271 h273 p431 p430 b464.1 h478 h479 h541 h543) rfl (by decide +kernel) ?_
                      intro I544 hS545 e546 f547
                      have c548 : I544 a0 13 = v460 := (f547 _ _ (fun q => absurd q.2 (by decide))).trans c532
                      have c549 : I544 a0 9 = v462 := (f547 _ _ (fun q => absurd q.2 (by decide))).trans c533
                      have c550 : I544 a0 10 = v465 := (f547 _ _ (fun q => absurd q.2 (by decide))).trans c534
                      have c551 : I544 a0 11 = v468 := (f547 _ _ (fun q => absurd q.2 (by decide))).trans c535
                      have c552 : I544 a0 12 = v472 := (f547 _ _ (fun q => absurd q.2 (by decide))).trans c536
                      have c553 : I544 a0 8 = v474 := (f547 _ _ (fun q => absurd q.2 (by decide))).trans c537
                      have hO554 : FrO 14 a1 T I0 I544 := hO538.put f547 ta1 (Or.inr rfl)
                      have hM555 : NmM I544 R0 L414 a1 gQ := NmM.kp1 hM539 f547 ta1 rfl rfl hS528.1 ta1
                      have eF := hF.eq
                      have eP := hP.eq
                      obtain ⟨v556, c557⟩ : ∃ v, I544 a0 14 = v := ⟨_, rfl⟩
                      exact tr_vret hZ dX12_readCall_216 rfl (by decide) (by decide) ⟨rfl, rfl, rfl, rfl, rfl, hS545, (fun dr hd => (Option.some.inj (d2.symm.trans hd)) ▸ hO554), (Or.inl ⟨(by (try rw [w121]); first | done | with_reducible assumption | omega), (fun q0 z0 => by obtain rfl := Option.some.inj ((d2).symm.trans z0); (try rw [w121]); (try rw [((hS545.cell ta1 (by decide +kernel)).trans c30)]); first | done | with_reducible assumption | exact om_2757374c p32 w122), (fun q0 z0 => by obtain rfl := Option.some.inj ((d2).symm.trans z0); (try rw [w121]); (try rw [((hS545.cell ta1 (by decide +kernel)).trans c34)]); first | done | with_reducible assumption | exact om_2757374c p36 w123), (fun q0 z0 => by obtain rfl := Option.some.inj ((d2).symm.trans z0); (try rw [w121]); (try rw [((hS545.cell ta1 (by decide +kernel)).trans c38)]); first | done | with_reducible assumption | exact om_2757374c p40 w124), (fun q0 z0 => by obtain rfl := Option.some.inj ((d2).symm.trans z0); (try rw [w121]); (try rw [((hS545.cell ta1 (by decide +kernel)).trans c42)]); first | done | with_reducible assumption | exact om_2757374c p44 w125), (fun q0 z0 => by obtain rfl := Option.some.inj ((d2).symm.trans z0); (try rw [w121]); (try rw [((hS545.cell ta1 (by decide +kernel)).trans c46)]); first | done | with_reducible assumption | exact om_2757374c p48 w126), (fun q0 z0 => by obtain rfl := Option.some.inj ((d2).symm.trans z0); (try rw [w121]); (try rw [e546]); first | done | with_reducible assumption | exact om_7149e5be p52 w127 h541 h543), (fun q0 z0 => by obtain rfl := Option.some.inj ((d2).symm.trans z0); (try rw [w121]); (try rw [((hS545.cell ta1 (by decide +kernel)).trans c54)]); first | done | with_reducible assumption | exact om_2757374c p56 w128), (fun q0 z0 => by obtain rfl := Option.some.inj ((d2).symm.trans z0); (try rw [w121]); (try rw [((hS545.cell ta1 (by decide +kernel)).trans c58)]); first | done | with_reducible assumption | exact om_2757374c p60 w130), (by (try rw [w121]); (try rw [c548]); (try rw [c65]); first | done | with_reducible assumption | exact om_751d021b p81 p291 p360 p429), (by (try rw [w121]); (try rw [c549]); first | done | with_reducible assumption | omega), (by (try rw [w121]); (try rw [c549]); first | done | with_reducible assumption | omega), (by (try rw [w121]); (try rw [c550]); first | done | with_reducible assumption | omega), (by (try rw [w121]); (try rw [c551]); first | done | with_reducible assumption | omega), (by (try rw [w121]); (try rw [c471]); first | done | assumption), (by (try rw [w121]); (try rw [c552]); first | done | assumption), (by (try rw [w121]); (try rw [c553]); first | done | assumption), hL458, (fun b hb => (Option.some.inj (d2.symm.trans hb)) ▸ NmM.ln (NmM.bd (k := srt gB gs) hM555 (by exact om_64894a24 pre18) (by exact om_3492dc36 pre18)) rfl), trivial⟩), trivial⟩
                    · skip
                      exfalso; exact om_99cda0b7 p431 p430 b464.1 h478 h479
                  · skip
                    obtain ⟨v558, c559⟩ : ∃ v, I412 a0 9 = v := ⟨_, rfl⟩
                    have b560 := iv15_9 hS420.1 ta0 c559
                    rw [c559] at p440
                    obtain ⟨v561, c562⟩ : ∃ v, I412 a0 13 = v := ⟨_, rfl⟩
                    rw [c562] at p441
                    obtain ⟨v563, c564⟩ : ∃ v, I412 a0 14 = v := ⟨_, rfl⟩
                    rw [c564] at p442
                    replace hF := hF.pos (by exact om_0cd8357c p439)
                    replace hP := hP.pos (by exact om_0cd8357c p439)
                    refine tr_istore dX12_readCall_126 (by decide) (by decide) ?_
                    refine sf_oC128 hE hZ hS420.1 (gB) ta0 (by (try rw [c559]); first | done | with_reducible assumption | omega) ⟨_, d2⟩ rfl rfl rfl rfl rfl rfl ?_
                    rintro I565 R566 L567 ⟨g568, p569, p570, p571, -⟩
                    obtain rfl : R0 = R566 := funext fun a => funext fun j => (g568.2.2 a j (wm_no rfl)).symm
                    have hS572 := hS420.tr g568 (by decide +kernel) (by decide +kernel)
                    have c573 : I565 a1 5 = v49 := (g568.cell ta1 (by decide +kernel)).trans c421
                    have c574 : I565 a0 9 = v558 := (g568.cell ta0 (by decide +kernel)).trans c559
                    have c575 : I565 a0 13 = v561 := (g568.cell ta0 (by decide +kernel)).trans c562
                    have c576 : I565 a0 14 = v563 := (g568.cell ta0 (by decide +kernel)).trans c564
                    have hO577 : FrO 14 a1 T I0 I565 := hO422.st g568 (by decide +kernel)
                    rw [c574] at p569
                    rw [c575] at p570
                    rw [c562] at p570
                    rw [c576] at p571
                    rw [c564] at p571
                    have eF := hF.eq
                    have eP := hP.eq
                    obtain ⟨v578, c579⟩ : ∃ v, I565 a0 10 = v := ⟨_, rfl⟩
                    have b580 := iv15_10 hS572.1 ta0 c579
                    obtain ⟨v581, c582⟩ : ∃ v, I565 a0 11 = v := ⟨_, rfl⟩
                    obtain ⟨y583, c584⟩ : ∃ v, L567 a0 15 = v := ⟨_, rfl⟩
                    obtain ⟨v585, c586⟩ : ∃ v, I565 a0 12 = v := ⟨_, rfl⟩
                    obtain ⟨v587, c588⟩ : ∃ v, I565 a0 8 = v := ⟨_, rfl⟩
                    have b589 := iv15_8 hS572.1 ta0 c588
                    exact ⟨rfl, rfl, rfl, rfl, rfl, hS572, (fun dr hd => (Option.some.inj (d2.symm.trans hd)) ▸ hO577), (Or.inr (⟨(by first | done | with_reducible assumption | exact om_7fac24c5 eF), (by (try rw [c574]); first | done | with_reducible assumption | omega), (by (try rw [c575]); first | done | with_reducible assumption | exact om_3345b898 p441 eF), (by (try rw [c576]); first | done | with_reducible assumption | exact om_2757374c p442 eP), trivial⟩)), trivial⟩
                  · skip
                    obtain ⟨v590, c591⟩ : ∃ v, I412 a0 9 = v := ⟨_, rfl⟩
                    have b592 := iv15_9 hS420.1 ta0 c591
                    rw [c591] at p447
                    obtain ⟨v593, c594⟩ : ∃ v, I412 a0 13 = v := ⟨_, rfl⟩
                    rw [c594] at p448
                    obtain ⟨v595, c596⟩ : ∃ v, I412 a0 14 = v := ⟨_, rfl⟩
                    rw [c596] at p449
                    replace hF := hF.neg (by exact om_95feeb19 p444 p445)
                    replace hP := hP.neg (by exact om_95feeb19 p444 p445)
                    replace hF := hF.pos (by exact om_73cc8e29 p446)
                    replace hP := hP.pos (by exact om_73cc8e29 p446)
                    refine tr_istore dX12_readCall_126 (by decide) (by decide) ?_
                    refine sf_oC128 hE hZ hS420.1 (gB) ta0 (by (try rw [c591]); first | done | with_reducible assumption | omega) ⟨_, d2⟩ rfl rfl rfl rfl rfl rfl ?_
                    rintro I597 R598 L599 ⟨g600, p601, p602, p603, -⟩
                    obtain rfl : R0 = R598 := funext fun a => funext fun j => (g600.2.2 a j (wm_no rfl)).symm
                    have hS604 := hS420.tr g600 (by decide +kernel) (by decide +kernel)
                    have c605 : I597 a1 5 = v49 := (g600.cell ta1 (by decide +kernel)).trans c421
                    have c606 : I597 a0 9 = v590 := (g600.cell ta0 (by decide +kernel)).trans c591
                    have c607 : I597 a0 13 = v593 := (g600.cell ta0 (by decide +kernel)).trans c594
                    have c608 : I597 a0 14 = v595 := (g600.cell ta0 (by decide +kernel)).trans c596
                    have hO609 : FrO 14 a1 T I0 I597 := hO422.st g600 (by decide +kernel)
                    rw [c606] at p601
                    rw [c607] at p602
                    rw [c594] at p602
                    rw [c608] at p603
                    rw [c596] at p603
                    have eF := hF.eq
                    have eP := hP.eq
                    obtain ⟨v610, c611⟩ : ∃ v, I597 a0 10 = v := ⟨_, rfl⟩
                    have b612 := iv15_10 hS604.1 ta0 c611
                    obtain ⟨v613, c614⟩ : ∃ v, I597 a0 11 = v := ⟨_, rfl⟩
                    obtain ⟨y615, c616⟩ : ∃ v, L599 a0 15 = v := ⟨_, rfl⟩
                    obtain ⟨v617, c618⟩ : ∃ v, I597 a0 12 = v := ⟨_, rfl⟩
                    obtain ⟨v619, c620⟩ : ∃ v, I597 a0 8 = v := ⟨_, rfl⟩
                    have b621 := iv15_8 hS604.1 ta0 c620
                    exact ⟨rfl, rfl, rfl, rfl, rfl, hS604, (fun dr hd => (Option.some.inj (d2.symm.trans hd)) ▸ hO609), (Or.inr (⟨(by first | done | with_reducible assumption | exact om_7fac24c5 eF), (by (try rw [c606]); first | done | with_reducible assumption | omega), (by (try rw [c607]); first | done | with_reducible assumption | exact om_3345b898 p448 eF), (by (try rw [c608]); first | done | with_reducible assumption | exact om_2757374c p449 eP), trivial⟩)), trivial⟩
                  · skip
                    obtain ⟨v622, c623⟩ : ∃ v, I412 a0 9 = v := ⟨_, rfl⟩
                    have b624 := iv15_9 hS420.1 ta0 c623
                    rw [c623] at p455
                    obtain ⟨v625, c626⟩ : ∃ v, I412 a0 13 = v := ⟨_, rfl⟩
                    rw [c626] at p456
                    obtain ⟨v627, c628⟩ : ∃ v, I412 a0 14 = v := ⟨_, rfl⟩
                    rw [c628] at p457
                    replace hF := hF.neg (by exact om_95feeb19 p451 p452)
                    replace hP := hP.neg (by exact om_95feeb19 p451 p452)
                    replace hF := hF.neg (by exact om_10ed11b5 p453)
                    replace hP := hP.neg (by exact om_10ed11b5 p453)
                    replace hF := hF.pos (by exact om_20030929 h409 h411 p454)
                    replace hP := hP.pos (by exact om_20030929 h409 h411 p454)
                    refine tr_istore dX12_readCall_126 (by decide) (by decide) ?_
                    refine sf_oC128 hE hZ hS420.1 (gB) ta0 (by (try rw [c623]); first | done | with_reducible assumption | omega) ⟨_, d2⟩ rfl rfl rfl rfl rfl rfl ?_
                    rintro I629 R630 L631 ⟨g632, p633, p634, p635, -⟩
                    obtain rfl : R0 = R630 := funext fun a => funext fun j => (g632.2.2 a j (wm_no rfl)).symm
                    have hS636 := hS420.tr g632 (by decide +kernel) (by decide +kernel)
                    have c637 : I629 a1 5 = v49 := (g632.cell ta1 (by decide +kernel)).trans c421
                    have c638 : I629 a0 9 = v622 := (g632.cell ta0 (by decide +kernel)).trans c623
                    have c639 : I629 a0 13 = v625 := (g632.cell ta0 (by decide +kernel)).trans c626
                    have c640 : I629 a0 14 = v627 := (g632.cell ta0 (by decide +kernel)).trans c628
                    have hO641 : FrO 14 a1 T I0 I629 := hO422.st g632 (by decide +kernel)
                    rw [c638] at p633
                    rw [c639] at p634
                    rw [c626] at p634
                    rw [c640] at p635
                    rw [c628] at p635
                    have eF := hF.eq
                    have eP := hP.eq
                    obtain ⟨v642, c643⟩ : ∃ v, I629 a0 10 = v := ⟨_, rfl⟩
                    have b644 := iv15_10 hS636.1 ta0 c643
                    obtain ⟨v645, c646⟩ : ∃ v, I629 a0 11 = v := ⟨_, rfl⟩
                    obtain ⟨y647, c648⟩ : ∃ v, L631 a0 15 = v := ⟨_, rfl⟩
                    obtain ⟨v649, c650⟩ : ∃ v, I629 a0 12 = v := ⟨_, rfl⟩
                    obtain ⟨v651, c652⟩ : ∃ v, I629 a0 8 = v := ⟨_, rfl⟩
                    have b653 := iv15_8 hS636.1 ta0 c652
                    exact ⟨rfl, rfl, rfl, rfl, rfl, hS636, (fun dr hd => (Option.some.inj (d2.symm.trans hd)) ▸ hO641), (Or.inr (⟨(by first | done | with_reducible assumption | exact om_7b84bd42 eF), (by (try rw [c638]); first | done | with_reducible assumption | omega), (by (try rw [c639]); first | done | with_reducible assumption | exact om_46d5da87 p456 eF), (by (try rw [c640]); first | done | with_reducible assumption | exact om_2757374c p457 eP), trivial⟩)), trivial⟩
                · skip
                  obtain ⟨v654, c655⟩ : ∃ v, I343 a0 9 = v := ⟨_, rfl⟩
                  have b656 := iv15_9 hS351.1 ta0 c655
                  rw [c655] at p371
                  obtain ⟨v657, c658⟩ : ∃ v, I343 a0 13 = v := ⟨_, rfl⟩
                  rw [c658] at p372
                  obtain ⟨v659, c660⟩ : ∃ v, I343 a0 14 = v := ⟨_, rfl⟩
                  rw [c660] at p373
                  replace hF := hF.pos (by exact om_2d6c483d p370)
                  replace hP := hP.pos (by exact om_2d6c483d p370)
                  refine tr_istore dX12_readCall_114 (by decide) (by decide) ?_
                  refine sf_oC116 hE hZ hS351.1 (gB) ta0 (by (try rw [c655]); first | done | with_reducible assumption | omega) ⟨_, d2⟩ rfl rfl rfl rfl rfl ?_
                  rintro I661 R662 L663 ⟨g664, p665, p666, p667, -⟩
                  obtain rfl : R0 = R662 := funext fun a => funext fun j => (g664.2.2 a j (wm_no rfl)).symm
                  have hS668 := hS351.tr g664 (by decide +kernel) (by decide +kernel)
                  have c669 : I661 a1 5 = v49 := (g664.cell ta1 (by decide +kernel)).trans c352
                  have hO670 : FrO 14 a1 T I0 I661 := hO353.st g664 (by decide +kernel)
                  obtain ⟨v671, c672⟩ : ∃ v, I661 a0 9 = v := ⟨_, rfl⟩
                  have b673 := iv15_9 hS668.1 ta0 c672
                  rw [c672] at p665
                  obtain ⟨v674, c675⟩ : ∃ v, I661 a0 13 = v := ⟨_, rfl⟩
                  rw [c675] at p666
                  rw [c658] at p666
                  obtain ⟨v676, c677⟩ : ∃ v, I661 a0 14 = v := ⟨_, rfl⟩
                  rw [c677] at p667
                  rw [c660] at p667
                  have eF := hF.eq
                  have eP := hP.eq
                  obtain ⟨v678, c679⟩ : ∃ v, I661 a0 10 = v := ⟨_, rfl⟩
                  have b680 := iv15_10 hS668.1 ta0 c679
                  obtain ⟨v681, c682⟩ : ∃ v, I661 a0 11 = v := ⟨_, rfl⟩
                  obtain ⟨y683, c684⟩ : ∃ v, L663 a0 15 = v := ⟨_, rfl⟩
                  obtain ⟨v685, c686⟩ : ∃ v, I661 a0 12 = v := ⟨_, rfl⟩
                  obtain ⟨v687, c688⟩ : ∃ v, I661 a0 8 = v := ⟨_, rfl⟩
                  have b689 := iv15_8 hS668.1 ta0 c688
                  exact ⟨rfl, rfl, rfl, rfl, rfl, hS668, (fun dr hd => (Option.some.inj (d2.symm.trans hd)) ▸ hO670), (Or.inr (⟨(by first | done | with_reducible assumption | exact om_7fac24c5 eF), (by (try rw [c672]); first | done | with_reducible assumption | omega), (by (try rw [c675]); first | done | with_reducible assumption | exact om_9adad658 p372 p666 eF), (by (try rw [c677]); first | done | with_reducible assumption | exact om_3998a42e p373 p667 eP), trivial⟩)), trivial⟩
                · skip
                  obtain ⟨v690, c691⟩ : ∃ v, I343 a0 9 = v := ⟨_, rfl⟩
                  have b692 := iv15_9 hS351.1 ta0 c691
                  rw [c691] at p378
                  obtain ⟨v693, c694⟩ : ∃ v, I343 a0 13 = v := ⟨_, rfl⟩
                  rw [c694] at p379
                  obtain ⟨v695, c696⟩ : ∃ v, I343 a0 14 = v := ⟨_, rfl⟩
                  rw [c696] at p380
                  replace hF := hF.neg (by exact om_9e763d12 p375 p376)
                  replace hP := hP.neg (by exact om_9e763d12 p375 p376)
                  replace hF := hF.pos (by exact om_73cc8e29 p377)
                  replace hP := hP.pos (by exact om_73cc8e29 p377)
                  refine tr_istore dX12_readCall_114 (by decide) (by decide) ?_
                  refine sf_oC116 hE hZ hS351.1 (gB) ta0 (by (try rw [c691]); first | done | with_reducible assumption | omega) ⟨_, d2⟩ rfl rfl rfl rfl rfl ?_
                  rintro I697 R698 L699 ⟨g700, p701, p702, p703, -⟩
                  obtain rfl : R0 = R698 := funext fun a => funext fun j => (g700.2.2 a j (wm_no rfl)).symm
                  have hS704 := hS351.tr g700 (by decide +kernel) (by decide +kernel)
                  have c705 : I697 a1 5 = v49 := (g700.cell ta1 (by decide +kernel)).trans c352
                  have hO706 : FrO 14 a1 T I0 I697 := hO353.st g700 (by decide +kernel)
                  obtain ⟨v707, c708⟩ : ∃ v, I697 a0 9 = v := ⟨_, rfl⟩
                  have b709 := iv15_9 hS704.1 ta0 c708
                  rw [c708] at p701
                  obtain ⟨v710, c711⟩ : ∃ v, I697 a0 13 = v := ⟨_, rfl⟩
                  rw [c711] at p702
                  rw [c694] at p702
                  obtain ⟨v712, c713⟩ : ∃ v, I697 a0 14 = v := ⟨_, rfl⟩
                  rw [c713] at p703
                  rw [c696] at p703
                  have eF := hF.eq
                  have eP := hP.eq
                  obtain ⟨v714, c715⟩ : ∃ v, I697 a0 10 = v := ⟨_, rfl⟩
                  have b716 := iv15_10 hS704.1 ta0 c715
                  obtain ⟨v717, c718⟩ : ∃ v, I697 a0 11 = v := ⟨_, rfl⟩
                  obtain ⟨y719, c720⟩ : ∃ v, L699 a0 15 = v := ⟨_, rfl⟩
                  obtain ⟨v721, c722⟩ : ∃ v, I697 a0 12 = v := ⟨_, rfl⟩
                  obtain ⟨v723, c724⟩ : ∃ v, I697 a0 8 = v := ⟨_, rfl⟩
                  have b725 := iv15_8 hS704.1 ta0 c724
                  exact ⟨rfl, rfl, rfl, rfl, rfl, hS704, (fun dr hd => (Option.some.inj (d2.symm.trans hd)) ▸ hO706), (Or.inr (⟨(by first | done | with_reducible assumption | exact om_7fac24c5 eF), (by (try rw [c708]); first | done | with_reducible assumption | omega), (by (try rw [c711]); first | done | with_reducible assumption | exact om_9adad658 p379 p702 eF), (by (try rw [c713]); first | done | with_reducible assumption | exact om_3998a42e p380 p703 eP), trivial⟩)), trivial⟩
                · skip
                  obtain ⟨v726, c727⟩ : ∃ v, I343 a0 9 = v := ⟨_, rfl⟩
                  have b728 := iv15_9 hS351.1 ta0 c727
                  rw [c727] at p386
                  obtain ⟨v729, c730⟩ : ∃ v, I343 a0 13 = v := ⟨_, rfl⟩
                  rw [c730] at p387
                  obtain ⟨v731, c732⟩ : ∃ v, I343 a0 14 = v := ⟨_, rfl⟩
                  rw [c732] at p388
                  replace hF := hF.neg (by exact om_9e763d12 p382 p383)
                  replace hP := hP.neg (by exact om_9e763d12 p382 p383)
                  replace hF := hF.neg (by exact om_10ed11b5 p384)
                  replace hP := hP.neg (by exact om_10ed11b5 p384)
                  replace hF := hF.pos (by exact om_d2c63994 h340 h342 p385)
                  replace hP := hP.pos (by exact om_d2c63994 h340 h342 p385)
                  refine tr_istore dX12_readCall_114 (by decide) (by decide) ?_
                  refine sf_oC116 hE hZ hS351.1 (gB) ta0 (by (try rw [c727]); first | done | with_reducible assumption | omega) ⟨_, d2⟩ rfl rfl rfl rfl rfl ?_
                  rintro I733 R734 L735 ⟨g736, p737, p738, p739, -⟩
                  obtain rfl : R0 = R734 := funext fun a => funext fun j => (g736.2.2 a j (wm_no rfl)).symm
                  have hS740 := hS351.tr g736 (by decide +kernel) (by decide +kernel)
                  have c741 : I733 a1 5 = v49 := (g736.cell ta1 (by decide +kernel)).trans c352
                  have hO742 : FrO 14 a1 T I0 I733 := hO353.st g736 (by decide +kernel)
                  obtain ⟨v743, c744⟩ : ∃ v, I733 a0 9 = v := ⟨_, rfl⟩
                  have b745 := iv15_9 hS740.1 ta0 c744
                  rw [c744] at p737
                  obtain ⟨v746, c747⟩ : ∃ v, I733 a0 13 = v := ⟨_, rfl⟩
                  rw [c747] at p738
                  rw [c730] at p738
                  obtain ⟨v748, c749⟩ : ∃ v, I733 a0 14 = v := ⟨_, rfl⟩
                  rw [c749] at p739
                  rw [c732] at p739
                  have eF := hF.eq
                  have eP := hP.eq
                  obtain ⟨v750, c751⟩ : ∃ v, I733 a0 10 = v := ⟨_, rfl⟩
                  have b752 := iv15_10 hS740.1 ta0 c751
                  obtain ⟨v753, c754⟩ : ∃ v, I733 a0 11 = v := ⟨_, rfl⟩
                  obtain ⟨y755, c756⟩ : ∃ v, L735 a0 15 = v := ⟨_, rfl⟩
                  obtain ⟨v757, c758⟩ : ∃ v, I733 a0 12 = v := ⟨_, rfl⟩
                  obtain ⟨v759, c760⟩ : ∃ v, I733 a0 8 = v := ⟨_, rfl⟩
                  have b761 := iv15_8 hS740.1 ta0 c760
                  exact ⟨rfl, rfl, rfl, rfl, rfl, hS740, (fun dr hd => (Option.some.inj (d2.symm.trans hd)) ▸ hO742), (Or.inr (⟨(by first | done | with_reducible assumption | exact om_7b84bd42 eF), (by (try rw [c744]); first | done | with_reducible assumption | omega), (by (try rw [c747]); first | done | with_reducible assumption | exact om_4510ffdb p387 p738 eF), (by (try rw [c749]); first | done | with_reducible assumption | exact om_3998a42e p388 p739 eP), trivial⟩)), trivial⟩
              · skip
                obtain ⟨v762, c763⟩ : ∃ v, I274 a0 9 = v := ⟨_, rfl⟩
                have b764 := iv15_9 hS282.1 ta0 c763
                rw [c763] at p302
                obtain ⟨v765, c766⟩ : ∃ v, I274 a0 13 = v := ⟨_, rfl⟩
                rw [c766] at p303
                obtain ⟨v767, c768⟩ : ∃ v, I274 a0 14 = v := ⟨_, rfl⟩
                rw [c768] at p304
                replace hF := hF.pos (by exact om_f23dce10 p301)
                replace hP := hP.pos (by exact om_f23dce10 p301)
                refine tr_istore_n dX12_readCall_103 (by decide) (by decide) ?_
                refine sf_oC104 hE hZ hS282.1 (gB) ta0 (by (try rw [c763]); first | done | with_reducible assumption | omega) ⟨_, d2⟩ rfl rfl rfl rfl ?_
                rintro I769 R770 L771 ⟨g772, p773, p774, p775, -⟩
                obtain rfl : R0 = R770 := funext fun a => funext fun j => (g772.2.2 a j (wm_no rfl)).symm
                have hS776 := hS282.tr g772 (by decide +kernel) (by decide +kernel)
                have c777 : I769 a1 5 = v49 := (g772.cell ta1 (by decide +kernel)).trans c283
                have hO778 : FrO 14 a1 T I0 I769 := hO284.st g772 (by decide +kernel)
                obtain ⟨v779, c780⟩ : ∃ v, I769 a0 9 = v := ⟨_, rfl⟩
                have b781 := iv15_9 hS776.1 ta0 c780
                rw [c780] at p773
                obtain ⟨v782, c783⟩ : ∃ v, I769 a0 13 = v := ⟨_, rfl⟩
                rw [c783] at p774
                rw [c766] at p774
                obtain ⟨v784, c785⟩ : ∃ v, I769 a0 14 = v := ⟨_, rfl⟩
                rw [c785] at p775
                rw [c768] at p775
                have eF := hF.eq
                have eP := hP.eq
                obtain ⟨v786, c787⟩ : ∃ v, I769 a0 10 = v := ⟨_, rfl⟩
                have b788 := iv15_10 hS776.1 ta0 c787
                obtain ⟨v789, c790⟩ : ∃ v, I769 a0 11 = v := ⟨_, rfl⟩
                obtain ⟨y791, c792⟩ : ∃ v, L771 a0 15 = v := ⟨_, rfl⟩
                obtain ⟨v793, c794⟩ : ∃ v, I769 a0 12 = v := ⟨_, rfl⟩
                obtain ⟨v795, c796⟩ : ∃ v, I769 a0 8 = v := ⟨_, rfl⟩
                have b797 := iv15_8 hS776.1 ta0 c796
                exact ⟨rfl, rfl, rfl, rfl, rfl, hS776, (fun dr hd => (Option.some.inj (d2.symm.trans hd)) ▸ hO778), (Or.inr (⟨(by first | done | with_reducible assumption | exact om_7fac24c5 eF), (by (try rw [c780]); first | done | with_reducible assumption | omega), (by (try rw [c783]); first | done | with_reducible assumption | exact om_9adad658 p303 p774 eF), (by (try rw [c785]); first | done | with_reducible assumption | exact om_3998a42e p304 p775 eP), trivial⟩)), trivial⟩
              · skip
                obtain ⟨v798, c799⟩ : ∃ v, I274 a0 9 = v := ⟨_, rfl⟩
                have b800 := iv15_9 hS282.1 ta0 c799
                rw [c799] at p309
                obtain ⟨v801, c802⟩ : ∃ v, I274 a0 13 = v := ⟨_, rfl⟩
                rw [c802] at p310
                obtain ⟨v803, c804⟩ : ∃ v, I274 a0 14 = v := ⟨_, rfl⟩
                rw [c804] at p311
                replace hF := hF.neg (by exact om_04eb041f p306 p307)
                replace hP := hP.neg (by exact om_04eb041f p306 p307)
                replace hF := hF.pos (by exact om_73cc8e29 p308)
                replace hP := hP.pos (by exact om_73cc8e29 p308)
                refine tr_istore_n dX12_readCall_103 (by decide) (by decide) ?_
                refine sf_oC104 hE hZ hS282.1 (gB) ta0 (by (try rw [c799]); first | done | with_reducible assumption | omega) ⟨_, d2⟩ rfl rfl rfl rfl ?_
                rintro I805 R806 L807 ⟨g808, p809, p810, p811, -⟩
                obtain rfl : R0 = R806 := funext fun a => funext fun j => (g808.2.2 a j (wm_no rfl)).symm
                have hS812 := hS282.tr g808 (by decide +kernel) (by decide +kernel)
                have c813 : I805 a1 5 = v49 := (g808.cell ta1 (by decide +kernel)).trans c283
                have hO814 : FrO 14 a1 T I0 I805 := hO284.st g808 (by decide +kernel)
                obtain ⟨v815, c816⟩ : ∃ v, I805 a0 9 = v := ⟨_, rfl⟩
                have b817 := iv15_9 hS812.1 ta0 c816
                rw [c816] at p809
                obtain ⟨v818, c819⟩ : ∃ v, I805 a0 13 = v := ⟨_, rfl⟩
                rw [c819] at p810
                rw [c802] at p810
                obtain ⟨v820, c821⟩ : ∃ v, I805 a0 14 = v := ⟨_, rfl⟩
                rw [c821] at p811
                rw [c804] at p811
                have eF := hF.eq
                have eP := hP.eq
                obtain ⟨v822, c823⟩ : ∃ v, I805 a0 10 = v := ⟨_, rfl⟩
                have b824 := iv15_10 hS812.1 ta0 c823
                obtain ⟨v825, c826⟩ : ∃ v, I805 a0 11 = v := ⟨_, rfl⟩
                obtain ⟨y827, c828⟩ : ∃ v, L807 a0 15 = v := ⟨_, rfl⟩
                obtain ⟨v829, c830⟩ : ∃ v, I805 a0 12 = v := ⟨_, rfl⟩
                obtain ⟨v831, c832⟩ : ∃ v, I805 a0 8 = v := ⟨_, rfl⟩
                have b833 := iv15_8 hS812.1 ta0 c832
                exact ⟨rfl, rfl, rfl, rfl, rfl, hS812, (fun dr hd => (Option.some.inj (d2.symm.trans hd)) ▸ hO814), (Or.inr (⟨(by first | done | with_reducible assumption | exact om_7fac24c5 eF), (by (try rw [c816]); first | done | with_reducible assumption | omega), (by (try rw [c819]); first | done | with_reducible assumption | exact om_9adad658 p310 p810 eF), (by (try rw [c821]); first | done | with_reducible assumption | exact om_3998a42e p311 p811 eP), trivial⟩)), trivial⟩
              · skip
                obtain ⟨v834, c835⟩ : ∃ v, I274 a0 9 = v := ⟨_, rfl⟩
                have b836 := iv15_9 hS282.1 ta0 c835
                rw [c835] at p317
                obtain ⟨v837, c838⟩ : ∃ v, I274 a0 13 = v := ⟨_, rfl⟩
                rw [c838] at p318
                obtain ⟨v839, c840⟩ : ∃ v, I274 a0 14 = v := ⟨_, rfl⟩
                rw [c840] at p319
                replace hF := hF.neg (by exact om_04eb041f p313 p314)
                replace hP := hP.neg (by exact om_04eb041f p313 p314)
                replace hF := hF.neg (by exact om_10ed11b5 p315)
                replace hP := hP.neg (by exact om_10ed11b5 p315)
                replace hF := hF.pos (by exact om_41eb13e5 p32 w122 h269 h271 h273 p316)
                replace hP := hP.pos (by exact om_41eb13e5 p32 w122 h269 h271 h273 p316)
                refine tr_istore_n dX12_readCall_103 (by decide) (by decide) ?_
                refine sf_oC104 hE hZ hS282.1 (gB) ta0 (by (try rw [c835]); first | done | with_reducible assumption | omega) ⟨_, d2⟩ rfl rfl rfl rfl ?_
                rintro I841 R842 L843 ⟨g844, p845, p846, p847, -⟩
                obtain rfl : R0 = R842 := funext fun a => funext fun j => (g844.2.2 a j (wm_no rfl)).symm
                have hS848 := hS282.tr g844 (by decide +kernel) (by decide +kernel)
                have c849 : I841 a1 5 = v49 := (g844.cell ta1 (by decide +kernel)).trans c283
                have hO850 : FrO 14 a1 T I0 I841 := hO284.st g844 (by decide +kernel)
                obtain ⟨v851, c852⟩ : ∃ v, I841 a0 9 = v := ⟨_, rfl⟩
                have b853 := iv15_9 hS848.1 ta0 c852
                rw [c852] at p845
                obtain ⟨v854, c855⟩ : ∃ v, I841 a0 13 = v := ⟨_, rfl⟩
                rw [c855] at p846
                rw [c838] at p846
                obtain ⟨v856, c857⟩ : ∃ v, I841 a0 14 = v := ⟨_, rfl⟩
                rw [c857] at p847
                rw [c840] at p847
                have eF := hF.eq
                have eP := hP.eq
                obtain ⟨v858, c859⟩ : ∃ v, I841 a0 10 = v := ⟨_, rfl⟩
                have b860 := iv15_10 hS848.1 ta0 c859
                obtain ⟨v861, c862⟩ : ∃ v, I841 a0 11 = v := ⟨_, rfl⟩
                obtain ⟨y863, c864⟩ : ∃ v, L843 a0 15 = v := ⟨_, rfl⟩
                obtain ⟨v865, c866⟩ : ∃ v, I841 a0 12 = v := ⟨_, rfl⟩
                obtain ⟨v867, c868⟩ : ∃ v, I841 a0 8 = v := ⟨_, rfl⟩
                have b869 := iv15_8 hS848.1 ta0 c868
                exact ⟨rfl, rfl, rfl, rfl, rfl, hS848, (fun dr hd => (Option.some.inj (d2.symm.trans hd)) ▸ hO850), (Or.inr (⟨(by first | done | with_reducible assumption | exact om_7b84bd42 eF), (by (try rw [c852]); first | done | with_reducible assumption | omega), (by (try rw [c855]); first | done | with_reducible assumption | exact om_4510ffdb p318 p846 eF), (by (try rw [c857]); first | done | with_reducible assumption | exact om_3998a42e p319 p847 eP), trivial⟩)), trivial⟩
            · skip
              exfalso; exact om_99cda0b7 p83 p82 b105.1 h226 h227
          · skip
            replace hF := hF.pos (by exact om_39ddb9d5 fs221 h223 h224)
            replace hP := hP.pos (by exact om_39ddb9d5 fs221 h223 h224)
            refine tr_aload_n dX12_readCall_55 rfl ?_
            refine q_iconst dX12_readCall_56 (by decide) ?_
            intro v870 h871
            refine q_callVv hE (M' := mX12_flaw) (as := [_]) dX12_readCall_57 lk12_145 inX12_flaw seX12_flaw myX12_flaw (by decide) ⟨by decide, by decide⟩ rfl (kR15 hS76.1 ta0) (Nat.le_of_ble_eq_true rfl) rfl rfl (by decide) (by decide) (fk_X12_flaw hS76.1  ta0 (by exact om_18f49b90 h871) (by (try rw [c104]); first | done | with_reducible assumption | exact om_f9de8b4b p83 p82 b105.1)) ?_
            rintro cn' K' N' I872 R873 L874 ⟨rfl, rfl, rfl, rfl, rfl, g875, p878, p879, p880, -⟩
            have hM881 : NmM I872 R0 L70 a1 gQ := NmM.kpS hM100 g875 hS76.1 ta1 (by decide +kernel) (by decide +kernel)
            have hS882 := hS76.tr g875 (by decide +kernel) (by decide +kernel)
            have c883 : I872 a1 5 = v49 := (g875.cell ta1 (by decide +kernel)).trans c77
            have c884 : I872 a0 10 = v106 := (g875.cell ta0 (by decide +kernel)).trans c107
            have c885 : I872 a0 11 = v109 := (g875.cell ta0 (by decide +kernel)).trans c110
            have c886 : I872 a0 12 = v113 := (g875.cell ta0 (by decide +kernel)).trans c114
            have c887 : I872 a0 8 = v115 := (g875.cell ta0 (by decide +kernel)).trans c116
            have hO888 : FrO 14 a1 T I0 I872 := hO78.st g875 (by decide +kernel)
            obtain ⟨v889, c890⟩ : ∃ v, I872 a0 9 = v := ⟨_, rfl⟩
            have b891 := iv15_9 hS882.1 ta0 c890
            rw [c890] at p878
            obtain ⟨v892, c893⟩ : ∃ v, I872 a0 13 = v := ⟨_, rfl⟩
            rw [c893] at p879
            obtain ⟨v894, c895⟩ : ∃ v, I872 a0 14 = v := ⟨_, rfl⟩
            rw [c895] at p880
            rw [c107] at p880
            refine sf_oC60 hE hZ hS882.1 (gB) ta0 (by (try rw [c890]); first | done | with_reducible assumption | omega) ⟨_, d2⟩ rfl rfl ?_
            rintro I896 R897 L898 ⟨g899, p900, p901, p902, -⟩
            obtain rfl : R0 = R897 := funext fun a => funext fun j => (g899.2.2 a j (wm_no rfl)).symm
            have hS903 := hS882.tr g899 (by decide +kernel) (by decide +kernel)
            have c904 : I896 a1 5 = v49 := (g899.cell ta1 (by decide +kernel)).trans c883
            have hO905 : FrO 14 a1 T I0 I896 := hO888.st g899 (by decide +kernel)
            obtain ⟨v906, c907⟩ : ∃ v, I896 a0 9 = v := ⟨_, rfl⟩
            have b908 := iv15_9 hS903.1 ta0 c907
            rw [c907] at p900
            obtain ⟨v909, c910⟩ : ∃ v, I896 a0 13 = v := ⟨_, rfl⟩
            rw [c910] at p901
            rw [c893] at p901
            obtain ⟨v911, c912⟩ : ∃ v, I896 a0 14 = v := ⟨_, rfl⟩
            rw [c912] at p902
            rw [c895] at p902
            have eF := hF.eq
            have eP := hP.eq
            obtain ⟨v913, c914⟩ : ∃ v, I896 a0 10 = v := ⟨_, rfl⟩
            have b915 := iv15_10 hS903.1 ta0 c914
            obtain ⟨v916, c917⟩ : ∃ v, I896 a0 11 = v := ⟨_, rfl⟩
            obtain ⟨y918, c919⟩ : ∃ v, L898 a0 15 = v := ⟨_, rfl⟩
            obtain ⟨v920, c921⟩ : ∃ v, I896 a0 12 = v := ⟨_, rfl⟩
            obtain ⟨v922, c923⟩ : ∃ v, I896 a0 8 = v := ⟨_, rfl⟩
            have b924 := iv15_8 hS903.1 ta0 c923
            exact ⟨rfl, rfl, rfl, rfl, rfl, hS903, (fun dr hd => (Option.some.inj (d2.symm.trans hd)) ▸ hO905), (Or.inr (⟨(by first | done | with_reducible assumption | exact om_ecb25a59 eF), (by (try rw [c907]); first | done | with_reducible assumption | omega), (by (try rw [c910]); first | done | with_reducible assumption | exact om_56a31c7f h871 p879 p901 eF), (by (try rw [c912]); first | done | with_reducible assumption | exact om_3efc13ef p84 p880 p902 eP), trivial⟩)), trivial⟩
      · skip
        exfalso; exact om_3624102b p139 h144
    · skip
      replace hF := hF.pos (by exact om_ea380f8a p143)
      replace hP := hP.pos (by exact om_ea380f8a p143)
      refine q_if_ne 25 dX12_readCall_17 (by decide) (fun h925 => ?_) (fun h925 => ?_)
      · skip
        exfalso; exact om_3a97d4a5 p142 h925
      · skip
        refine tr_aload_n dX12_readCall_20 rfl ?_
        refine q_iconst dX12_readCall_21 (by decide) ?_
        intro v926 h927
        refine q_callVv hE (M' := mX12_flaw) (as := [_]) dX12_readCall_22 lk12_145 inX12_flaw seX12_flaw myX12_flaw (by decide) ⟨by decide, by decide⟩ rfl (kR15 hS76.1 ta0) (Nat.le_of_ble_eq_true rfl) rfl rfl (by decide) (by decide) (fk_X12_flaw hS76.1  ta0 (by exact om_95922198 h927) (by (try rw [c104]); first | done | with_reducible assumption | exact om_f9de8b4b p83 p82 b105.1)) ?_
        rintro cn' K' N' I928 R929 L930 ⟨rfl, rfl, rfl, rfl, rfl, g931, p934, p935, p936, -⟩
        have hM937 : NmM I928 R0 L70 a1 gQ := NmM.kpS hM100 g931 hS76.1 ta1 (by decide +kernel) (by decide +kernel)
        have hS938 := hS76.tr g931 (by decide +kernel) (by decide +kernel)
        have c939 : I928 a1 5 = v49 := (g931.cell ta1 (by decide +kernel)).trans c77
        have c940 : I928 a0 10 = v106 := (g931.cell ta0 (by decide +kernel)).trans c107
        have c941 : I928 a0 11 = v109 := (g931.cell ta0 (by decide +kernel)).trans c110
        have c942 : I928 a0 12 = v113 := (g931.cell ta0 (by decide +kernel)).trans c114
        have c943 : I928 a0 8 = v115 := (g931.cell ta0 (by decide +kernel)).trans c116
        have hO944 : FrO 14 a1 T I0 I928 := hO78.st g931 (by decide +kernel)
        obtain ⟨v945, c946⟩ : ∃ v, I928 a0 9 = v := ⟨_, rfl⟩
        have b947 := iv15_9 hS938.1 ta0 c946
        rw [c946] at p934
        obtain ⟨v948, c949⟩ : ∃ v, I928 a0 13 = v := ⟨_, rfl⟩
        rw [c949] at p935
        obtain ⟨v950, c951⟩ : ∃ v, I928 a0 14 = v := ⟨_, rfl⟩
        rw [c951] at p936
        rw [c107] at p936
        refine sf_oC25 hE hZ hS938.1 (gB) ta0 (by (try rw [c946]); first | done | with_reducible assumption | omega) ⟨_, d2⟩ rfl ?_
        rintro I952 R953 L954 ⟨g955, p956, p957, p958, -⟩
        obtain rfl : R0 = R953 := funext fun a => funext fun j => (g955.2.2 a j (wm_no rfl)).symm
        have hS959 := hS938.tr g955 (by decide +kernel) (by decide +kernel)
        have c960 : I952 a1 5 = v49 := (g955.cell ta1 (by decide +kernel)).trans c939
        have hO961 : FrO 14 a1 T I0 I952 := hO944.st g955 (by decide +kernel)
        obtain ⟨v962, c963⟩ : ∃ v, I952 a0 9 = v := ⟨_, rfl⟩
        have b964 := iv15_9 hS959.1 ta0 c963
        rw [c963] at p956
        obtain ⟨v965, c966⟩ : ∃ v, I952 a0 13 = v := ⟨_, rfl⟩
        rw [c966] at p957
        rw [c949] at p957
        obtain ⟨v967, c968⟩ : ∃ v, I952 a0 14 = v := ⟨_, rfl⟩
        rw [c968] at p958
        rw [c951] at p958
        have eF := hF.eq
        have eP := hP.eq
        obtain ⟨v969, c970⟩ : ∃ v, I952 a0 10 = v := ⟨_, rfl⟩
        have b971 := iv15_10 hS959.1 ta0 c970
        obtain ⟨v972, c973⟩ : ∃ v, I952 a0 11 = v := ⟨_, rfl⟩
        obtain ⟨y974, c975⟩ : ∃ v, L954 a0 15 = v := ⟨_, rfl⟩
        obtain ⟨v976, c977⟩ : ∃ v, I952 a0 12 = v := ⟨_, rfl⟩
        obtain ⟨v978, c979⟩ : ∃ v, I952 a0 8 = v := ⟨_, rfl⟩
        have b980 := iv15_8 hS959.1 ta0 c979
        exact ⟨rfl, rfl, rfl, rfl, rfl, hS959, (fun dr hd => (Option.some.inj (d2.symm.trans hd)) ▸ hO961), (Or.inr (⟨(by first | done | with_reducible assumption | exact om_7fac24c5 eF), (by (try rw [c963]); first | done | with_reducible assumption | omega), (by (try rw [c966]); first | done | with_reducible assumption | exact om_93aef1c0 h927 p935 p957 eF), (by (try rw [c968]); first | done | with_reducible assumption | exact om_3efc13ef p84 p936 p958 eP), trivial⟩)), trivial⟩
  · skip
    obtain ⟨v981, c982⟩ : ∃ v, I68 a0 9 = v := ⟨_, rfl⟩
    have b983 := iv15_9 hS76.1 ta0 c982
    rw [c982] at p91
    obtain ⟨v984, c985⟩ : ∃ v, I68 a0 13 = v := ⟨_, rfl⟩
    rw [c985] at p92
    obtain ⟨v986, c987⟩ : ∃ v, I68 a0 14 = v := ⟨_, rfl⟩
    rw [c987] at p93
    have p988 := p61
    unfold Q7M at p988
    replace hF := hF.pos (by exact om_a80782b7 pre18 p52 h67 p90)
    replace hP := hP.pos (by exact om_a80782b7 pre18 p52 h67 p90)
    clear p988
    refine sf_oC13 hE hZ hS76.1 (gB) ta0 (by (try rw [c982]); first | done | with_reducible assumption | omega) ⟨_, d2⟩ rfl ?_
    rintro I989 R990 L991 ⟨g992, p993, p994, p995, -⟩
    obtain rfl : R0 = R990 := funext fun a => funext fun j => (g992.2.2 a j (wm_no rfl)).symm
    have hS996 := hS76.tr g992 (by decide +kernel) (by decide +kernel)
    have c997 : I989 a1 5 = v49 := (g992.cell ta1 (by decide +kernel)).trans c77
    have hO998 : FrO 14 a1 T I0 I989 := hO78.st g992 (by decide +kernel)
    obtain ⟨v999, c1000⟩ : ∃ v, I989 a0 9 = v := ⟨_, rfl⟩
    have b1001 := iv15_9 hS996.1 ta0 c1000
    rw [c1000] at p993
    obtain ⟨v1002, c1003⟩ : ∃ v, I989 a0 13 = v := ⟨_, rfl⟩
    rw [c1003] at p994
    rw [c985] at p994
    obtain ⟨v1004, c1005⟩ : ∃ v, I989 a0 14 = v := ⟨_, rfl⟩
    rw [c1005] at p995
    rw [c987] at p995
    have eF := hF.eq
    have eP := hP.eq
    obtain ⟨v1006, c1007⟩ : ∃ v, I989 a0 10 = v := ⟨_, rfl⟩
    have b1008 := iv15_10 hS996.1 ta0 c1007
    obtain ⟨v1009, c1010⟩ : ∃ v, I989 a0 11 = v := ⟨_, rfl⟩
    obtain ⟨y1011, c1012⟩ : ∃ v, L991 a0 15 = v := ⟨_, rfl⟩
    obtain ⟨v1013, c1014⟩ : ∃ v, I989 a0 12 = v := ⟨_, rfl⟩
    obtain ⟨v1015, c1016⟩ : ∃ v, I989 a0 8 = v := ⟨_, rfl⟩
    have b1017 := iv15_8 hS996.1 ta0 c1016
    exact ⟨rfl, rfl, rfl, rfl, rfl, hS996, (fun dr hd => (Option.some.inj (d2.symm.trans hd)) ▸ hO998), (Or.inr (⟨(by first | done | with_reducible assumption | exact om_64c62efe eF), (by (try rw [c1000]); first | done | with_reducible assumption | omega), (by (try rw [c1003]); first | done | with_reducible assumption | exact om_7fd518bd p92 p994 eF), (by (try rw [c1005]); first | done | with_reducible assumption | exact om_8e6888af p11 p93 p995 eP), trivial⟩)), trivial⟩
  · skip
    obtain ⟨v1018, c1019⟩ : ∃ v, I68 a0 9 = v := ⟨_, rfl⟩
    have b1020 := iv15_9 hS76.1 ta0 c1019
    rw [c1019] at p96
    obtain ⟨v1021, c1022⟩ : ∃ v, I68 a0 13 = v := ⟨_, rfl⟩
    rw [c1022] at p97
    obtain ⟨v1023, c1024⟩ : ∃ v, I68 a0 14 = v := ⟨_, rfl⟩
    rw [c1024] at p98
    have p1025 := p61
    unfold Q7M at p1025
    replace hF := hF.neg (by exact om_b31f17f6 pre18 b51.2 b51.1 p52 h67 p94 p95 p1025)
    replace hP := hP.neg (by exact om_b31f17f6 pre18 b51.2 b51.1 p52 h67 p94 p95 p1025)
    replace hF := hF.pos (by exact om_0b06c36a pre18 p95 p1025)
    replace hP := hP.pos (by exact om_0b06c36a pre18 p95 p1025)
    clear p1025
    refine sf_oC13 hE hZ hS76.1 (gB) ta0 (by (try rw [c1019]); first | done | with_reducible assumption | omega) ⟨_, d2⟩ rfl ?_
    rintro I1026 R1027 L1028 ⟨g1029, p1030, p1031, p1032, -⟩
    obtain rfl : R0 = R1027 := funext fun a => funext fun j => (g1029.2.2 a j (wm_no rfl)).symm
    have hS1033 := hS76.tr g1029 (by decide +kernel) (by decide +kernel)
    have c1034 : I1026 a1 5 = v49 := (g1029.cell ta1 (by decide +kernel)).trans c77
    have hO1035 : FrO 14 a1 T I0 I1026 := hO78.st g1029 (by decide +kernel)
    obtain ⟨v1036, c1037⟩ : ∃ v, I1026 a0 9 = v := ⟨_, rfl⟩
    have b1038 := iv15_9 hS1033.1 ta0 c1037
    rw [c1037] at p1030
    obtain ⟨v1039, c1040⟩ : ∃ v, I1026 a0 13 = v := ⟨_, rfl⟩
    rw [c1040] at p1031
    rw [c1022] at p1031
    obtain ⟨v1041, c1042⟩ : ∃ v, I1026 a0 14 = v := ⟨_, rfl⟩
    rw [c1042] at p1032
    rw [c1024] at p1032
    have eF := hF.eq
    have eP := hP.eq
    obtain ⟨v1043, c1044⟩ : ∃ v, I1026 a0 10 = v := ⟨_, rfl⟩
    have b1045 := iv15_10 hS1033.1 ta0 c1044
    obtain ⟨v1046, c1047⟩ : ∃ v, I1026 a0 11 = v := ⟨_, rfl⟩
    obtain ⟨y1048, c1049⟩ : ∃ v, L1028 a0 15 = v := ⟨_, rfl⟩
    obtain ⟨v1050, c1051⟩ : ∃ v, I1026 a0 12 = v := ⟨_, rfl⟩
    obtain ⟨v1052, c1053⟩ : ∃ v, I1026 a0 8 = v := ⟨_, rfl⟩
    have b1054 := iv15_8 hS1033.1 ta0 c1053
    exact ⟨rfl, rfl, rfl, rfl, rfl, hS1033, (fun dr hd => (Option.some.inj (d2.symm.trans hd)) ▸ hO1035), (Or.inr (⟨(by first | done | with_reducible assumption | exact om_3a8e1f7c eF), (by (try rw [c1037]); first | done | with_reducible assumption | omega), (by (try rw [c1040]); first | done | with_reducible assumption | exact om_1428d4dd p97 p1031 eF), (by (try rw [c1042]); first | done | with_reducible assumption | exact om_8e6888af p11 p98 p1032 eP), trivial⟩)), trivial⟩
