def wi_X12_readRising_1 : List Nat := [959, 968, 969, 970, 971, 972, 973, 974]
def wr_X12_readRising_1 : List Nat := []
set_option maxHeartbeats 4000000 in
theorem k_X12_readRising_1 {l : Launch} {T : Nat → Nat} {cn : Nat} {K N : Nat → Nat} {I0 : cz_I} {R0 : cz_R} {L0 : cz_L} {d : Int} (hW0 : Wf T cn K N I0 R0 d) {a0 : Nat} (ta0 : T a0 = 15) {a1 : Nat} (ta1 : T a1 = 59) {x2 : Int32} (hx2 : 0 ≤ x2.toInt ∧ x2.toInt ≤ 0) {x3 : Int32} (hx3 : 8 ≤ x3.toInt ∧ x3.toInt ≤ 8) (nn4 : ∃ b, R0 a0 4 = some b) : ConE l mX12_readRising [.ref a0, .ref a1, .int x2, .int x3] cn K N I0 R0 L0 (ca_i (fun v cn' K' N' I' R' L' => cn = cn' ∧ K = K' ∧ N = N' ∧ R0 = R' ∧ St T cn K N d wi_X12_readRising_1 wr_X12_readRising_1 I0 R0 I' R0 ∧ (0 ≤ v.toInt ∧ v.toInt ≤ 8) ∧ EwI a0 I0 I' ∧ True)) := by
  refine ConE.of (by decide +kernel) rfl (Nat.le_of_ble_eq_true rfl) rfl (fun X hX hZ hE => ?_)
  subst hX
  have hS0 : St T cn K N d wi_X12_readRising_1 wr_X12_readRising_1 I0 R0 I0 R0 := St.rf0 hW0
  obtain ⟨a1, d2⟩ := nn4
  have ta1 : T a1 = 14 := hW0.rsN ta0 rfl d2
  refine q_iconst dX12_readRising_0 (by decide) ?_
  intro v3 h4
  refine tr_istore dX12_readRising_1 (by decide) (by decide) ?_
  refine q_iconst dX12_readRising_3 (by decide) ?_
  intro v5 h6
  refine tr_istore dX12_readRising_4 (by decide) (by decide) ?_
  refine q_iconst dX12_readRising_6 (by decide) ?_
  intro v7 h8
  refine tr_istore dX12_readRising_7 (by decide) (by decide) ?_
  have lp29 : ∀ (fu : Nat) (ls : Nat → Option Value) (v9 : Int32) (v10 : Int32) (v11 : Int32) (I19 : cz_I) (L20 : cz_L), ls 0 = some (.ref a0) → ls 1 = some (.ref a1) → ls 2 = some (.int x2) → ls 3 = some (.int x3) → ls 4 = some (.int v9) → ls 5 = some (.int v10) → ls 6 = some (.int v11) → St T cn K N d wi_X12_readRising_1 wr_X12_readRising_1 I0 R0 I19 R0 → EwI a0 I0 I19 → 0 ≤ v9.toInt → v9.toInt ≤ 8 → 0 ≤ v10.toInt → v10.toInt ≤ 240 → 0 ≤ v11.toInt → v11.toInt ≤ 1 → (-v9.toInt + 9).toNat < fu → Tr X mX12_readRising 9 ls [] cn K N I19 R0 L20 0 0 := by
    intro fu
    induction fu with
    | zero => intros; rename_i hz; exact absurd hz (Nat.not_lt_zero _)
    | succ fu ih29 =>
      intro ls v9 v10 v11 I19 L20 hl12 hl13 hl14 hl15 hl16 hl17 hl18 hS21 w22 g23 g24 g25 g26 g27 g28 hm29
      refine tr_iload dX12_readRising_9 hl18 ?_
      refine q_if_eq 92 dX12_readRising_11 (by decide) (fun h31 => ?_) (fun h31 => ?_)
      · skip
        refine tr_iload dX12_readRising_92 hl16 ?_
        exact tr_iret hZ dX12_readRising_94 rfl (by decide) (by decide) ⟨v9, rfl, rfl, rfl, rfl, rfl, hS21, (by omega), w22, trivial⟩
      · skip
        refine tr_aload_n dX12_readRising_14 hl12 ?_
        obtain ⟨v32, c33⟩ : ∃ v, I19 a0 9 = v := ⟨_, rfl⟩
        have b34 := iv15_9 hS21.1 ta0 c33
        refine q_getI dX12_readRising_15 fl12_99 (kR15 hS21.1 ta0) c33 ?_
        refine q_iconst dX12_readRising_18 (by decide) ?_
        intro v35 h36
        refine q_icmp_eq 92 dX12_readRising_19 (by decide) (fun h37 => ?_) (fun h37 => ?_)
        · skip
          refine tr_iload dX12_readRising_92 hl16 ?_
          exact tr_iret hZ dX12_readRising_94 rfl (by decide) (by decide) ⟨v9, rfl, rfl, rfl, rfl, rfl, hS21, (by omega), w22, trivial⟩
        · skip
          refine tr_aload_n dX12_readRising_22 hl12 ?_
          refine tr_iload dX12_readRising_23 hl17 ?_
          refine tr_aload_n dX12_readRising_25 hl12 ?_
          refine tr_getR dX12_readRising_26 fl12_188 (kR15 hS21.1 ta0) d2 ?_
          obtain ⟨v38, c39⟩ : ∃ v, I0 a1 0 = v := ⟨_, rfl⟩
          have b40 := iv14_0 hW0 ta1 c39
          refine q_getI dX12_readRising_29 fl12_192 (kR14 hS21.1 ta1) ((hS21.cell ta1 (by decide +kernel)).trans c39) ?_
          refine q_iconst dX12_readRising_32 (by decide) ?_
          intro v41 h42
          refine q_isubE dX12_readRising_33 (by intros; omega) ?_
          intro v43 h44
          refine q_callVi hE (M' := mX12_bounded) (as := [_, _]) dX12_readRising_34 lk12_153 inX12_bounded seX12_bounded myX12_bounded (by decide) ⟨by decide, by decide⟩ rfl (kR15 hS21.1 ta0) (Nat.le_of_ble_eq_true rfl) rfl rfl (by decide) (by decide) (k_X12_bounded hS21.1 ta0) ?_
          rintro v49 cn' K' N' I45 R46 L47 ⟨rfl, rfl, rfl, rfl, rfl, g48, p50, p51, w52, -⟩
          have hS53 := hS21.tr g48 (by decide +kernel) (by decide +kernel)
          have w54 : EwI a0 I0 I45 := w22.ew w52
          have w55 : EwI a0 I19 I45 := (EwI.rf a0 I19).ew w52
          have b56 : 0 ≤ v49.toInt ∧ v49.toInt ≤ 240 := by omega
          clear p50
          obtain ⟨v57, c58⟩ : ∃ v, I45 a0 9 = v := ⟨_, rfl⟩
          have b59 := iv15_9 hS53.1 ta0 c58
          have gd60 : Gd (I45 a0 9) ((v10.toInt ≤ v49.toInt ∧ v49.toInt ≤ v43.toInt)) := p51
          clear p51
          refine tr_istore dX12_readRising_37 (by decide) (by decide) ?_
          refine tr_iload dX12_readRising_39 hl16 ?_
          refine tr_iload_n dX12_readRising_41 hl15 ?_
          refine q_icmp_ne 50 dX12_readRising_42 (by decide) (fun h61 => ?_) (fun h61 => ?_)
          · skip
            refine tr_aload_n dX12_readRising_50 hl12 ?_
            obtain ⟨v62, c63⟩ : ∃ v, I45 a0 8 = v := ⟨_, rfl⟩
            have b64 := iv15_8 hS53.1 ta0 c63
            obtain ⟨v65, c66⟩ : ∃ v, I45 a0 13 = v := ⟨_, rfl⟩
            refine q_callVv hE (M' := mX12_goesOn) (as := []) dX12_readRising_51 lk12_142 inX12_goesOn seX12_goesOn myX12_goesOn (by decide) ⟨by decide, by decide⟩ rfl (kR15 hS53.1 ta0) (Nat.le_of_ble_eq_true rfl) rfl rfl (by decide) (by decide) (k_X12_goesOn hS53.1 ta0) ?_
            rintro cn' K' N' I67 R68 L69 ⟨rfl, rfl, rfl, rfl, g70, p72, p73, w74, -⟩
            have hS75 := hS53.tr g70 (by decide +kernel) (by decide +kernel)
            have c76 : I67 a0 13 = v65 := (g70.cell ta0 (by decide +kernel)).trans c66
            have w77 : RdI a0 I0 I67 := w54.rd w74
            have w78 : RdI a0 I19 I67 := w55.rd w74
            have gd79 := Gd.go gd60 w74.stick
            obtain ⟨v80, c81⟩ : ∃ v, I67 a0 9 = v := ⟨_, rfl⟩
            have b82 := iv15_9 hS75.1 ta0 c81
            rw [c58] at p72
            rw [c81] at p72
            obtain ⟨v83, c84⟩ : ∃ v, I67 a0 8 = v := ⟨_, rfl⟩
            have b85 := iv15_8 hS75.1 ta0 c84
            rw [c84] at p73
            rw [c63] at p73
            rw [c76] at p73
            rw [c66] at p73
            refine tr_aload_n dX12_readRising_54 hl12 ?_
            refine q_getI dX12_readRising_55 fl12_99 (kR15 hS75.1 ta0) c81 ?_
            refine q_iconst dX12_readRising_58 (by decide) ?_
            intro v86 h87
            refine q_icmp_ne 64 dX12_readRising_59 (by decide) (fun h88 => ?_) (fun h88 => ?_)
            · skip
              have p89 := gd79 (by rw [c81]; omega)
              clear gd79
              refine tr_aload_n dX12_readRising_64 hl13 ?_
              refine tr_iload_n dX12_readRising_65 hl14 ?_
              refine tr_iload dX12_readRising_66 hl16 ?_
              refine q_iaddE dX12_readRising_68 (by intros; omega) ?_
              intro v90 h91
              refine tr_iload dX12_readRising_69 rfl ?_
              refine q_zast dX12_readRising_71 (kR14 hS75.1 ta1) (ti_in (nR14 hS75.1 ta1) (by omega) (by omega)) hS75 ta1 (by omega) rfl rfl (by rfl) ?_
              intro I92 hS93 f94
              have c96 : I92 a0 13 = v65 := (f94 _ _ (fun q => by have z := ta0; rw [q.1, ta1] at z; exact absurd z (by decide))).trans c76
              have c97 : I92 a0 9 = v80 := (f94 _ _ (fun q => by have z := ta0; rw [q.1, ta1] at z; exact absurd z (by decide))).trans c81
              have c98 : I92 a0 8 = v83 := (f94 _ _ (fun q => by have z := ta0; rw [q.1, ta1] at z; exact absurd z (by decide))).trans c84
              have w99 : RdI a0 I0 I92 := w77.keep (f94 _ _ (fun q => by have z := ta0; rw [q.1, ta1] at z; exact absurd z (by decide))) (f94 _ _ (fun q => by have z := ta0; rw [q.1, ta1] at z; exact absurd z (by decide))) (f94 _ _ (fun q => by have z := ta0; rw [q.1, ta1] at z; exact absurd z (by decide)))
              have w100 : RdI a0 I19 I92 := w78.keep (f94 _ _ (fun q => by have z := ta0; rw [q.1, ta1] at z; exact absurd z (by decide))) (f94 _ _ (fun q => by have z := ta0; rw [q.1, ta1] at z; exact absurd z (by decide))) (f94 _ _ (fun q => by have z := ta0; rw [q.1, ta1] at z; exact absurd z (by decide)))
              refine q_iincE dX12_readRising_72 hl16 (by decide) (by decide) (by intros; omega) ?_
              intro v101 h102
              refine tr_iload dX12_readRising_75 rfl ?_
              refine q_iconst dX12_readRising_77 (by decide) ?_
              intro v103 h104
              refine q_iaddE dX12_readRising_78 (by intros; omega) ?_
              intro v105 h106
              refine tr_istore dX12_readRising_79 (by decide) (by decide) ?_
              refine tr_aload_n dX12_readRising_81 hl12 ?_
              refine q_bipush dX12_readRising_82 (by decide +kernel) ?_
              intro v107 h108
              refine q_callVi hE (M' := mX12_eatsSign) (as := [_]) dX12_readRising_84 lk12_221 inX12_eatsSign seX12_eatsSign myX12_eatsSign (by decide) ⟨by decide, by decide⟩ rfl (kR15 hS93.1 ta0) (Nat.le_of_ble_eq_true rfl) rfl rfl (by decide) (by decide) (k_X12_eatsSign hS93.1 ta0) ?_
              rintro v113 cn' K' N' I109 R110 L111 ⟨rfl, rfl, rfl, rfl, g112, h114, p115, p116, w117, -⟩
              have hS118 := hS93.tr g112 (by decide +kernel) (by decide +kernel)
              have c119 : I109 a0 13 = v65 := (g112.cell ta0 (by decide +kernel)).trans c96
              have w120 : RdI a0 I0 I109 := w99.ew w117
              have w121 : RdI a0 I19 I109 := w100.ew w117
              rw [c97] at p115
              obtain ⟨v122, c123⟩ : ∃ v, I109 a0 8 = v := ⟨_, rfl⟩
              have b124 := iv15_8 hS118.1 ta0 c123
              rw [c123] at p116
              rw [c98] at p116
              refine tr_istore dX12_readRising_87 (by decide) (by decide) ?_
              refine tr_goto 9 dX12_readRising_89 (by decide) ?_
              exact ih29 _ v101 v105 v113 I109 L111 hl12 hl13 hl14 hl15 rfl rfl rfl hS118 (Or.inr w120) (by omega) (by omega) (by omega) (by omega) (by omega) (by omega) (by omega)
            · skip
              refine q_iconst dX12_readRising_62 (by decide) ?_
              intro v125 h126
              exact tr_iret hZ dX12_readRising_63 rfl (by decide) (by decide) ⟨v125, rfl, rfl, rfl, rfl, rfl, hS75, (by omega), (Or.inr w77), trivial⟩
          · skip
            refine tr_aload_n dX12_readRising_45 hl12 ?_
            refine q_iconst dX12_readRising_46 (by decide) ?_
            intro v127 h128
            obtain ⟨v129, c130⟩ : ∃ v, I45 a0 8 = v := ⟨_, rfl⟩
            have b131 := iv15_8 hS53.1 ta0 c130
            refine q_callVv hE (M' := mX12_flaw) (as := [_]) dX12_readRising_47 lk12_145 inX12_flaw seX12_flaw myX12_flaw (by decide) ⟨by decide, by decide⟩ rfl (kR15 hS53.1 ta0) (Nat.le_of_ble_eq_true rfl) rfl rfl (by decide) (by decide) (k_X12_flaw hS53.1 ta0 (by omega)) ?_
            rintro cn' K' N' I132 R133 L134 ⟨rfl, rfl, rfl, rfl, rfl, g135, p137, p138, w139, -⟩
            have hS140 := hS53.tr g135 (by decide +kernel) (by decide +kernel)
            have c141 : I132 a0 8 = v129 := (g135.cell ta0 (by decide +kernel)).trans c130
            have w142 : RdI a0 I0 I132 := w54.rd w139
            have w143 : RdI a0 I19 I132 := w55.rd w139
            have gd144 := Gd.go gd60 w139.stick
            obtain ⟨v145, c146⟩ : ∃ v, I132 a0 9 = v := ⟨_, rfl⟩
            have b147 := iv15_9 hS140.1 ta0 c146
            rw [c146] at p137
            rw [c141] at p138
            rw [c130] at p138
            refine tr_aload_n dX12_readRising_50 hl12 ?_
            obtain ⟨v148, c149⟩ : ∃ v, I132 a0 13 = v := ⟨_, rfl⟩
            refine q_callVv hE (M' := mX12_goesOn) (as := []) dX12_readRising_51 lk12_142 inX12_goesOn seX12_goesOn myX12_goesOn (by decide) ⟨by decide, by decide⟩ rfl (kR15 hS140.1 ta0) (Nat.le_of_ble_eq_true rfl) rfl rfl (by decide) (by decide) (k_X12_goesOn hS140.1 ta0) ?_
            rintro cn' K' N' I150 R151 L152 ⟨rfl, rfl, rfl, rfl, g153, p155, p156, w157, -⟩
            have hS158 := hS140.tr g153 (by decide +kernel) (by decide +kernel)
            have c159 : I150 a0 13 = v148 := (g153.cell ta0 (by decide +kernel)).trans c149
            have w160 : RdI a0 I0 I150 := w142.rd w157
            have w161 : RdI a0 I19 I150 := w143.rd w157
            have gd162 := Gd.go gd144 w157.stick
            obtain ⟨v163, c164⟩ : ∃ v, I150 a0 9 = v := ⟨_, rfl⟩
            have b165 := iv15_9 hS158.1 ta0 c164
            rw [c146] at p155
            rw [c164] at p155
            obtain ⟨v166, c167⟩ : ∃ v, I150 a0 8 = v := ⟨_, rfl⟩
            have b168 := iv15_8 hS158.1 ta0 c167
            rw [c167] at p156
            rw [c141] at p156
            rw [c159] at p156
            rw [c149] at p156
            refine tr_aload_n dX12_readRising_54 hl12 ?_
            refine q_getI dX12_readRising_55 fl12_99 (kR15 hS158.1 ta0) c164 ?_
            refine q_iconst dX12_readRising_58 (by decide) ?_
            intro v169 h170
            refine q_icmp_ne 64 dX12_readRising_59 (by decide) (fun h171 => ?_) (fun h171 => ?_)
            · skip
              have p172 := gd162 (by rw [c164]; omega)
              clear gd162
              refine tr_aload_n dX12_readRising_64 hl13 ?_
              refine tr_iload_n dX12_readRising_65 hl14 ?_
              refine tr_iload dX12_readRising_66 hl16 ?_
              refine q_iaddE dX12_readRising_68 (by intros; omega) ?_
              intro v173 h174
              refine tr_iload dX12_readRising_69 rfl ?_
              refine q_zast dX12_readRising_71 (kR14 hS158.1 ta1) (ti_in (nR14 hS158.1 ta1) (by omega) (by omega)) hS158 ta1 (by omega) rfl rfl (by rfl) ?_
              intro I175 hS176 f177
              have c179 : I175 a0 13 = v148 := (f177 _ _ (fun q => by have z := ta0; rw [q.1, ta1] at z; exact absurd z (by decide))).trans c159
              have c180 : I175 a0 9 = v163 := (f177 _ _ (fun q => by have z := ta0; rw [q.1, ta1] at z; exact absurd z (by decide))).trans c164
              have c181 : I175 a0 8 = v166 := (f177 _ _ (fun q => by have z := ta0; rw [q.1, ta1] at z; exact absurd z (by decide))).trans c167
              have w182 : RdI a0 I0 I175 := w160.keep (f177 _ _ (fun q => by have z := ta0; rw [q.1, ta1] at z; exact absurd z (by decide))) (f177 _ _ (fun q => by have z := ta0; rw [q.1, ta1] at z; exact absurd z (by decide))) (f177 _ _ (fun q => by have z := ta0; rw [q.1, ta1] at z; exact absurd z (by decide)))
              have w183 : RdI a0 I19 I175 := w161.keep (f177 _ _ (fun q => by have z := ta0; rw [q.1, ta1] at z; exact absurd z (by decide))) (f177 _ _ (fun q => by have z := ta0; rw [q.1, ta1] at z; exact absurd z (by decide))) (f177 _ _ (fun q => by have z := ta0; rw [q.1, ta1] at z; exact absurd z (by decide)))
              refine q_iincE dX12_readRising_72 hl16 (by decide) (by decide) (by intros; omega) ?_
              intro v184 h185
              refine tr_iload dX12_readRising_75 rfl ?_
              refine q_iconst dX12_readRising_77 (by decide) ?_
              intro v186 h187
              refine q_iaddE dX12_readRising_78 (by intros; omega) ?_
              intro v188 h189
              refine tr_istore dX12_readRising_79 (by decide) (by decide) ?_
              refine tr_aload_n dX12_readRising_81 hl12 ?_
              refine q_bipush dX12_readRising_82 (by decide +kernel) ?_
              intro v190 h191
              refine q_callVi hE (M' := mX12_eatsSign) (as := [_]) dX12_readRising_84 lk12_221 inX12_eatsSign seX12_eatsSign myX12_eatsSign (by decide) ⟨by decide, by decide⟩ rfl (kR15 hS176.1 ta0) (Nat.le_of_ble_eq_true rfl) rfl rfl (by decide) (by decide) (k_X12_eatsSign hS176.1 ta0) ?_
              rintro v196 cn' K' N' I192 R193 L194 ⟨rfl, rfl, rfl, rfl, g195, h197, p198, p199, w200, -⟩
              have hS201 := hS176.tr g195 (by decide +kernel) (by decide +kernel)
              have c202 : I192 a0 13 = v148 := (g195.cell ta0 (by decide +kernel)).trans c179
              have w203 : RdI a0 I0 I192 := w182.ew w200
              have w204 : RdI a0 I19 I192 := w183.ew w200
              rw [c180] at p198
              obtain ⟨v205, c206⟩ : ∃ v, I192 a0 8 = v := ⟨_, rfl⟩
              have b207 := iv15_8 hS201.1 ta0 c206
              rw [c206] at p199
              rw [c181] at p199
              refine tr_istore dX12_readRising_87 (by decide) (by decide) ?_
              refine tr_goto 9 dX12_readRising_89 (by decide) ?_
              exact ih29 _ v184 v188 v196 I192 L194 hl12 hl13 hl14 hl15 rfl rfl rfl hS201 (Or.inr w203) (by omega) (by omega) (by omega) (by omega) (by omega) (by omega) (by omega)
            · skip
              refine q_iconst dX12_readRising_62 (by decide) ?_
              intro v208 h209
              exact tr_iret hZ dX12_readRising_63 rfl (by decide) (by decide) ⟨v208, rfl, rfl, rfl, rfl, rfl, hS158, (by omega), (Or.inr w160), trivial⟩
  exact lp29 _ _ v3 v5 v7 I0 L0 rfl rfl rfl rfl rfl rfl rfl hS0 (EwI.rf a0 I0) (by omega) (by omega) (by omega) (by omega) (by omega) (by omega) (Nat.lt_succ_self _)
def wi_X12_readAlmanac : List Nat := [904, 905, 959, 968, 969, 970, 971, 972, 973, 974]
def wr_X12_readAlmanac : List Nat := []
set_option maxHeartbeats 4000000 in
theorem k_X12_readAlmanac {l : Launch} {T : Nat → Nat} {cn : Nat} {K N : Nat → Nat} {I0 : cz_I} {R0 : cz_R} {L0 : cz_L} {d : Int} (hW0 : Wf T cn K N I0 R0 d) {a0 : Nat} (ta0 : T a0 = 15) (nn4 : ∃ b, R0 a0 4 = some b) : ConE l mX12_readAlmanac [.ref a0] cn K N I0 R0 L0 (ca_v (fun cn' K' N' I' R' L' => cn = cn' ∧ K = K' ∧ N = N' ∧ R0 = R' ∧ St T cn K N d wi_X12_readAlmanac wr_X12_readAlmanac I0 R0 I' R0 ∧ RdI a0 I0 I' ∧ True)) := by
  refine ConE.of (by decide +kernel) rfl (Nat.le_of_ble_eq_true rfl) rfl (fun X hX hZ hE => ?_)
  subst hX
  have hS0 : St T cn K N d wi_X12_readAlmanac wr_X12_readAlmanac I0 R0 I0 R0 := St.rf0 hW0
  obtain ⟨a1, d2⟩ := nn4
  have ta1 : T a1 = 14 := hW0.rsN ta0 rfl d2
  refine tr_aload_n dX12_readAlmanac_0 rfl ?_
  refine tr_getR dX12_readAlmanac_1 fl12_188 (kR15 hS0.1 ta0) d2 ?_
  obtain ⟨v3, c4⟩ : ∃ v, I0 a1 9 = v := ⟨_, rfl⟩
  have b5 := iv14_9 hS0.1 ta1 c4
  refine q_getZ dX12_readAlmanac_4 fl12_302 (kR14 hS0.1 ta1) c4 ?_
  refine q_if_eq 15 dX12_readAlmanac_7 (by decide) (fun h6 => ?_) (fun h6 => ?_)
  · skip
    refine tr_aload_n dX12_readAlmanac_15 rfl ?_
    refine q_iconst dX12_readAlmanac_16 (by decide) ?_
    intro v7 h8
    refine q_iconst dX12_readAlmanac_17 (by decide) ?_
    intro v9 h10
    refine q_callVv hE (M' := mX12_begins) (as := [_, _]) dX12_readAlmanac_18 lk12_268 inX12_begins seX12_begins myX12_begins (by decide) ⟨by decide, by decide⟩ rfl (kR15 hS0.1 ta0) (Nat.le_of_ble_eq_true rfl) rfl rfl (by decide) (by decide) (k_X12_begins hS0.1 ta0 ⟨_, d2⟩) ?_
    rintro cn' K' N' I11 R12 L13 ⟨rfl, rfl, rfl, rfl, g14, p16, w17, -⟩
    have hS18 := hS0.tr g14 (by decide +kernel) (by decide +kernel)
    have c19 : I11 a1 9 = v3 := (g14.cell ta1 (by decide +kernel)).trans c4
    have w20 : RdI a0 I0 I11 := (EwI.rf a0 I0).rd w17
    obtain ⟨v21, c22⟩ : ∃ v, I11 a0 9 = v := ⟨_, rfl⟩
    have b23 := iv15_9 hS18.1 ta0 c22
    have gd24 : Gd (I11 a0 9) (v7.toInt ≠ v9.toInt) := p16
    clear p16
    refine tr_aload_n dX12_readAlmanac_21 rfl ?_
    refine tr_aload_n dX12_readAlmanac_22 rfl ?_
    refine tr_getR dX12_readAlmanac_23 fl12_188 (kR15 hS18.1 ta0) d2 ?_
    obtain ⟨a25, d26, ta25⟩ := rf14_16 hW0 ta1
    refine tr_getR dX12_readAlmanac_26 fl12_306 (kR14 hS18.1 ta1) d26 ?_
    refine q_iconst dX12_readAlmanac_29 (by decide) ?_
    intro v27 h28
    refine q_bipush dX12_readAlmanac_30 (by decide +kernel) ?_
    intro v29 h30
    refine q_callVi hE (M' := mX12_readRising) (as := [_, _, _]) dX12_readAlmanac_32 lk12_308 inX12_readRising seX12_readRising myX12_readRising (by decide) ⟨by decide, by decide⟩ rfl (kR15 hS18.1 ta0) (Nat.le_of_ble_eq_true rfl) rfl rfl (by decide) (by decide) (k_X12_readRising_1 hS18.1 ta0 ta25 (by omega) (by omega) ⟨_, d2⟩) ?_
    rintro v35 cn' K' N' I31 R32 L33 ⟨rfl, rfl, rfl, rfl, g34, h36, w37, -⟩
    have hS38 := hS18.tr g34 (by decide +kernel) (by decide +kernel)
    have c39 : I31 a1 9 = v3 := (g34.cell ta1 (by decide +kernel)).trans c19
    have w40 : RdI a0 I0 I31 := w20.ew w37
    have gd41 := Gd.go gd24 w37.stick
    refine tr_istore_n dX12_readAlmanac_35 (by decide) (by decide) ?_
    refine tr_aload_n dX12_readAlmanac_36 rfl ?_
    obtain ⟨v42, c43⟩ : ∃ v, I31 a0 9 = v := ⟨_, rfl⟩
    have b44 := iv15_9 hS38.1 ta0 c43
    refine q_getI dX12_readAlmanac_37 fl12_99 (kR15 hS38.1 ta0) c43 ?_
    refine q_iconst dX12_readAlmanac_40 (by decide) ?_
    intro v45 h46
    refine q_icmp_ne 45 dX12_readAlmanac_41 (by decide) (fun h47 => ?_) (fun h47 => ?_)
    · skip
      have p48 := gd41 (by rw [c43]; omega)
      clear gd41
      refine tr_aload_n dX12_readAlmanac_45 rfl ?_
      refine tr_getR dX12_readAlmanac_46 fl12_188 (kR15 hS38.1 ta0) d2 ?_
      refine tr_iload_n dX12_readAlmanac_49 rfl ?_
      refine q_putI dX12_readAlmanac_50 fl12_312 (kR14 hS38.1 ta1) (Or.inl rfl) hS38 ta1 (by show (0 : Int) ≤ v35.toInt ∧ v35.toInt ≤ (8 : Int); omega) rfl (by decide +kernel) ?_
      intro I49 hS50 e51 f52
      have c53 : I49 a1 9 = v3 := (f52 _ _ (fun q => absurd q.2 (by decide))).trans c39
      have c54 : I49 a0 9 = v42 := (f52 _ _ (fun q => absurd q.2 (by decide))).trans c43
      have w55 : RdI a0 I0 I49 := w40.keep (f52 _ _ (fun q => absurd q.2 (by decide))) (f52 _ _ (fun q => by have z := ta0; rw [q.1, ta1] at z; exact absurd z (by decide))) (f52 _ _ (fun q => absurd q.2 (by decide)))
      refine tr_aload_n dX12_readAlmanac_53 rfl ?_
      refine tr_getR dX12_readAlmanac_54 fl12_188 (kR15 hS50.1 ta0) d2 ?_
      refine q_iconst dX12_readAlmanac_57 (by decide) ?_
      intro v56 h57
      refine q_putZ dX12_readAlmanac_58 fl12_302 (kR14 hS50.1 ta1) (Or.inl rfl) hS50 ta1 (by omega) (by show (0 : Int) ≤ v56.toInt ∧ v56.toInt ≤ (1 : Int); omega) rfl (by decide +kernel) ?_
      intro I58 hS59 e60 f61
      have c62 : I58 a0 9 = v42 := (f61 _ _ (fun q => by have z := ta0; rw [q.1, ta1] at z; exact absurd z (by decide))).trans c54
      have c63 : I58 a1 8 = v35 := (f61 _ _ (fun q => absurd q.2 (by decide))).trans e51
      have w64 : RdI a0 I0 I58 := w55.keep (f61 _ _ (fun q => by have z := ta0; rw [q.1, ta1] at z; exact absurd z (by decide))) (f61 _ _ (fun q => absurd q.2 (by decide))) (f61 _ _ (fun q => absurd q.2 (by decide)))
      exact tr_vret hZ dX12_readAlmanac_61 rfl (by decide) (by decide) ⟨rfl, rfl, rfl, rfl, rfl, hS59, w64, trivial⟩
    · skip
      exact tr_vret hZ dX12_readAlmanac_44 rfl (by decide) (by decide) ⟨rfl, rfl, rfl, rfl, rfl, hS38, w40, trivial⟩
  · skip
    refine tr_aload_n dX12_readAlmanac_10 rfl ?_
    refine q_iconst dX12_readAlmanac_11 (by decide) ?_
    intro v65 h66
    obtain ⟨v67, c68⟩ : ∃ v, I0 a0 8 = v := ⟨_, rfl⟩
    have b69 := iv15_8 hS0.1 ta0 c68
    refine q_callVv hE (M' := mX12_flaw) (as := [_]) dX12_readAlmanac_12 lk12_145 inX12_flaw seX12_flaw myX12_flaw (by decide) ⟨by decide, by decide⟩ rfl (kR15 hS0.1 ta0) (Nat.le_of_ble_eq_true rfl) rfl rfl (by decide) (by decide) (k_X12_flaw hS0.1 ta0 (by omega)) ?_
    rintro cn' K' N' I70 R71 L72 ⟨rfl, rfl, rfl, rfl, rfl, g73, p75, p76, w77, -⟩
    have hS78 := hS0.tr g73 (by decide +kernel) (by decide +kernel)
    have c79 : I70 a1 9 = v3 := (g73.cell ta1 (by decide +kernel)).trans c4
    have c80 : I70 a0 8 = v67 := (g73.cell ta0 (by decide +kernel)).trans c68
    have w81 : RdI a0 I0 I70 := (EwI.rf a0 I0).rd w77
    obtain ⟨v82, c83⟩ : ∃ v, I70 a0 9 = v := ⟨_, rfl⟩
    have b84 := iv15_9 hS78.1 ta0 c83
    rw [c83] at p75
    rw [c80] at p76
    rw [c68] at p76
    refine tr_aload_n dX12_readAlmanac_15 rfl ?_
    refine q_iconst dX12_readAlmanac_16 (by decide) ?_
    intro v85 h86
    refine q_iconst dX12_readAlmanac_17 (by decide) ?_
    intro v87 h88
    refine q_callVv hE (M' := mX12_begins) (as := [_, _]) dX12_readAlmanac_18 lk12_268 inX12_begins seX12_begins myX12_begins (by decide) ⟨by decide, by decide⟩ rfl (kR15 hS78.1 ta0) (Nat.le_of_ble_eq_true rfl) rfl rfl (by decide) (by decide) (k_X12_begins hS78.1 ta0 ⟨_, d2⟩) ?_
    rintro cn' K' N' I89 R90 L91 ⟨rfl, rfl, rfl, rfl, g92, p94, w95, -⟩
    have hS96 := hS78.tr g92 (by decide +kernel) (by decide +kernel)
    have c97 : I89 a1 9 = v3 := (g92.cell ta1 (by decide +kernel)).trans c79
    have w98 : RdI a0 I0 I89 := w81.rd w95
    obtain ⟨v99, c100⟩ : ∃ v, I89 a0 9 = v := ⟨_, rfl⟩
    have b101 := iv15_9 hS96.1 ta0 c100
    have gd102 : Gd (I89 a0 9) (v85.toInt ≠ v87.toInt) := p94
    clear p94
    refine tr_aload_n dX12_readAlmanac_21 rfl ?_
    refine tr_aload_n dX12_readAlmanac_22 rfl ?_
    refine tr_getR dX12_readAlmanac_23 fl12_188 (kR15 hS96.1 ta0) d2 ?_
    obtain ⟨a103, d104, ta103⟩ := rf14_16 hW0 ta1
    refine tr_getR dX12_readAlmanac_26 fl12_306 (kR14 hS96.1 ta1) d104 ?_
    refine q_iconst dX12_readAlmanac_29 (by decide) ?_
    intro v105 h106
    refine q_bipush dX12_readAlmanac_30 (by decide +kernel) ?_
    intro v107 h108
    refine q_callVi hE (M' := mX12_readRising) (as := [_, _, _]) dX12_readAlmanac_32 lk12_308 inX12_readRising seX12_readRising myX12_readRising (by decide) ⟨by decide, by decide⟩ rfl (kR15 hS96.1 ta0) (Nat.le_of_ble_eq_true rfl) rfl rfl (by decide) (by decide) (k_X12_readRising_1 hS96.1 ta0 ta103 (by omega) (by omega) ⟨_, d2⟩) ?_
    rintro v113 cn' K' N' I109 R110 L111 ⟨rfl, rfl, rfl, rfl, g112, h114, w115, -⟩
    have hS116 := hS96.tr g112 (by decide +kernel) (by decide +kernel)
    have c117 : I109 a1 9 = v3 := (g112.cell ta1 (by decide +kernel)).trans c97
    have w118 : RdI a0 I0 I109 := w98.ew w115
    have gd119 := Gd.go gd102 w115.stick
    refine tr_istore_n dX12_readAlmanac_35 (by decide) (by decide) ?_
    refine tr_aload_n dX12_readAlmanac_36 rfl ?_
    obtain ⟨v120, c121⟩ : ∃ v, I109 a0 9 = v := ⟨_, rfl⟩
    have b122 := iv15_9 hS116.1 ta0 c121
    refine q_getI dX12_readAlmanac_37 fl12_99 (kR15 hS116.1 ta0) c121 ?_
    refine q_iconst dX12_readAlmanac_40 (by decide) ?_
    intro v123 h124
    refine q_icmp_ne 45 dX12_readAlmanac_41 (by decide) (fun h125 => ?_) (fun h125 => ?_)
    · skip
      have p126 := gd119 (by rw [c121]; omega)
      clear gd119
      refine tr_aload_n dX12_readAlmanac_45 rfl ?_
      refine tr_getR dX12_readAlmanac_46 fl12_188 (kR15 hS116.1 ta0) d2 ?_
      refine tr_iload_n dX12_readAlmanac_49 rfl ?_
      refine q_putI dX12_readAlmanac_50 fl12_312 (kR14 hS116.1 ta1) (Or.inl rfl) hS116 ta1 (by show (0 : Int) ≤ v113.toInt ∧ v113.toInt ≤ (8 : Int); omega) rfl (by decide +kernel) ?_
      intro I127 hS128 e129 f130
      have c131 : I127 a1 9 = v3 := (f130 _ _ (fun q => absurd q.2 (by decide))).trans c117
      have c132 : I127 a0 9 = v120 := (f130 _ _ (fun q => absurd q.2 (by decide))).trans c121
      have w133 : RdI a0 I0 I127 := w118.keep (f130 _ _ (fun q => absurd q.2 (by decide))) (f130 _ _ (fun q => by have z := ta0; rw [q.1, ta1] at z; exact absurd z (by decide))) (f130 _ _ (fun q => absurd q.2 (by decide)))
      refine tr_aload_n dX12_readAlmanac_53 rfl ?_
      refine tr_getR dX12_readAlmanac_54 fl12_188 (kR15 hS128.1 ta0) d2 ?_
      refine q_iconst dX12_readAlmanac_57 (by decide) ?_
      intro v134 h135
      refine q_putZ dX12_readAlmanac_58 fl12_302 (kR14 hS128.1 ta1) (Or.inl rfl) hS128 ta1 (by omega) (by show (0 : Int) ≤ v134.toInt ∧ v134.toInt ≤ (1 : Int); omega) rfl (by decide +kernel) ?_
      intro I136 hS137 e138 f139
      have c140 : I136 a0 9 = v120 := (f139 _ _ (fun q => by have z := ta0; rw [q.1, ta1] at z; exact absurd z (by decide))).trans c132
      have c141 : I136 a1 8 = v113 := (f139 _ _ (fun q => absurd q.2 (by decide))).trans e129
      have w142 : RdI a0 I0 I136 := w133.keep (f139 _ _ (fun q => by have z := ta0; rw [q.1, ta1] at z; exact absurd z (by decide))) (f139 _ _ (fun q => absurd q.2 (by decide))) (f139 _ _ (fun q => absurd q.2 (by decide)))
      exact tr_vret hZ dX12_readAlmanac_61 rfl (by decide) (by decide) ⟨rfl, rfl, rfl, rfl, rfl, hS137, w142, trivial⟩
    · skip
      exact tr_vret hZ dX12_readAlmanac_44 rfl (by decide) (by decide) ⟨rfl, rfl, rfl, rfl, rfl, hS116, w118, trivial⟩
def wi_X12_readCheese : List Nat := [899, 903, 968, 969, 970, 971, 972, 973, 974, 3775, 4031, 4799, 4863]
def wr_X12_readCheese : List Nat := []
set_option maxHeartbeats 4000000 in
theorem k_X12_readCheese {l : Launch} {T : Nat → Nat} {cn : Nat} {K N : Nat → Nat} {I0 : cz_I} {R0 : cz_R} {L0 : cz_L} (hW0 : Wf T cn K N I0 R0 0) {a0 : Nat} (ta0 : T a0 = 15) (nn4 : ∃ b, R0 a0 4 = some b) : ConE l mX12_readCheese [.ref a0] cn K N I0 R0 L0 (ca_v (fun cn' K' N' I' R' L' => cn = cn' ∧ K = K' ∧ N = N' ∧ R0 = R' ∧ St T cn K N 0 wi_X12_readCheese wr_X12_readCheese I0 R0 I' R0 ∧ RdI a0 I0 I' ∧ True)) := by
  refine ConE.of (by decide +kernel) rfl (Nat.le_of_ble_eq_true rfl) rfl (fun X hX hZ hE => ?_)
  subst hX
  have hS0 : St T cn K N 0 wi_X12_readCheese wr_X12_readCheese I0 R0 I0 R0 := St.rf0 hW0
  obtain ⟨a1, d2⟩ := nn4
  have ta1 : T a1 = 14 := hW0.rsN ta0 rfl d2
  refine tr_aload_n dX12_readCheese_0 rfl ?_
  refine tr_aload_n dX12_readCheese_1 rfl ?_
  refine tr_getR dX12_readCheese_2 fl12_188 (kR15 hS0.1 ta0) d2 ?_
  obtain ⟨v3, c4⟩ : ∃ v, I0 a1 3 = v := ⟨_, rfl⟩
  have b5 := iv14_3 hS0.1 ta1 c4
  refine q_getI dX12_readCheese_5 fl12_224 (kR14 hS0.1 ta1) c4 ?_
  refine q_bipush dX12_readCheese_8 (by decide +kernel) ?_
  intro v6 h7
  refine q_callVv hE (M' := mX12_begins) (as := [_, _]) dX12_readCheese_10 lk12_268 inX12_begins seX12_begins myX12_begins (by decide) ⟨by decide, by decide⟩ rfl (kR15 hS0.1 ta0) (Nat.le_of_ble_eq_true rfl) rfl rfl (by decide) (by decide) (k_X12_begins hS0.1 ta0 ⟨_, d2⟩) ?_
  rintro cn' K' N' I8 R9 L10 ⟨rfl, rfl, rfl, rfl, g11, p13, w14, -⟩
  have hS15 := hS0.tr g11 (by decide +kernel) (by decide +kernel)
  have c16 : I8 a1 3 = v3 := (g11.cell ta1 (by decide +kernel)).trans c4
  have w17 : RdI a0 I0 I8 := (EwI.rf a0 I0).rd w14
  obtain ⟨v18, c19⟩ : ∃ v, I8 a0 9 = v := ⟨_, rfl⟩
  have b20 := iv15_9 hS15.1 ta0 c19
  have gd21 : Gd (I8 a0 9) (v3.toInt ≠ v6.toInt) := p13
  clear p13
  refine tr_aload_n dX12_readCheese_13 rfl ?_
  refine q_callVl hE (M' := mX12_readFresh) (as := []) dX12_readCheese_14 lk12_285 inX12_readFresh seX12_readFresh myX12_readFresh (by decide) ⟨by decide, by decide⟩ rfl (kR15 hS15.1 ta0) (Nat.le_of_ble_eq_true rfl) rfl rfl (by decide) (by decide) (k_X12_readFresh hS15.1 ta0 ⟨_, d2⟩) ?_
  rintro y26 cn' K' N' I22 R23 L24 ⟨rfl, rfl, rfl, rfl, g25, w27, -⟩
  have hS28 := hS15.tr g25 (by decide +kernel) (by decide +kernel)
  have c29 : I22 a1 3 = v3 := (g25.cell ta1 (by decide +kernel)).trans c16
  have w30 : RdI a0 I0 I22 := w17.rd w27
  have gd31 := Gd.go gd21 w27.stick
  refine tr_lstore_n dX12_readCheese_17 (by decide) (by decide) (by decide) ?_
  refine tr_aload_n dX12_readCheese_18 rfl ?_
  refine tr_ldcwS dX12_readCheese_19 ld12_289 ?_
  refine q_iconst dX12_readCheese_22 (by decide) ?_
  intro v32 h33
  refine tr_aload_n dX12_readCheese_23 rfl ?_
  refine tr_getR dX12_readCheese_24 fl12_188 (kR15 hS28.1 ta0) d2 ?_
  obtain ⟨v34, c35⟩ : ∃ v, I0 a1 1 = v := ⟨_, rfl⟩
  have b36 := iv14_1 hW0 ta1 c35
  refine q_getI dX12_readCheese_27 fl12_263 (kR14 hS28.1 ta1) ((hS28.cell ta1 (by decide +kernel)).trans c35) ?_
  refine q_iconst dX12_readCheese_30 (by decide) ?_
  intro v37 h38
  refine q_isubE dX12_readCheese_31 (by intros; omega) ?_
  intro v39 h40
  refine q_callVi hE (M' := mX12_readPart) (as := [_, _, _]) dX12_readCheese_32 lk12_249 inX12_readPart seX12_readPart myX12_readPart (by decide) ⟨by decide, by decide⟩ rfl (kR15 hS28.1 ta0) (Nat.le_of_ble_eq_true rfl) rfl rfl (by decide) (by decide) (k_X12_readPart hS28.1 ta0 (by decide)) ?_
  rintro v45 cn' K' N' I41 R42 L43 ⟨rfl, rfl, rfl, rfl, g44, p46, w47, -⟩
  have hS48 := hS28.tr g44 (by decide +kernel) (by decide +kernel)
  have c49 : I41 a1 3 = v3 := (g44.cell ta1 (by decide +kernel)).trans c29
  have w50 : RdI a0 I0 I41 := w30.rd w47
  have gd51 := Gd.go gd31 w47.stick
  have b52 : 0 ≤ v45.toInt ∧ v45.toInt ≤ 3 := by omega
  clear p46
  refine tr_istore_n dX12_readCheese_35 (by decide) (by decide) ?_
  refine tr_aload_n dX12_readCheese_36 rfl ?_
  refine tr_ldcS dX12_readCheese_37 ld12_186 ?_
  refine q_callVi hE (M' := mX12_eatsWord) (as := [_]) dX12_readCheese_39 lk12_290 inX12_eatsWord seX12_eatsWord myX12_eatsWord (by decide) ⟨by decide, by decide⟩ rfl (kR15 hS48.1 ta0) (Nat.le_of_ble_eq_true rfl) rfl rfl (by decide) (by decide) (k_X12_eatsWord hS48.1 ta0 (by decide)) ?_
  rintro v57 cn' K' N' I53 R54 L55 ⟨rfl, rfl, rfl, rfl, g56, h58, w59, -⟩
  have hS60 := hS48.tr g56 (by decide +kernel) (by decide +kernel)
  have c61 : I53 a1 3 = v3 := (g56.cell ta1 (by decide +kernel)).trans c49
  have w62 : RdI a0 I0 I53 := w50.ew w59
  have gd63 := Gd.go gd51 w59.stick
  refine tr_istore dX12_readCheese_42 (by decide) (by decide) ?_
  refine tr_aload_n dX12_readCheese_44 rfl ?_
  obtain ⟨v64, c65⟩ : ∃ v, I53 a0 9 = v := ⟨_, rfl⟩
  have b66 := iv15_9 hS60.1 ta0 c65
  refine q_getI dX12_readCheese_45 fl12_99 (kR15 hS60.1 ta0) c65 ?_
  refine q_iconst dX12_readCheese_48 (by decide) ?_
  intro v67 h68
  refine q_icmp_ne 53 dX12_readCheese_49 (by decide) (fun h69 => ?_) (fun h69 => ?_)
  · skip
    have p70 := gd63 (by rw [c65]; omega)
    clear gd63
    refine tr_aload_n dX12_readCheese_53 rfl ?_
    refine tr_lload_n dX12_readCheese_54 rfl ?_
    refine q_iconst dX12_readCheese_55 (by decide) ?_
    intro v71 h72
    refine tr_aload_n dX12_readCheese_56 rfl ?_
    refine tr_getR dX12_readCheese_57 fl12_188 (kR15 hS60.1 ta0) d2 ?_
    refine q_getI dX12_readCheese_60 fl12_224 (kR14 hS60.1 ta1) c61 ?_
    obtain ⟨v74, c75⟩ : ∃ v, I53 a1 7 = v := ⟨_, rfl⟩
    have b76 := iv14_7 hS60.1 ta1 c75
    obtain ⟨v77, c78⟩ : ∃ v, I0 a1 4 = v := ⟨_, rfl⟩
    have b79 := iv14_4 hW0 ta1 c78
    have p73 := hS60.1.2.2.2.2.1 a0 ta0 _ d2
    rw [c75, c61, ((hS60.cell ta1 (by decide +kernel)).trans c78)] at p73
    refine q_callVv hE (M' := mX12_names) (as := [_, _, _]) dX12_readCheese_63 lk12_293 inX12_names seX12_names myX12_names (by decide) ⟨by decide, by decide⟩ rfl (kR15 hS60.1 ta0) (Nat.le_of_ble_eq_true rfl) rfl rfl (by decide) (by decide) (k_X12_names hS60.1 ta0 (fun q0 z0 => by obtain rfl := Option.some.inj ((d2).symm.trans z0); (try rw [c75]); (try omega)) ⟨_, d2⟩) ?_
    rintro cn' K' N' I80 R81 L82 ⟨rfl, rfl, rfl, rfl, g83, -⟩
    have hS85 := hS60.tr g83 (by decide +kernel) (by decide +kernel)
    have c86 : I80 a1 3 = v3 := (g83.cell ta1 (by decide +kernel)).trans c61
    have c87 : I80 a0 9 = v64 := (g83.cell ta0 (by decide +kernel)).trans c65
    have w88 : RdI a0 I0 I80 := w62.keep (g83.cell ta0 (by decide +kernel)) (g83.cell ta0 (by decide +kernel)) (g83.cell ta0 (by decide +kernel))
    refine tr_aload_n dX12_readCheese_66 rfl ?_
    refine tr_getR dX12_readCheese_67 fl12_188 (kR15 hS85.1 ta0) d2 ?_
    obtain ⟨a89, d90, ta89⟩ := rf14_15 hW0 ta1
    refine tr_getR dX12_readCheese_70 fl12_296 (kR14 hS85.1 ta1) d90 ?_
    refine tr_aload_n dX12_readCheese_73 rfl ?_
    refine tr_getR dX12_readCheese_74 fl12_188 (kR15 hS85.1 ta0) d2 ?_
    refine q_getI dX12_readCheese_77 fl12_224 (kR14 hS85.1 ta1) c86 ?_
    refine tr_iload_n dX12_readCheese_80 rfl ?_
    refine q_iast dX12_readCheese_81 (kR58 hS85.1 ta89) (ti_in (nR58 hS85.1 ta89) (by omega) (by omega)) hS85 ta89 (by show (0 : Int) ≤ v45.toInt ∧ v45.toInt ≤ (3 : Int); omega) rfl (by rfl) ?_
    intro I91 hS92 e94 f93
    have c95 : I91 a1 3 = v3 := (f93 _ _ (fun q => by have z := ta1; rw [q.1, ta89] at z; exact absurd z (by decide))).trans c86
    have c96 : I91 a0 9 = v64 := (f93 _ _ (fun q => by have z := ta0; rw [q.1, ta89] at z; exact absurd z (by decide))).trans c87
    have w97 : RdI a0 I0 I91 := w88.keep (f93 _ _ (fun q => by have z := ta0; rw [q.1, ta89] at z; exact absurd z (by decide))) (f93 _ _ (fun q => by have z := ta0; rw [q.1, ta89] at z; exact absurd z (by decide))) (f93 _ _ (fun q => by have z := ta0; rw [q.1, ta89] at z; exact absurd z (by decide)))
    refine tr_aload_n dX12_readCheese_82 rfl ?_
    refine tr_getR dX12_readCheese_83 fl12_188 (kR15 hS92.1 ta0) d2 ?_
    obtain ⟨a98, d99, ta98⟩ := rf14_19 hW0 ta1
    refine tr_getR dX12_readCheese_86 fl12_299 (kR14 hS92.1 ta1) d99 ?_
    refine tr_aload_n dX12_readCheese_89 rfl ?_
    refine tr_getR dX12_readCheese_90 fl12_188 (kR15 hS92.1 ta0) d2 ?_
    refine q_getI dX12_readCheese_93 fl12_224 (kR14 hS92.1 ta1) c95 ?_
    refine tr_iload dX12_readCheese_96 rfl ?_
    refine q_zast dX12_readCheese_98 (kR62 hS92.1 ta98) (ti_in (nR62 hS92.1 ta98) (by omega) (by omega)) hS92 ta98 (by omega) rfl rfl (by rfl) ?_
    intro I100 hS101 f102
    have c104 : I100 a1 3 = v3 := (f102 _ _ (fun q => by have z := ta1; rw [q.1, ta98] at z; exact absurd z (by decide))).trans c95
    have c105 : I100 a0 9 = v64 := (f102 _ _ (fun q => by have z := ta0; rw [q.1, ta98] at z; exact absurd z (by decide))).trans c96
    have w106 : RdI a0 I0 I100 := w97.keep (f102 _ _ (fun q => by have z := ta0; rw [q.1, ta98] at z; exact absurd z (by decide))) (f102 _ _ (fun q => by have z := ta0; rw [q.1, ta98] at z; exact absurd z (by decide))) (f102 _ _ (fun q => by have z := ta0; rw [q.1, ta98] at z; exact absurd z (by decide)))
    refine tr_aload_n dX12_readCheese_99 rfl ?_
    refine tr_getR dX12_readCheese_100 fl12_188 (kR15 hS101.1 ta0) d2 ?_
    refine tr_dup dX12_readCheese_103 rfl ?_
    refine q_getI dX12_readCheese_104 fl12_224 (kR14 hS101.1 ta1) c104 ?_
    refine q_iconst dX12_readCheese_107 (by decide) ?_
    intro v107 h108
    refine q_iaddE dX12_readCheese_108 (by intros; omega) ?_
    intro v109 h110
    refine q_putX dX12_readCheese_109 fl12_224 (kR14 hS101.1 ta1) (Or.inl rfl) hS101 ta1 (by decide +kernel) (hS101.1.putN (d' := 0) ta0 d2 (Or.inr (Or.inl rfl)) (by rw [c104]; omega) (by decide) (by show (0 : Int) ≤ v109.toInt ∧ v109.toInt ≤ (8 : Int); omega)) ?_
    intro I111 hS112 e113 f114
    have c115 : I111 a0 9 = v64 := (f114 _ _ (fun q => absurd q.2 (by decide))).trans c105
    have w116 : RdI a0 I0 I111 := w106.keep (f114 _ _ (fun q => absurd q.2 (by decide))) (f114 _ _ (fun q => absurd q.2 (by decide))) (f114 _ _ (fun q => absurd q.2 (by decide)))
    exact tr_vret hZ dX12_readCheese_112 rfl (by decide) (by decide) ⟨rfl, rfl, rfl, rfl, rfl, hS112, w116, trivial⟩
  · skip
    exact tr_vret hZ dX12_readCheese_52 rfl (by decide) (by decide) ⟨rfl, rfl, rfl, rfl, rfl, hS60, w62, trivial⟩
def wi_X12_readEvent : List Nat := [898, 968, 969, 970, 971, 972, 973, 974, 3519, 3583, 3647, 3711]
def wr_X12_readEvent : List Nat := []
set_option maxHeartbeats 4000000 in
theorem k_X12_readEvent {l : Launch} {T : Nat → Nat} {cn : Nat} {K N : Nat → Nat} {I0 : cz_I} {R0 : cz_R} {L0 : cz_L} {d : Int} (hW0 : Wf T cn K N I0 R0 d) {a0 : Nat} (ta0 : T a0 = 15) {x1 : Int32} (hx1 : 0 ≤ x1.toInt ∧ x1.toInt ≤ 4) (nn4 : ∃ b, R0 a0 4 = some b) : ConE l mX12_readEvent [.ref a0, .int x1] cn K N I0 R0 L0 (ca_v (fun cn' K' N' I' R' L' => cn = cn' ∧ K = K' ∧ N = N' ∧ R0 = R' ∧ St T cn K N d wi_X12_readEvent wr_X12_readEvent I0 R0 I' R0 ∧ RdI a0 I0 I' ∧ True)) := by
  refine ConE.of (by decide +kernel) rfl (Nat.le_of_ble_eq_true rfl) rfl (fun X hX hZ hE => ?_)
  subst hX
  have hS0 : St T cn K N d wi_X12_readEvent wr_X12_readEvent I0 R0 I0 R0 := St.rf0 hW0
  obtain ⟨a1, d2⟩ := nn4
  have ta1 : T a1 = 14 := hW0.rsN ta0 rfl d2
  refine tr_aload_n dX12_readEvent_0 rfl ?_
  refine tr_aload_n dX12_readEvent_1 rfl ?_
  refine tr_getR dX12_readEvent_2 fl12_188 (kR15 hS0.1 ta0) d2 ?_
  obtain ⟨v3, c4⟩ : ∃ v, I0 a1 2 = v := ⟨_, rfl⟩
  have b5 := iv14_2 hS0.1 ta1 c4
  refine q_getI dX12_readEvent_5 fl12_265 (kR14 hS0.1 ta1) c4 ?_
  refine q_bipush dX12_readEvent_8 (by decide +kernel) ?_
  intro v6 h7
  refine q_callVv hE (M' := mX12_begins) (as := [_, _]) dX12_readEvent_10 lk12_268 inX12_begins seX12_begins myX12_begins (by decide) ⟨by decide, by decide⟩ rfl (kR15 hS0.1 ta0) (Nat.le_of_ble_eq_true rfl) rfl rfl (by decide) (by decide) (k_X12_begins hS0.1 ta0 ⟨_, d2⟩) ?_
  rintro cn' K' N' I8 R9 L10 ⟨rfl, rfl, rfl, rfl, g11, p13, w14, -⟩
  have hS15 := hS0.tr g11 (by decide +kernel) (by decide +kernel)
  have c16 : I8 a1 2 = v3 := (g11.cell ta1 (by decide +kernel)).trans c4
  have w17 : RdI a0 I0 I8 := (EwI.rf a0 I0).rd w14
  obtain ⟨v18, c19⟩ : ∃ v, I8 a0 9 = v := ⟨_, rfl⟩
  have b20 := iv15_9 hS15.1 ta0 c19
  have gd21 : Gd (I8 a0 9) (v3.toInt ≠ v6.toInt) := p13
  clear p13
  refine tr_iload_n dX12_readEvent_13 rfl ?_
  refine q_iconst dX12_readEvent_14 (by decide) ?_
  intro v22 h23
  refine q_icmp_eq 23 dX12_readEvent_15 (by decide) (fun h24 => ?_) (fun h24 => ?_)
  · skip
    refine tr_aload_n dX12_readEvent_23 rfl ?_
    refine q_iconst dX12_readEvent_24 (by decide) ?_
    intro v25 h26
    refine tr_aload_n dX12_readEvent_25 rfl ?_
    refine tr_getR dX12_readEvent_26 fl12_188 (kR15 hS15.1 ta0) d2 ?_
    obtain ⟨v27, c28⟩ : ∃ v, I0 a1 1 = v := ⟨_, rfl⟩
    have b29 := iv14_1 hW0 ta1 c28
    refine q_getI dX12_readEvent_29 fl12_263 (kR14 hS15.1 ta1) ((hS15.cell ta1 (by decide +kernel)).trans c28) ?_
    refine q_iconst dX12_readEvent_32 (by decide) ?_
    intro v30 h31
    refine q_isubE dX12_readEvent_33 (by intros; omega) ?_
    intro v32 h33
    refine q_callVi hE (M' := mX12_readWhole) (as := [_, _]) dX12_readEvent_34 lk12_161 inX12_readWhole seX12_readWhole myX12_readWhole (by decide) ⟨by decide, by decide⟩ rfl (kR15 hS15.1 ta0) (Nat.le_of_ble_eq_true rfl) rfl rfl (by decide) (by decide) (k_X12_readWhole hS15.1 ta0) ?_
    rintro v38 cn' K' N' I34 R35 L36 ⟨rfl, rfl, rfl, rfl, g37, p39, w40, -⟩
    have hS41 := hS15.tr g37 (by decide +kernel) (by decide +kernel)
    have c42 : I34 a1 2 = v3 := (g37.cell ta1 (by decide +kernel)).trans c16
    have w43 : RdI a0 I0 I34 := w17.rd w40
    have gd44 := Gd.go gd21 w40.stick
    have b45 : 0 ≤ v38.toInt ∧ v38.toInt ≤ 3 := by omega
    clear p39
    refine tr_goto 42 dX12_readEvent_37 (by decide) ?_
    refine tr_istore_n dX12_readEvent_42 (by decide) (by decide) ?_
    refine tr_aload_n dX12_readEvent_43 rfl ?_
    refine q_iconst dX12_readEvent_44 (by decide) ?_
    intro v46 h47
    refine tr_aload_n dX12_readEvent_45 rfl ?_
    refine tr_getR dX12_readEvent_46 fl12_188 (kR15 hS41.1 ta0) d2 ?_
    obtain ⟨v48, c49⟩ : ∃ v, I0 a1 0 = v := ⟨_, rfl⟩
    have b50 := iv14_0 hW0 ta1 c49
    refine q_getI dX12_readEvent_49 fl12_192 (kR14 hS41.1 ta1) ((hS41.cell ta1 (by decide +kernel)).trans c49) ?_
    refine q_iconst dX12_readEvent_52 (by decide) ?_
    intro v51 h52
    refine q_isubE dX12_readEvent_53 (by intros; omega) ?_
    intro v53 h54
    refine q_callVi hE (M' := mX12_readWhole) (as := [_, _]) dX12_readEvent_54 lk12_161 inX12_readWhole seX12_readWhole myX12_readWhole (by decide) ⟨by decide, by decide⟩ rfl (kR15 hS41.1 ta0) (Nat.le_of_ble_eq_true rfl) rfl rfl (by decide) (by decide) (k_X12_readWhole hS41.1 ta0) ?_
    rintro v59 cn' K' N' I55 R56 L57 ⟨rfl, rfl, rfl, rfl, g58, p60, w61, -⟩
    have hS62 := hS41.tr g58 (by decide +kernel) (by decide +kernel)
    have c63 : I55 a1 2 = v3 := (g58.cell ta1 (by decide +kernel)).trans c42
    have w64 : RdI a0 I0 I55 := w43.rd w61
    have gd65 := Gd.go gd44 w61.stick
    have b66 : 0 ≤ v59.toInt ∧ v59.toInt ≤ 239 := by omega
    clear p60
    refine tr_istore_n dX12_readEvent_57 (by decide) (by decide) ?_
    refine tr_iload_n dX12_readEvent_58 rfl ?_
    refine q_iconst dX12_readEvent_59 (by decide) ?_
    intro v67 h68
    refine q_icmp_ne 69 dX12_readEvent_60 (by decide) (fun h69 => ?_) (fun h69 => ?_)
    · skip
      refine tr_aload_n dX12_readEvent_69 rfl ?_
      refine tr_ldcwS dX12_readEvent_70 ld12_272 ?_
      refine tr_iload_n dX12_readEvent_73 rfl ?_
      refine q_iconst dX12_readEvent_74 (by decide) ?_
      intro v70 h71
      refine q_iaddE dX12_readEvent_75 (by intros; omega) ?_
      intro v72 h73
      refine tr_aload_n dX12_readEvent_76 rfl ?_
      refine tr_getR dX12_readEvent_77 fl12_188 (kR15 hS62.1 ta0) d2 ?_
      refine q_getI dX12_readEvent_80 fl12_192 (kR14 hS62.1 ta1) ((hS62.cell ta1 (by decide +kernel)).trans c49) ?_
      refine q_callVi hE (M' := mX12_readPart) (as := [_, _, _]) dX12_readEvent_83 lk12_249 inX12_readPart seX12_readPart myX12_readPart (by decide) ⟨by decide, by decide⟩ rfl (kR15 hS62.1 ta0) (Nat.le_of_ble_eq_true rfl) rfl rfl (by decide) (by decide) (k_X12_readPart hS62.1 ta0 (by decide)) ?_
      rintro v78 cn' K' N' I74 R75 L76 ⟨rfl, rfl, rfl, rfl, g77, p79, w80, -⟩
      have hS81 := hS62.tr g77 (by decide +kernel) (by decide +kernel)
      have c82 : I74 a1 2 = v3 := (g77.cell ta1 (by decide +kernel)).trans c63
      have w83 : RdI a0 I0 I74 := w64.rd w80
      have gd84 := Gd.go gd65 w80.stick
      have b85 : 1 ≤ v78.toInt ∧ v78.toInt ≤ 240 := by omega
      clear p79
      refine tr_istore dX12_readEvent_86 (by decide) (by decide) ?_
      refine tr_aload_n dX12_readEvent_88 rfl ?_
      obtain ⟨v86, c87⟩ : ∃ v, I74 a0 9 = v := ⟨_, rfl⟩
      have b88 := iv15_9 hS81.1 ta0 c87
      refine q_getI dX12_readEvent_89 fl12_99 (kR15 hS81.1 ta0) c87 ?_
      refine q_iconst dX12_readEvent_92 (by decide) ?_
      intro v89 h90
      refine q_icmp_ne 97 dX12_readEvent_93 (by decide) (fun h91 => ?_) (fun h91 => ?_)
      · skip
        have p92 := gd84 (by rw [c87]; omega)
        clear gd84
        refine tr_aload_n dX12_readEvent_97 rfl ?_
        refine tr_getR dX12_readEvent_98 fl12_188 (kR15 hS81.1 ta0) d2 ?_
        refine q_getI dX12_readEvent_101 fl12_265 (kR14 hS81.1 ta1) c82 ?_
        refine tr_istore dX12_readEvent_104 (by decide) (by decide) ?_
        refine tr_aload_n dX12_readEvent_106 rfl ?_
        refine tr_getR dX12_readEvent_107 fl12_188 (kR15 hS81.1 ta0) d2 ?_
        obtain ⟨a93, d94, ta93⟩ := rf14_11 hW0 ta1
        refine tr_getR dX12_readEvent_110 fl12_274 (kR14 hS81.1 ta1) d94 ?_
        refine tr_iload dX12_readEvent_113 rfl ?_
        refine tr_iload_n dX12_readEvent_115 rfl ?_
        refine q_iastX dX12_readEvent_116 (kR54 hS81.1 ta93) (ti_in (nR54 hS81.1 ta93) (by omega) (by omega)) hS81 ta93 (by rfl) (hS81.1.putK (m := a1) ta1 d94 (by rw [c82]; exact Int.le_of_eq (ti_nat (by omega)).symm)) ?_
        intro I99 hS100 e101 f102
        have c103 : I99 a1 2 = v3 := (f102 _ _ (fun q => by have z := ta1; rw [q.1, ta93] at z; exact absurd z (by decide))).trans c82
        have c104 : I99 a0 9 = v86 := (f102 _ _ (fun q => by have z := ta0; rw [q.1, ta93] at z; exact absurd z (by decide))).trans c87
        have w105 : RdI a0 I0 I99 := w83.keep (f102 _ _ (fun q => by have z := ta0; rw [q.1, ta93] at z; exact absurd z (by decide))) (f102 _ _ (fun q => by have z := ta0; rw [q.1, ta93] at z; exact absurd z (by decide))) (f102 _ _ (fun q => by have z := ta0; rw [q.1, ta93] at z; exact absurd z (by decide)))
        refine tr_aload_n dX12_readEvent_117 rfl ?_
        refine tr_getR dX12_readEvent_118 fl12_188 (kR15 hS100.1 ta0) d2 ?_
        obtain ⟨a106, d107, ta106⟩ := rf14_12 hW0 ta1
        refine tr_getR dX12_readEvent_121 fl12_277 (kR14 hS100.1 ta1) d107 ?_
        refine tr_iload dX12_readEvent_124 rfl ?_
        refine tr_iload_n dX12_readEvent_126 rfl ?_
        refine q_iastX dX12_readEvent_127 (kR55 hS100.1 ta106) (ti_in (nR55 hS100.1 ta106) (by omega) (by omega)) hS100 ta106 (by rfl) (hS100.1.putH (m := a1) ta1 d107 (by rw [c103]; exact Int.le_of_eq (ti_nat (by omega)).symm) (by omega)) ?_
        intro I112 hS113 e114 f115
        have c116 : I112 a1 2 = v3 := (f115 _ _ (fun q => by have z := ta1; rw [q.1, ta106] at z; exact absurd z (by decide))).trans c103
        have c117 : I112 a0 9 = v86 := (f115 _ _ (fun q => by have z := ta0; rw [q.1, ta106] at z; exact absurd z (by decide))).trans c104
        have c118 : I112 a93 v3.toNatClampNeg = x1 := (f115 _ _ (fun q => by have z := ta93; rw [q.1, ta106] at z; exact absurd z (by decide))).trans e101
        have w119 : RdI a0 I0 I112 := w105.keep (f115 _ _ (fun q => by have z := ta0; rw [q.1, ta106] at z; exact absurd z (by decide))) (f115 _ _ (fun q => by have z := ta0; rw [q.1, ta106] at z; exact absurd z (by decide))) (f115 _ _ (fun q => by have z := ta0; rw [q.1, ta106] at z; exact absurd z (by decide)))
        refine tr_aload_n dX12_readEvent_128 rfl ?_
        refine tr_getR dX12_readEvent_129 fl12_188 (kR15 hS113.1 ta0) d2 ?_
        obtain ⟨a120, d121, ta120⟩ := rf14_13 hW0 ta1
        refine tr_getR dX12_readEvent_132 fl12_280 (kR14 hS113.1 ta1) d121 ?_
        refine tr_iload dX12_readEvent_135 rfl ?_
        refine tr_iload_n dX12_readEvent_137 rfl ?_
        refine q_iast dX12_readEvent_138 (kR56 hS113.1 ta120) (ti_in (nR56 hS113.1 ta120) (by omega) (by omega)) hS113 ta120 (by show (0 : Int) ≤ v59.toInt ∧ v59.toInt ≤ (240 : Int); omega) rfl (by rfl) ?_
        intro I122 hS123 e125 f124
        have c126 : I122 a1 2 = v3 := (f124 _ _ (fun q => by have z := ta1; rw [q.1, ta120] at z; exact absurd z (by decide))).trans c116
        have c127 : I122 a0 9 = v86 := (f124 _ _ (fun q => by have z := ta0; rw [q.1, ta120] at z; exact absurd z (by decide))).trans c117
        have c128 : I122 a93 v3.toNatClampNeg = x1 := (f124 _ _ (fun q => by have z := ta93; rw [q.1, ta120] at z; exact absurd z (by decide))).trans c118
        have c129 : I122 a106 v3.toNatClampNeg = v38 := (f124 _ _ (fun q => by have z := ta106; rw [q.1, ta120] at z; exact absurd z (by decide))).trans e114
        have w130 : RdI a0 I0 I122 := w119.keep (f124 _ _ (fun q => by have z := ta0; rw [q.1, ta120] at z; exact absurd z (by decide))) (f124 _ _ (fun q => by have z := ta0; rw [q.1, ta120] at z; exact absurd z (by decide))) (f124 _ _ (fun q => by have z := ta0; rw [q.1, ta120] at z; exact absurd z (by decide)))
        refine tr_aload_n dX12_readEvent_139 rfl ?_
        refine tr_getR dX12_readEvent_140 fl12_188 (kR15 hS123.1 ta0) d2 ?_
        obtain ⟨a131, d132, ta131⟩ := rf14_14 hW0 ta1
        refine tr_getR dX12_readEvent_143 fl12_283 (kR14 hS123.1 ta1) d132 ?_
        refine tr_iload dX12_readEvent_146 rfl ?_
        refine tr_iload dX12_readEvent_148 rfl ?_
        refine q_iast dX12_readEvent_150 (kR57 hS123.1 ta131) (ti_in (nR57 hS123.1 ta131) (by omega) (by omega)) hS123 ta131 (by show (0 : Int) ≤ v78.toInt ∧ v78.toInt ≤ (240 : Int); omega) rfl (by rfl) ?_
        intro I133 hS134 e136 f135
        have c137 : I133 a1 2 = v3 := (f135 _ _ (fun q => by have z := ta1; rw [q.1, ta131] at z; exact absurd z (by decide))).trans c126
        have c138 : I133 a0 9 = v86 := (f135 _ _ (fun q => by have z := ta0; rw [q.1, ta131] at z; exact absurd z (by decide))).trans c127
        have c139 : I133 a93 v3.toNatClampNeg = x1 := (f135 _ _ (fun q => by have z := ta93; rw [q.1, ta131] at z; exact absurd z (by decide))).trans c128
        have c140 : I133 a106 v3.toNatClampNeg = v38 := (f135 _ _ (fun q => by have z := ta106; rw [q.1, ta131] at z; exact absurd z (by decide))).trans c129
        have w141 : RdI a0 I0 I133 := w130.keep (f135 _ _ (fun q => by have z := ta0; rw [q.1, ta131] at z; exact absurd z (by decide))) (f135 _ _ (fun q => by have z := ta0; rw [q.1, ta131] at z; exact absurd z (by decide))) (f135 _ _ (fun q => by have z := ta0; rw [q.1, ta131] at z; exact absurd z (by decide)))
        refine tr_aload_n dX12_readEvent_151 rfl ?_
        refine tr_getR dX12_readEvent_152 fl12_188 (kR15 hS134.1 ta0) d2 ?_
        refine tr_dup dX12_readEvent_155 rfl ?_
        refine q_getI dX12_readEvent_156 fl12_265 (kR14 hS134.1 ta1) c137 ?_
        refine q_iconst dX12_readEvent_159 (by decide) ?_
        intro v142 h143
        refine q_iaddE dX12_readEvent_160 (by intros; omega) ?_
        intro v144 h145
        refine q_putX dX12_readEvent_161 fl12_265 (kR14 hS134.1 ta1) (Or.inl rfl) hS134 ta1 (by decide +kernel) (hS134.1.putE (i := v3.toNatClampNeg) ta1 d94 d107 (by rw [c137]; exact (ti_nat (by omega)).symm) (by rw [c137]; omega) (by omega) (by rw [c139, c140]; omega)) ?_
        intro I146 hS147 e148 f149
        have c150 : I146 a0 9 = v86 := (f149 _ _ (fun q => absurd q.2 (by decide))).trans c138
        have c151 : I146 a93 v3.toNatClampNeg = x1 := (f149 _ _ (fun q => by have z := ta93; rw [q.1, ta1] at z; exact absurd z (by decide))).trans c139
        have c152 : I146 a106 v3.toNatClampNeg = v38 := (f149 _ _ (fun q => by have z := ta106; rw [q.1, ta1] at z; exact absurd z (by decide))).trans c140
        have w153 : RdI a0 I0 I146 := w141.keep (f149 _ _ (fun q => absurd q.2 (by decide))) (f149 _ _ (fun q => absurd q.2 (by decide))) (f149 _ _ (fun q => absurd q.2 (by decide)))
        exact tr_vret hZ dX12_readEvent_164 rfl (by decide) (by decide) ⟨rfl, rfl, rfl, rfl, rfl, hS147, w153, trivial⟩
      · skip
        exact tr_vret hZ dX12_readEvent_96 rfl (by decide) (by decide) ⟨rfl, rfl, rfl, rfl, rfl, hS81, w83, trivial⟩
    · skip
      exfalso; omega
  · skip
    refine tr_iload_n dX12_readEvent_18 rfl ?_
    refine q_iconst dX12_readEvent_19 (by decide) ?_
    intro v154 h155
    refine q_icmp_ne 40 dX12_readEvent_20 (by decide) (fun h156 => ?_) (fun h156 => ?_)
    · skip
      refine q_bipush dX12_readEvent_40 (by decide +kernel) ?_
      intro v157 h158
      refine tr_istore_n dX12_readEvent_42 (by decide) (by decide) ?_
      refine tr_aload_n dX12_readEvent_43 rfl ?_
      refine q_iconst dX12_readEvent_44 (by decide) ?_
      intro v159 h160
      refine tr_aload_n dX12_readEvent_45 rfl ?_
      refine tr_getR dX12_readEvent_46 fl12_188 (kR15 hS15.1 ta0) d2 ?_
      obtain ⟨v161, c162⟩ : ∃ v, I0 a1 0 = v := ⟨_, rfl⟩
      have b163 := iv14_0 hW0 ta1 c162
      refine q_getI dX12_readEvent_49 fl12_192 (kR14 hS15.1 ta1) ((hS15.cell ta1 (by decide +kernel)).trans c162) ?_
      refine q_iconst dX12_readEvent_52 (by decide) ?_
      intro v164 h165
      refine q_isubE dX12_readEvent_53 (by intros; omega) ?_
      intro v166 h167
      refine q_callVi hE (M' := mX12_readWhole) (as := [_, _]) dX12_readEvent_54 lk12_161 inX12_readWhole seX12_readWhole myX12_readWhole (by decide) ⟨by decide, by decide⟩ rfl (kR15 hS15.1 ta0) (Nat.le_of_ble_eq_true rfl) rfl rfl (by decide) (by decide) (k_X12_readWhole hS15.1 ta0) ?_
      rintro v172 cn' K' N' I168 R169 L170 ⟨rfl, rfl, rfl, rfl, g171, p173, w174, -⟩
      have hS175 := hS15.tr g171 (by decide +kernel) (by decide +kernel)
      have c176 : I168 a1 2 = v3 := (g171.cell ta1 (by decide +kernel)).trans c16
      have w177 : RdI a0 I0 I168 := w17.rd w174
      have gd178 := Gd.go gd21 w174.stick
      have b179 : 0 ≤ v172.toInt ∧ v172.toInt ≤ 239 := by omega
      clear p173
      refine tr_istore_n dX12_readEvent_57 (by decide) (by decide) ?_
      refine tr_iload_n dX12_readEvent_58 rfl ?_
      refine q_iconst dX12_readEvent_59 (by decide) ?_
      intro v180 h181
      refine q_icmp_ne 69 dX12_readEvent_60 (by decide) (fun h182 => ?_) (fun h182 => ?_)
      · skip
        refine tr_aload_n dX12_readEvent_69 rfl ?_
        refine tr_ldcwS dX12_readEvent_70 ld12_272 ?_
        refine tr_iload_n dX12_readEvent_73 rfl ?_
        refine q_iconst dX12_readEvent_74 (by decide) ?_
        intro v183 h184
        refine q_iaddE dX12_readEvent_75 (by intros; omega) ?_
        intro v185 h186
        refine tr_aload_n dX12_readEvent_76 rfl ?_
        refine tr_getR dX12_readEvent_77 fl12_188 (kR15 hS175.1 ta0) d2 ?_
        refine q_getI dX12_readEvent_80 fl12_192 (kR14 hS175.1 ta1) ((hS175.cell ta1 (by decide +kernel)).trans c162) ?_
        refine q_callVi hE (M' := mX12_readPart) (as := [_, _, _]) dX12_readEvent_83 lk12_249 inX12_readPart seX12_readPart myX12_readPart (by decide) ⟨by decide, by decide⟩ rfl (kR15 hS175.1 ta0) (Nat.le_of_ble_eq_true rfl) rfl rfl (by decide) (by decide) (k_X12_readPart hS175.1 ta0 (by decide)) ?_
        rintro v191 cn' K' N' I187 R188 L189 ⟨rfl, rfl, rfl, rfl, g190, p192, w193, -⟩
        have hS194 := hS175.tr g190 (by decide +kernel) (by decide +kernel)
        have c195 : I187 a1 2 = v3 := (g190.cell ta1 (by decide +kernel)).trans c176
        have w196 : RdI a0 I0 I187 := w177.rd w193
        have gd197 := Gd.go gd178 w193.stick
        have b198 : 1 ≤ v191.toInt ∧ v191.toInt ≤ 240 := by omega
        clear p192
        refine tr_istore dX12_readEvent_86 (by decide) (by decide) ?_
        refine tr_aload_n dX12_readEvent_88 rfl ?_
        obtain ⟨v199, c200⟩ : ∃ v, I187 a0 9 = v := ⟨_, rfl⟩
        have b201 := iv15_9 hS194.1 ta0 c200
        refine q_getI dX12_readEvent_89 fl12_99 (kR15 hS194.1 ta0) c200 ?_
        refine q_iconst dX12_readEvent_92 (by decide) ?_
        intro v202 h203
        refine q_icmp_ne 97 dX12_readEvent_93 (by decide) (fun h204 => ?_) (fun h204 => ?_)
        · skip
          have p205 := gd197 (by rw [c200]; omega)
          clear gd197
          refine tr_aload_n dX12_readEvent_97 rfl ?_
          refine tr_getR dX12_readEvent_98 fl12_188 (kR15 hS194.1 ta0) d2 ?_
          refine q_getI dX12_readEvent_101 fl12_265 (kR14 hS194.1 ta1) c195 ?_
          refine tr_istore dX12_readEvent_104 (by decide) (by decide) ?_
          refine tr_aload_n dX12_readEvent_106 rfl ?_
          refine tr_getR dX12_readEvent_107 fl12_188 (kR15 hS194.1 ta0) d2 ?_
          obtain ⟨a206, d207, ta206⟩ := rf14_11 hW0 ta1
          refine tr_getR dX12_readEvent_110 fl12_274 (kR14 hS194.1 ta1) d207 ?_
          refine tr_iload dX12_readEvent_113 rfl ?_
          refine tr_iload_n dX12_readEvent_115 rfl ?_
          refine q_iastX dX12_readEvent_116 (kR54 hS194.1 ta206) (ti_in (nR54 hS194.1 ta206) (by omega) (by omega)) hS194 ta206 (by rfl) (hS194.1.putK (m := a1) ta1 d207 (by rw [c195]; exact Int.le_of_eq (ti_nat (by omega)).symm)) ?_
          intro I212 hS213 e214 f215
          have c216 : I212 a1 2 = v3 := (f215 _ _ (fun q => by have z := ta1; rw [q.1, ta206] at z; exact absurd z (by decide))).trans c195
          have c217 : I212 a0 9 = v199 := (f215 _ _ (fun q => by have z := ta0; rw [q.1, ta206] at z; exact absurd z (by decide))).trans c200
          have w218 : RdI a0 I0 I212 := w196.keep (f215 _ _ (fun q => by have z := ta0; rw [q.1, ta206] at z; exact absurd z (by decide))) (f215 _ _ (fun q => by have z := ta0; rw [q.1, ta206] at z; exact absurd z (by decide))) (f215 _ _ (fun q => by have z := ta0; rw [q.1, ta206] at z; exact absurd z (by decide)))
          refine tr_aload_n dX12_readEvent_117 rfl ?_
          refine tr_getR dX12_readEvent_118 fl12_188 (kR15 hS213.1 ta0) d2 ?_
          obtain ⟨a219, d220, ta219⟩ := rf14_12 hW0 ta1
          refine tr_getR dX12_readEvent_121 fl12_277 (kR14 hS213.1 ta1) d220 ?_
          refine tr_iload dX12_readEvent_124 rfl ?_
          refine tr_iload_n dX12_readEvent_126 rfl ?_
          refine q_iastX dX12_readEvent_127 (kR55 hS213.1 ta219) (ti_in (nR55 hS213.1 ta219) (by omega) (by omega)) hS213 ta219 (by rfl) (hS213.1.putH (m := a1) ta1 d220 (by rw [c216]; exact Int.le_of_eq (ti_nat (by omega)).symm) (by omega)) ?_
          intro I225 hS226 e227 f228
          have c229 : I225 a1 2 = v3 := (f228 _ _ (fun q => by have z := ta1; rw [q.1, ta219] at z; exact absurd z (by decide))).trans c216
          have c230 : I225 a0 9 = v199 := (f228 _ _ (fun q => by have z := ta0; rw [q.1, ta219] at z; exact absurd z (by decide))).trans c217
          have c231 : I225 a206 v3.toNatClampNeg = x1 := (f228 _ _ (fun q => by have z := ta206; rw [q.1, ta219] at z; exact absurd z (by decide))).trans e214
          have w232 : RdI a0 I0 I225 := w218.keep (f228 _ _ (fun q => by have z := ta0; rw [q.1, ta219] at z; exact absurd z (by decide))) (f228 _ _ (fun q => by have z := ta0; rw [q.1, ta219] at z; exact absurd z (by decide))) (f228 _ _ (fun q => by have z := ta0; rw [q.1, ta219] at z; exact absurd z (by decide)))
          refine tr_aload_n dX12_readEvent_128 rfl ?_
          refine tr_getR dX12_readEvent_129 fl12_188 (kR15 hS226.1 ta0) d2 ?_
          obtain ⟨a233, d234, ta233⟩ := rf14_13 hW0 ta1
          refine tr_getR dX12_readEvent_132 fl12_280 (kR14 hS226.1 ta1) d234 ?_
          refine tr_iload dX12_readEvent_135 rfl ?_
          refine tr_iload_n dX12_readEvent_137 rfl ?_
          refine q_iast dX12_readEvent_138 (kR56 hS226.1 ta233) (ti_in (nR56 hS226.1 ta233) (by omega) (by omega)) hS226 ta233 (by show (0 : Int) ≤ v172.toInt ∧ v172.toInt ≤ (240 : Int); omega) rfl (by rfl) ?_
          intro I235 hS236 e238 f237
          have c239 : I235 a1 2 = v3 := (f237 _ _ (fun q => by have z := ta1; rw [q.1, ta233] at z; exact absurd z (by decide))).trans c229
          have c240 : I235 a0 9 = v199 := (f237 _ _ (fun q => by have z := ta0; rw [q.1, ta233] at z; exact absurd z (by decide))).trans c230
          have c241 : I235 a206 v3.toNatClampNeg = x1 := (f237 _ _ (fun q => by have z := ta206; rw [q.1, ta233] at z; exact absurd z (by decide))).trans c231
          have c242 : I235 a219 v3.toNatClampNeg = v157 := (f237 _ _ (fun q => by have z := ta219; rw [q.1, ta233] at z; exact absurd z (by decide))).trans e227
          have w243 : RdI a0 I0 I235 := w232.keep (f237 _ _ (fun q => by have z := ta0; rw [q.1, ta233] at z; exact absurd z (by decide))) (f237 _ _ (fun q => by have z := ta0; rw [q.1, ta233] at z; exact absurd z (by decide))) (f237 _ _ (fun q => by have z := ta0; rw [q.1, ta233] at z; exact absurd z (by decide)))
          refine tr_aload_n dX12_readEvent_139 rfl ?_
          refine tr_getR dX12_readEvent_140 fl12_188 (kR15 hS236.1 ta0) d2 ?_
          obtain ⟨a244, d245, ta244⟩ := rf14_14 hW0 ta1
          refine tr_getR dX12_readEvent_143 fl12_283 (kR14 hS236.1 ta1) d245 ?_
          refine tr_iload dX12_readEvent_146 rfl ?_
          refine tr_iload dX12_readEvent_148 rfl ?_
          refine q_iast dX12_readEvent_150 (kR57 hS236.1 ta244) (ti_in (nR57 hS236.1 ta244) (by omega) (by omega)) hS236 ta244 (by show (0 : Int) ≤ v191.toInt ∧ v191.toInt ≤ (240 : Int); omega) rfl (by rfl) ?_
          intro I246 hS247 e249 f248
          have c250 : I246 a1 2 = v3 := (f248 _ _ (fun q => by have z := ta1; rw [q.1, ta244] at z; exact absurd z (by decide))).trans c239
          have c251 : I246 a0 9 = v199 := (f248 _ _ (fun q => by have z := ta0; rw [q.1, ta244] at z; exact absurd z (by decide))).trans c240
          have c252 : I246 a206 v3.toNatClampNeg = x1 := (f248 _ _ (fun q => by have z := ta206; rw [q.1, ta244] at z; exact absurd z (by decide))).trans c241
          have c253 : I246 a219 v3.toNatClampNeg = v157 := (f248 _ _ (fun q => by have z := ta219; rw [q.1, ta244] at z; exact absurd z (by decide))).trans c242
          have w254 : RdI a0 I0 I246 := w243.keep (f248 _ _ (fun q => by have z := ta0; rw [q.1, ta244] at z; exact absurd z (by decide))) (f248 _ _ (fun q => by have z := ta0; rw [q.1, ta244] at z; exact absurd z (by decide))) (f248 _ _ (fun q => by have z := ta0; rw [q.1, ta244] at z; exact absurd z (by decide)))
          refine tr_aload_n dX12_readEvent_151 rfl ?_
          refine tr_getR dX12_readEvent_152 fl12_188 (kR15 hS247.1 ta0) d2 ?_
          refine tr_dup dX12_readEvent_155 rfl ?_
          refine q_getI dX12_readEvent_156 fl12_265 (kR14 hS247.1 ta1) c250 ?_
          refine q_iconst dX12_readEvent_159 (by decide) ?_
          intro v255 h256
          refine q_iaddE dX12_readEvent_160 (by intros; omega) ?_
          intro v257 h258
          refine q_putX dX12_readEvent_161 fl12_265 (kR14 hS247.1 ta1) (Or.inl rfl) hS247 ta1 (by decide +kernel) (hS247.1.putE (i := v3.toNatClampNeg) ta1 d207 d220 (by rw [c250]; exact (ti_nat (by omega)).symm) (by rw [c250]; omega) (by omega) (by rw [c252, c253]; omega)) ?_
          intro I259 hS260 e261 f262
          have c263 : I259 a0 9 = v199 := (f262 _ _ (fun q => absurd q.2 (by decide))).trans c251
          have c264 : I259 a206 v3.toNatClampNeg = x1 := (f262 _ _ (fun q => by have z := ta206; rw [q.1, ta1] at z; exact absurd z (by decide))).trans c252
          have c265 : I259 a219 v3.toNatClampNeg = v157 := (f262 _ _ (fun q => by have z := ta219; rw [q.1, ta1] at z; exact absurd z (by decide))).trans c253
          have w266 : RdI a0 I0 I259 := w254.keep (f262 _ _ (fun q => absurd q.2 (by decide))) (f262 _ _ (fun q => absurd q.2 (by decide))) (f262 _ _ (fun q => absurd q.2 (by decide)))
          exact tr_vret hZ dX12_readEvent_164 rfl (by decide) (by decide) ⟨rfl, rfl, rfl, rfl, rfl, hS260, w266, trivial⟩
        · skip
          exact tr_vret hZ dX12_readEvent_96 rfl (by decide) (by decide) ⟨rfl, rfl, rfl, rfl, rfl, hS194, w196, trivial⟩
      · skip
        refine tr_iload_n dX12_readEvent_63 rfl ?_
        refine q_iconst dX12_readEvent_64 (by decide) ?_
        intro v267 h268
        refine q_iaddE dX12_readEvent_65 (by intros; omega) ?_
        intro v269 h270
        refine tr_goto 86 dX12_readEvent_66 (by decide) ?_
        refine tr_istore dX12_readEvent_86 (by decide) (by decide) ?_
        refine tr_aload_n dX12_readEvent_88 rfl ?_
        obtain ⟨v271, c272⟩ : ∃ v, I168 a0 9 = v := ⟨_, rfl⟩
        have b273 := iv15_9 hS175.1 ta0 c272
        refine q_getI dX12_readEvent_89 fl12_99 (kR15 hS175.1 ta0) c272 ?_
        refine q_iconst dX12_readEvent_92 (by decide) ?_
        intro v274 h275
        refine q_icmp_ne 97 dX12_readEvent_93 (by decide) (fun h276 => ?_) (fun h276 => ?_)
        · skip
          have p277 := gd178 (by rw [c272]; omega)
          clear gd178
          refine tr_aload_n dX12_readEvent_97 rfl ?_
          refine tr_getR dX12_readEvent_98 fl12_188 (kR15 hS175.1 ta0) d2 ?_
          refine q_getI dX12_readEvent_101 fl12_265 (kR14 hS175.1 ta1) c176 ?_
          refine tr_istore dX12_readEvent_104 (by decide) (by decide) ?_
          refine tr_aload_n dX12_readEvent_106 rfl ?_
          refine tr_getR dX12_readEvent_107 fl12_188 (kR15 hS175.1 ta0) d2 ?_
          obtain ⟨a278, d279, ta278⟩ := rf14_11 hW0 ta1
          refine tr_getR dX12_readEvent_110 fl12_274 (kR14 hS175.1 ta1) d279 ?_
          refine tr_iload dX12_readEvent_113 rfl ?_
          refine tr_iload_n dX12_readEvent_115 rfl ?_
          refine q_iastX dX12_readEvent_116 (kR54 hS175.1 ta278) (ti_in (nR54 hS175.1 ta278) (by omega) (by omega)) hS175 ta278 (by rfl) (hS175.1.putK (m := a1) ta1 d279 (by rw [c176]; exact Int.le_of_eq (ti_nat (by omega)).symm)) ?_
          intro I284 hS285 e286 f287
          have c288 : I284 a1 2 = v3 := (f287 _ _ (fun q => by have z := ta1; rw [q.1, ta278] at z; exact absurd z (by decide))).trans c176
          have c289 : I284 a0 9 = v271 := (f287 _ _ (fun q => by have z := ta0; rw [q.1, ta278] at z; exact absurd z (by decide))).trans c272
          have w290 : RdI a0 I0 I284 := w177.keep (f287 _ _ (fun q => by have z := ta0; rw [q.1, ta278] at z; exact absurd z (by decide))) (f287 _ _ (fun q => by have z := ta0; rw [q.1, ta278] at z; exact absurd z (by decide))) (f287 _ _ (fun q => by have z := ta0; rw [q.1, ta278] at z; exact absurd z (by decide)))
          refine tr_aload_n dX12_readEvent_117 rfl ?_
          refine tr_getR dX12_readEvent_118 fl12_188 (kR15 hS285.1 ta0) d2 ?_
          obtain ⟨a291, d292, ta291⟩ := rf14_12 hW0 ta1
          refine tr_getR dX12_readEvent_121 fl12_277 (kR14 hS285.1 ta1) d292 ?_
          refine tr_iload dX12_readEvent_124 rfl ?_
          refine tr_iload_n dX12_readEvent_126 rfl ?_
          refine q_iastX dX12_readEvent_127 (kR55 hS285.1 ta291) (ti_in (nR55 hS285.1 ta291) (by omega) (by omega)) hS285 ta291 (by rfl) (hS285.1.putH (m := a1) ta1 d292 (by rw [c288]; exact Int.le_of_eq (ti_nat (by omega)).symm) (by omega)) ?_
          intro I297 hS298 e299 f300
          have c301 : I297 a1 2 = v3 := (f300 _ _ (fun q => by have z := ta1; rw [q.1, ta291] at z; exact absurd z (by decide))).trans c288
          have c302 : I297 a0 9 = v271 := (f300 _ _ (fun q => by have z := ta0; rw [q.1, ta291] at z; exact absurd z (by decide))).trans c289
          have c303 : I297 a278 v3.toNatClampNeg = x1 := (f300 _ _ (fun q => by have z := ta278; rw [q.1, ta291] at z; exact absurd z (by decide))).trans e286
          have w304 : RdI a0 I0 I297 := w290.keep (f300 _ _ (fun q => by have z := ta0; rw [q.1, ta291] at z; exact absurd z (by decide))) (f300 _ _ (fun q => by have z := ta0; rw [q.1, ta291] at z; exact absurd z (by decide))) (f300 _ _ (fun q => by have z := ta0; rw [q.1, ta291] at z; exact absurd z (by decide)))
          refine tr_aload_n dX12_readEvent_128 rfl ?_
          refine tr_getR dX12_readEvent_129 fl12_188 (kR15 hS298.1 ta0) d2 ?_
          obtain ⟨a305, d306, ta305⟩ := rf14_13 hW0 ta1
          refine tr_getR dX12_readEvent_132 fl12_280 (kR14 hS298.1 ta1) d306 ?_
          refine tr_iload dX12_readEvent_135 rfl ?_
          refine tr_iload_n dX12_readEvent_137 rfl ?_
          refine q_iast dX12_readEvent_138 (kR56 hS298.1 ta305) (ti_in (nR56 hS298.1 ta305) (by omega) (by omega)) hS298 ta305 (by show (0 : Int) ≤ v172.toInt ∧ v172.toInt ≤ (240 : Int); omega) rfl (by rfl) ?_
          intro I307 hS308 e310 f309
          have c311 : I307 a1 2 = v3 := (f309 _ _ (fun q => by have z := ta1; rw [q.1, ta305] at z; exact absurd z (by decide))).trans c301
          have c312 : I307 a0 9 = v271 := (f309 _ _ (fun q => by have z := ta0; rw [q.1, ta305] at z; exact absurd z (by decide))).trans c302
          have c313 : I307 a278 v3.toNatClampNeg = x1 := (f309 _ _ (fun q => by have z := ta278; rw [q.1, ta305] at z; exact absurd z (by decide))).trans c303
          have c314 : I307 a291 v3.toNatClampNeg = v157 := (f309 _ _ (fun q => by have z := ta291; rw [q.1, ta305] at z; exact absurd z (by decide))).trans e299
          have w315 : RdI a0 I0 I307 := w304.keep (f309 _ _ (fun q => by have z := ta0; rw [q.1, ta305] at z; exact absurd z (by decide))) (f309 _ _ (fun q => by have z := ta0; rw [q.1, ta305] at z; exact absurd z (by decide))) (f309 _ _ (fun q => by have z := ta0; rw [q.1, ta305] at z; exact absurd z (by decide)))
          refine tr_aload_n dX12_readEvent_139 rfl ?_
          refine tr_getR dX12_readEvent_140 fl12_188 (kR15 hS308.1 ta0) d2 ?_
          obtain ⟨a316, d317, ta316⟩ := rf14_14 hW0 ta1
          refine tr_getR dX12_readEvent_143 fl12_283 (kR14 hS308.1 ta1) d317 ?_
          refine tr_iload dX12_readEvent_146 rfl ?_
          refine tr_iload dX12_readEvent_148 rfl ?_
          refine q_iast dX12_readEvent_150 (kR57 hS308.1 ta316) (ti_in (nR57 hS308.1 ta316) (by omega) (by omega)) hS308 ta316 (by show (0 : Int) ≤ v269.toInt ∧ v269.toInt ≤ (240 : Int); omega) rfl (by rfl) ?_
          intro I318 hS319 e321 f320
          have c322 : I318 a1 2 = v3 := (f320 _ _ (fun q => by have z := ta1; rw [q.1, ta316] at z; exact absurd z (by decide))).trans c311
          have c323 : I318 a0 9 = v271 := (f320 _ _ (fun q => by have z := ta0; rw [q.1, ta316] at z; exact absurd z (by decide))).trans c312
          have c324 : I318 a278 v3.toNatClampNeg = x1 := (f320 _ _ (fun q => by have z := ta278; rw [q.1, ta316] at z; exact absurd z (by decide))).trans c313
          have c325 : I318 a291 v3.toNatClampNeg = v157 := (f320 _ _ (fun q => by have z := ta291; rw [q.1, ta316] at z; exact absurd z (by decide))).trans c314
          have w326 : RdI a0 I0 I318 := w315.keep (f320 _ _ (fun q => by have z := ta0; rw [q.1, ta316] at z; exact absurd z (by decide))) (f320 _ _ (fun q => by have z := ta0; rw [q.1, ta316] at z; exact absurd z (by decide))) (f320 _ _ (fun q => by have z := ta0; rw [q.1, ta316] at z; exact absurd z (by decide)))
          refine tr_aload_n dX12_readEvent_151 rfl ?_
          refine tr_getR dX12_readEvent_152 fl12_188 (kR15 hS319.1 ta0) d2 ?_
          refine tr_dup dX12_readEvent_155 rfl ?_
          refine q_getI dX12_readEvent_156 fl12_265 (kR14 hS319.1 ta1) c322 ?_
          refine q_iconst dX12_readEvent_159 (by decide) ?_
          intro v327 h328
          refine q_iaddE dX12_readEvent_160 (by intros; omega) ?_
          intro v329 h330
          refine q_putX dX12_readEvent_161 fl12_265 (kR14 hS319.1 ta1) (Or.inl rfl) hS319 ta1 (by decide +kernel) (hS319.1.putE (i := v3.toNatClampNeg) ta1 d279 d292 (by rw [c322]; exact (ti_nat (by omega)).symm) (by rw [c322]; omega) (by omega) (by rw [c324, c325]; omega)) ?_
          intro I331 hS332 e333 f334
          have c335 : I331 a0 9 = v271 := (f334 _ _ (fun q => absurd q.2 (by decide))).trans c323
          have c336 : I331 a278 v3.toNatClampNeg = x1 := (f334 _ _ (fun q => by have z := ta278; rw [q.1, ta1] at z; exact absurd z (by decide))).trans c324
          have c337 : I331 a291 v3.toNatClampNeg = v157 := (f334 _ _ (fun q => by have z := ta291; rw [q.1, ta1] at z; exact absurd z (by decide))).trans c325
          have w338 : RdI a0 I0 I331 := w326.keep (f334 _ _ (fun q => absurd q.2 (by decide))) (f334 _ _ (fun q => absurd q.2 (by decide))) (f334 _ _ (fun q => absurd q.2 (by decide)))
          exact tr_vret hZ dX12_readEvent_164 rfl (by decide) (by decide) ⟨rfl, rfl, rfl, rfl, rfl, hS332, w338, trivial⟩
        · skip
          exact tr_vret hZ dX12_readEvent_96 rfl (by decide) (by decide) ⟨rfl, rfl, rfl, rfl, rfl, hS175, w177, trivial⟩
    · skip
      refine tr_aload_n dX12_readEvent_23 rfl ?_
      refine q_iconst dX12_readEvent_24 (by decide) ?_
      intro v339 h340
      refine tr_aload_n dX12_readEvent_25 rfl ?_
      refine tr_getR dX12_readEvent_26 fl12_188 (kR15 hS15.1 ta0) d2 ?_
      obtain ⟨v341, c342⟩ : ∃ v, I0 a1 1 = v := ⟨_, rfl⟩
      have b343 := iv14_1 hW0 ta1 c342
      refine q_getI dX12_readEvent_29 fl12_263 (kR14 hS15.1 ta1) ((hS15.cell ta1 (by decide +kernel)).trans c342) ?_
      refine q_iconst dX12_readEvent_32 (by decide) ?_
      intro v344 h345
      refine q_isubE dX12_readEvent_33 (by intros; omega) ?_
      intro v346 h347
      refine q_callVi hE (M' := mX12_readWhole) (as := [_, _]) dX12_readEvent_34 lk12_161 inX12_readWhole seX12_readWhole myX12_readWhole (by decide) ⟨by decide, by decide⟩ rfl (kR15 hS15.1 ta0) (Nat.le_of_ble_eq_true rfl) rfl rfl (by decide) (by decide) (k_X12_readWhole hS15.1 ta0) ?_
      rintro v352 cn' K' N' I348 R349 L350 ⟨rfl, rfl, rfl, rfl, g351, p353, w354, -⟩
      have hS355 := hS15.tr g351 (by decide +kernel) (by decide +kernel)
      have c356 : I348 a1 2 = v3 := (g351.cell ta1 (by decide +kernel)).trans c16
      have w357 : RdI a0 I0 I348 := w17.rd w354
      have gd358 := Gd.go gd21 w354.stick
      have b359 : 0 ≤ v352.toInt ∧ v352.toInt ≤ 3 := by omega
      clear p353
      refine tr_goto 42 dX12_readEvent_37 (by decide) ?_
      refine tr_istore_n dX12_readEvent_42 (by decide) (by decide) ?_
      refine tr_aload_n dX12_readEvent_43 rfl ?_
      refine q_iconst dX12_readEvent_44 (by decide) ?_
      intro v360 h361
      refine tr_aload_n dX12_readEvent_45 rfl ?_
      refine tr_getR dX12_readEvent_46 fl12_188 (kR15 hS355.1 ta0) d2 ?_
      obtain ⟨v362, c363⟩ : ∃ v, I0 a1 0 = v := ⟨_, rfl⟩
      have b364 := iv14_0 hW0 ta1 c363
      refine q_getI dX12_readEvent_49 fl12_192 (kR14 hS355.1 ta1) ((hS355.cell ta1 (by decide +kernel)).trans c363) ?_
      refine q_iconst dX12_readEvent_52 (by decide) ?_
      intro v365 h366
      refine q_isubE dX12_readEvent_53 (by intros; omega) ?_
      intro v367 h368
      refine q_callVi hE (M' := mX12_readWhole) (as := [_, _]) dX12_readEvent_54 lk12_161 inX12_readWhole seX12_readWhole myX12_readWhole (by decide) ⟨by decide, by decide⟩ rfl (kR15 hS355.1 ta0) (Nat.le_of_ble_eq_true rfl) rfl rfl (by decide) (by decide) (k_X12_readWhole hS355.1 ta0) ?_
      rintro v373 cn' K' N' I369 R370 L371 ⟨rfl, rfl, rfl, rfl, g372, p374, w375, -⟩
      have hS376 := hS355.tr g372 (by decide +kernel) (by decide +kernel)
      have c377 : I369 a1 2 = v3 := (g372.cell ta1 (by decide +kernel)).trans c356
      have w378 : RdI a0 I0 I369 := w357.rd w375
      have gd379 := Gd.go gd358 w375.stick
      have b380 : 0 ≤ v373.toInt ∧ v373.toInt ≤ 239 := by omega
      clear p374
      refine tr_istore_n dX12_readEvent_57 (by decide) (by decide) ?_
      refine tr_iload_n dX12_readEvent_58 rfl ?_
      refine q_iconst dX12_readEvent_59 (by decide) ?_
      intro v381 h382
      refine q_icmp_ne 69 dX12_readEvent_60 (by decide) (fun h383 => ?_) (fun h383 => ?_)
      · skip
        refine tr_aload_n dX12_readEvent_69 rfl ?_
        refine tr_ldcwS dX12_readEvent_70 ld12_272 ?_
        refine tr_iload_n dX12_readEvent_73 rfl ?_
        refine q_iconst dX12_readEvent_74 (by decide) ?_
        intro v384 h385
        refine q_iaddE dX12_readEvent_75 (by intros; omega) ?_
        intro v386 h387
        refine tr_aload_n dX12_readEvent_76 rfl ?_
        refine tr_getR dX12_readEvent_77 fl12_188 (kR15 hS376.1 ta0) d2 ?_
        refine q_getI dX12_readEvent_80 fl12_192 (kR14 hS376.1 ta1) ((hS376.cell ta1 (by decide +kernel)).trans c363) ?_
        refine q_callVi hE (M' := mX12_readPart) (as := [_, _, _]) dX12_readEvent_83 lk12_249 inX12_readPart seX12_readPart myX12_readPart (by decide) ⟨by decide, by decide⟩ rfl (kR15 hS376.1 ta0) (Nat.le_of_ble_eq_true rfl) rfl rfl (by decide) (by decide) (k_X12_readPart hS376.1 ta0 (by decide)) ?_
        rintro v392 cn' K' N' I388 R389 L390 ⟨rfl, rfl, rfl, rfl, g391, p393, w394, -⟩
        have hS395 := hS376.tr g391 (by decide +kernel) (by decide +kernel)
        have c396 : I388 a1 2 = v3 := (g391.cell ta1 (by decide +kernel)).trans c377
        have w397 : RdI a0 I0 I388 := w378.rd w394
        have gd398 := Gd.go gd379 w394.stick
        have b399 : 1 ≤ v392.toInt ∧ v392.toInt ≤ 240 := by omega
        clear p393
        refine tr_istore dX12_readEvent_86 (by decide) (by decide) ?_
        refine tr_aload_n dX12_readEvent_88 rfl ?_
        obtain ⟨v400, c401⟩ : ∃ v, I388 a0 9 = v := ⟨_, rfl⟩
        have b402 := iv15_9 hS395.1 ta0 c401
        refine q_getI dX12_readEvent_89 fl12_99 (kR15 hS395.1 ta0) c401 ?_
        refine q_iconst dX12_readEvent_92 (by decide) ?_
        intro v403 h404
        refine q_icmp_ne 97 dX12_readEvent_93 (by decide) (fun h405 => ?_) (fun h405 => ?_)
        · skip
          have p406 := gd398 (by rw [c401]; omega)
          clear gd398
          refine tr_aload_n dX12_readEvent_97 rfl ?_
          refine tr_getR dX12_readEvent_98 fl12_188 (kR15 hS395.1 ta0) d2 ?_
          refine q_getI dX12_readEvent_101 fl12_265 (kR14 hS395.1 ta1) c396 ?_
          refine tr_istore dX12_readEvent_104 (by decide) (by decide) ?_
          refine tr_aload_n dX12_readEvent_106 rfl ?_
          refine tr_getR dX12_readEvent_107 fl12_188 (kR15 hS395.1 ta0) d2 ?_
          obtain ⟨a407, d408, ta407⟩ := rf14_11 hW0 ta1
          refine tr_getR dX12_readEvent_110 fl12_274 (kR14 hS395.1 ta1) d408 ?_
          refine tr_iload dX12_readEvent_113 rfl ?_
          refine tr_iload_n dX12_readEvent_115 rfl ?_
          refine q_iastX dX12_readEvent_116 (kR54 hS395.1 ta407) (ti_in (nR54 hS395.1 ta407) (by omega) (by omega)) hS395 ta407 (by rfl) (hS395.1.putK (m := a1) ta1 d408 (by rw [c396]; exact Int.le_of_eq (ti_nat (by omega)).symm)) ?_
          intro I413 hS414 e415 f416
          have c417 : I413 a1 2 = v3 := (f416 _ _ (fun q => by have z := ta1; rw [q.1, ta407] at z; exact absurd z (by decide))).trans c396
          have c418 : I413 a0 9 = v400 := (f416 _ _ (fun q => by have z := ta0; rw [q.1, ta407] at z; exact absurd z (by decide))).trans c401
          have w419 : RdI a0 I0 I413 := w397.keep (f416 _ _ (fun q => by have z := ta0; rw [q.1, ta407] at z; exact absurd z (by decide))) (f416 _ _ (fun q => by have z := ta0; rw [q.1, ta407] at z; exact absurd z (by decide))) (f416 _ _ (fun q => by have z := ta0; rw [q.1, ta407] at z; exact absurd z (by decide)))
          refine tr_aload_n dX12_readEvent_117 rfl ?_
          refine tr_getR dX12_readEvent_118 fl12_188 (kR15 hS414.1 ta0) d2 ?_
          obtain ⟨a420, d421, ta420⟩ := rf14_12 hW0 ta1
          refine tr_getR dX12_readEvent_121 fl12_277 (kR14 hS414.1 ta1) d421 ?_
          refine tr_iload dX12_readEvent_124 rfl ?_
          refine tr_iload_n dX12_readEvent_126 rfl ?_
          refine q_iastX dX12_readEvent_127 (kR55 hS414.1 ta420) (ti_in (nR55 hS414.1 ta420) (by omega) (by omega)) hS414 ta420 (by rfl) (hS414.1.putH (m := a1) ta1 d421 (by rw [c417]; exact Int.le_of_eq (ti_nat (by omega)).symm) (by omega)) ?_
          intro I426 hS427 e428 f429
          have c430 : I426 a1 2 = v3 := (f429 _ _ (fun q => by have z := ta1; rw [q.1, ta420] at z; exact absurd z (by decide))).trans c417
          have c431 : I426 a0 9 = v400 := (f429 _ _ (fun q => by have z := ta0; rw [q.1, ta420] at z; exact absurd z (by decide))).trans c418
          have c432 : I426 a407 v3.toNatClampNeg = x1 := (f429 _ _ (fun q => by have z := ta407; rw [q.1, ta420] at z; exact absurd z (by decide))).trans e415
          have w433 : RdI a0 I0 I426 := w419.keep (f429 _ _ (fun q => by have z := ta0; rw [q.1, ta420] at z; exact absurd z (by decide))) (f429 _ _ (fun q => by have z := ta0; rw [q.1, ta420] at z; exact absurd z (by decide))) (f429 _ _ (fun q => by have z := ta0; rw [q.1, ta420] at z; exact absurd z (by decide)))
          refine tr_aload_n dX12_readEvent_128 rfl ?_
          refine tr_getR dX12_readEvent_129 fl12_188 (kR15 hS427.1 ta0) d2 ?_
          obtain ⟨a434, d435, ta434⟩ := rf14_13 hW0 ta1
          refine tr_getR dX12_readEvent_132 fl12_280 (kR14 hS427.1 ta1) d435 ?_
          refine tr_iload dX12_readEvent_135 rfl ?_
          refine tr_iload_n dX12_readEvent_137 rfl ?_
          refine q_iast dX12_readEvent_138 (kR56 hS427.1 ta434) (ti_in (nR56 hS427.1 ta434) (by omega) (by omega)) hS427 ta434 (by show (0 : Int) ≤ v373.toInt ∧ v373.toInt ≤ (240 : Int); omega) rfl (by rfl) ?_
          intro I436 hS437 e439 f438
          have c440 : I436 a1 2 = v3 := (f438 _ _ (fun q => by have z := ta1; rw [q.1, ta434] at z; exact absurd z (by decide))).trans c430
          have c441 : I436 a0 9 = v400 := (f438 _ _ (fun q => by have z := ta0; rw [q.1, ta434] at z; exact absurd z (by decide))).trans c431
          have c442 : I436 a407 v3.toNatClampNeg = x1 := (f438 _ _ (fun q => by have z := ta407; rw [q.1, ta434] at z; exact absurd z (by decide))).trans c432
          have c443 : I436 a420 v3.toNatClampNeg = v352 := (f438 _ _ (fun q => by have z := ta420; rw [q.1, ta434] at z; exact absurd z (by decide))).trans e428
          have w444 : RdI a0 I0 I436 := w433.keep (f438 _ _ (fun q => by have z := ta0; rw [q.1, ta434] at z; exact absurd z (by decide))) (f438 _ _ (fun q => by have z := ta0; rw [q.1, ta434] at z; exact absurd z (by decide))) (f438 _ _ (fun q => by have z := ta0; rw [q.1, ta434] at z; exact absurd z (by decide)))
          refine tr_aload_n dX12_readEvent_139 rfl ?_
          refine tr_getR dX12_readEvent_140 fl12_188 (kR15 hS437.1 ta0) d2 ?_
          obtain ⟨a445, d446, ta445⟩ := rf14_14 hW0 ta1
          refine tr_getR dX12_readEvent_143 fl12_283 (kR14 hS437.1 ta1) d446 ?_
          refine tr_iload dX12_readEvent_146 rfl ?_
          refine tr_iload dX12_readEvent_148 rfl ?_
          refine q_iast dX12_readEvent_150 (kR57 hS437.1 ta445) (ti_in (nR57 hS437.1 ta445) (by omega) (by omega)) hS437 ta445 (by show (0 : Int) ≤ v392.toInt ∧ v392.toInt ≤ (240 : Int); omega) rfl (by rfl) ?_
          intro I447 hS448 e450 f449
          have c451 : I447 a1 2 = v3 := (f449 _ _ (fun q => by have z := ta1; rw [q.1, ta445] at z; exact absurd z (by decide))).trans c440
          have c452 : I447 a0 9 = v400 := (f449 _ _ (fun q => by have z := ta0; rw [q.1, ta445] at z; exact absurd z (by decide))).trans c441
          have c453 : I447 a407 v3.toNatClampNeg = x1 := (f449 _ _ (fun q => by have z := ta407; rw [q.1, ta445] at z; exact absurd z (by decide))).trans c442
          have c454 : I447 a420 v3.toNatClampNeg = v352 := (f449 _ _ (fun q => by have z := ta420; rw [q.1, ta445] at z; exact absurd z (by decide))).trans c443
          have w455 : RdI a0 I0 I447 := w444.keep (f449 _ _ (fun q => by have z := ta0; rw [q.1, ta445] at z; exact absurd z (by decide))) (f449 _ _ (fun q => by have z := ta0; rw [q.1, ta445] at z; exact absurd z (by decide))) (f449 _ _ (fun q => by have z := ta0; rw [q.1, ta445] at z; exact absurd z (by decide)))
          refine tr_aload_n dX12_readEvent_151 rfl ?_
          refine tr_getR dX12_readEvent_152 fl12_188 (kR15 hS448.1 ta0) d2 ?_
          refine tr_dup dX12_readEvent_155 rfl ?_
          refine q_getI dX12_readEvent_156 fl12_265 (kR14 hS448.1 ta1) c451 ?_
          refine q_iconst dX12_readEvent_159 (by decide) ?_
          intro v456 h457
          refine q_iaddE dX12_readEvent_160 (by intros; omega) ?_
          intro v458 h459
          refine q_putX dX12_readEvent_161 fl12_265 (kR14 hS448.1 ta1) (Or.inl rfl) hS448 ta1 (by decide +kernel) (hS448.1.putE (i := v3.toNatClampNeg) ta1 d408 d421 (by rw [c451]; exact (ti_nat (by omega)).symm) (by rw [c451]; omega) (by omega) (by rw [c453, c454]; omega)) ?_
          intro I460 hS461 e462 f463
          have c464 : I460 a0 9 = v400 := (f463 _ _ (fun q => absurd q.2 (by decide))).trans c452
          have c465 : I460 a407 v3.toNatClampNeg = x1 := (f463 _ _ (fun q => by have z := ta407; rw [q.1, ta1] at z; exact absurd z (by decide))).trans c453
          have c466 : I460 a420 v3.toNatClampNeg = v352 := (f463 _ _ (fun q => by have z := ta420; rw [q.1, ta1] at z; exact absurd z (by decide))).trans c454
          have w467 : RdI a0 I0 I460 := w455.keep (f463 _ _ (fun q => absurd q.2 (by decide))) (f463 _ _ (fun q => absurd q.2 (by decide))) (f463 _ _ (fun q => absurd q.2 (by decide)))
          exact tr_vret hZ dX12_readEvent_164 rfl (by decide) (by decide) ⟨rfl, rfl, rfl, rfl, rfl, hS461, w467, trivial⟩
        · skip
          exact tr_vret hZ dX12_readEvent_96 rfl (by decide) (by decide) ⟨rfl, rfl, rfl, rfl, rfl, hS395, w397, trivial⟩
      · skip
        exfalso; omega
def wi_X12_needsSign : List Nat := [968, 969, 970, 971, 972, 973, 974]
def wr_X12_needsSign : List Nat := []
set_option maxHeartbeats 4000000 in
theorem k_X12_needsSign {l : Launch} {T : Nat → Nat} {cn : Nat} {K N : Nat → Nat} {I0 : cz_I} {R0 : cz_R} {L0 : cz_L} {d : Int} (hW0 : Wf T cn K N I0 R0 d) {a0 : Nat} (ta0 : T a0 = 15) {x1 : Int32} : ConE l mX12_needsSign [.ref a0, .int x1] cn K N I0 R0 L0 (ca_v (fun cn' K' N' I' R' L' => cn = cn' ∧ K = K' ∧ N = N' ∧ R0 = R' ∧ St T cn K N d wi_X12_needsSign wr_X12_needsSign I0 R0 I' R0 ∧ RdI a0 I0 I' ∧ True)) := by
  refine ConE.of (by decide +kernel) rfl (Nat.le_of_ble_eq_true rfl) rfl (fun X hX hZ hE => ?_)
  subst hX
  have hS0 : St T cn K N d wi_X12_needsSign wr_X12_needsSign I0 R0 I0 R0 := St.rf0 hW0
  refine tr_aload_n dX12_needsSign_0 rfl ?_
  obtain ⟨v1, c2⟩ : ∃ v, I0 a0 9 = v := ⟨_, rfl⟩
  have b3 := iv15_9 hS0.1 ta0 c2
  refine q_getI dX12_needsSign_1 fl12_99 (kR15 hS0.1 ta0) c2 ?_
  refine q_iconst dX12_needsSign_4 (by decide) ?_
  intro v4 h5
  refine q_icmp_ne 16 dX12_needsSign_5 (by decide) (fun h6 => ?_) (fun h6 => ?_)
  · skip
    refine tr_aload_n dX12_needsSign_16 rfl ?_
    refine q_iconst dX12_needsSign_17 (by decide) ?_
    intro v7 h8
    obtain ⟨v9, c10⟩ : ∃ v, I0 a0 8 = v := ⟨_, rfl⟩
    have b11 := iv15_8 hS0.1 ta0 c10
    refine q_callVv hE (M' := mX12_flaw) (as := [_]) dX12_needsSign_18 lk12_145 inX12_flaw seX12_flaw myX12_flaw (by decide) ⟨by decide, by decide⟩ rfl (kR15 hS0.1 ta0) (Nat.le_of_ble_eq_true rfl) rfl rfl (by decide) (by decide) (k_X12_flaw hS0.1 ta0 (by omega)) ?_
    rintro cn' K' N' I12 R13 L14 ⟨rfl, rfl, rfl, rfl, rfl, g15, p17, p18, w19, -⟩
    have hS20 := hS0.tr g15 (by decide +kernel) (by decide +kernel)
    have c21 : I12 a0 8 = v9 := (g15.cell ta0 (by decide +kernel)).trans c10
    have w22 : RdI a0 I0 I12 := (EwI.rf a0 I0).rd w19
    obtain ⟨v23, c24⟩ : ∃ v, I12 a0 9 = v := ⟨_, rfl⟩
    have b25 := iv15_9 hS20.1 ta0 c24
    rw [c24] at p17
    rw [c21] at p18
    rw [c10] at p18
    refine tr_aload_n dX12_needsSign_21 rfl ?_
    obtain ⟨v26, c27⟩ : ∃ v, I12 a0 13 = v := ⟨_, rfl⟩
    refine q_callVv hE (M' := mX12_goesOn) (as := []) dX12_needsSign_22 lk12_142 inX12_goesOn seX12_goesOn myX12_goesOn (by decide) ⟨by decide, by decide⟩ rfl (kR15 hS20.1 ta0) (Nat.le_of_ble_eq_true rfl) rfl rfl (by decide) (by decide) (k_X12_goesOn hS20.1 ta0) ?_
    rintro cn' K' N' I28 R29 L30 ⟨rfl, rfl, rfl, rfl, g31, p33, p34, w35, -⟩
    have hS36 := hS20.tr g31 (by decide +kernel) (by decide +kernel)
    have c37 : I28 a0 13 = v26 := (g31.cell ta0 (by decide +kernel)).trans c27
    have w38 : RdI a0 I0 I28 := w22.rd w35
    obtain ⟨v39, c40⟩ : ∃ v, I28 a0 9 = v := ⟨_, rfl⟩
    have b41 := iv15_9 hS36.1 ta0 c40
    rw [c24] at p33
    rw [c40] at p33
    obtain ⟨v42, c43⟩ : ∃ v, I28 a0 8 = v := ⟨_, rfl⟩
    have b44 := iv15_8 hS36.1 ta0 c43
    rw [c43] at p34
    rw [c21] at p34
    rw [c37] at p34
    rw [c27] at p34
    exact tr_vret hZ dX12_needsSign_25 rfl (by decide) (by decide) ⟨rfl, rfl, rfl, rfl, rfl, hS36, w38, trivial⟩
  · skip
    refine tr_aload_n dX12_needsSign_8 rfl ?_
    obtain ⟨v45, c46⟩ : ∃ v, I0 a0 11 = v := ⟨_, rfl⟩
    refine q_getI dX12_needsSign_9 fl12_111 (kR15 hS0.1 ta0) c46 ?_
    refine tr_iload_n dX12_needsSign_12 rfl ?_
    refine q_icmp_eq 21 dX12_needsSign_13 (by decide) (fun h47 => ?_) (fun h47 => ?_)
    · skip
      refine tr_aload_n dX12_needsSign_21 rfl ?_
      obtain ⟨v48, c49⟩ : ∃ v, I0 a0 8 = v := ⟨_, rfl⟩
      have b50 := iv15_8 hS0.1 ta0 c49
      obtain ⟨v51, c52⟩ : ∃ v, I0 a0 13 = v := ⟨_, rfl⟩
      refine q_callVv hE (M' := mX12_goesOn) (as := []) dX12_needsSign_22 lk12_142 inX12_goesOn seX12_goesOn myX12_goesOn (by decide) ⟨by decide, by decide⟩ rfl (kR15 hS0.1 ta0) (Nat.le_of_ble_eq_true rfl) rfl rfl (by decide) (by decide) (k_X12_goesOn hS0.1 ta0) ?_
      rintro cn' K' N' I53 R54 L55 ⟨rfl, rfl, rfl, rfl, g56, p58, p59, w60, -⟩
      have hS61 := hS0.tr g56 (by decide +kernel) (by decide +kernel)
      have c62 : I53 a0 13 = v51 := (g56.cell ta0 (by decide +kernel)).trans c52
      have w63 : RdI a0 I0 I53 := (EwI.rf a0 I0).rd w60
      obtain ⟨v64, c65⟩ : ∃ v, I53 a0 9 = v := ⟨_, rfl⟩
      have b66 := iv15_9 hS61.1 ta0 c65
      rw [c2] at p58
      rw [c65] at p58
      obtain ⟨v67, c68⟩ : ∃ v, I53 a0 8 = v := ⟨_, rfl⟩
      have b69 := iv15_8 hS61.1 ta0 c68
      rw [c68] at p59
      rw [c49] at p59
      rw [c62] at p59
      rw [c52] at p59
      exact tr_vret hZ dX12_needsSign_25 rfl (by decide) (by decide) ⟨rfl, rfl, rfl, rfl, rfl, hS61, w63, trivial⟩
    · skip
      refine tr_aload_n dX12_needsSign_16 rfl ?_
      refine q_iconst dX12_needsSign_17 (by decide) ?_
      intro v70 h71
      obtain ⟨v72, c73⟩ : ∃ v, I0 a0 8 = v := ⟨_, rfl⟩
      have b74 := iv15_8 hS0.1 ta0 c73
      refine q_callVv hE (M' := mX12_flaw) (as := [_]) dX12_needsSign_18 lk12_145 inX12_flaw seX12_flaw myX12_flaw (by decide) ⟨by decide, by decide⟩ rfl (kR15 hS0.1 ta0) (Nat.le_of_ble_eq_true rfl) rfl rfl (by decide) (by decide) (k_X12_flaw hS0.1 ta0 (by omega)) ?_
      rintro cn' K' N' I75 R76 L77 ⟨rfl, rfl, rfl, rfl, rfl, g78, p80, p81, w82, -⟩
      have hS83 := hS0.tr g78 (by decide +kernel) (by decide +kernel)
      have c84 : I75 a0 11 = v45 := (g78.cell ta0 (by decide +kernel)).trans c46
      have c85 : I75 a0 8 = v72 := (g78.cell ta0 (by decide +kernel)).trans c73
      have w86 : RdI a0 I0 I75 := (EwI.rf a0 I0).rd w82
      obtain ⟨v87, c88⟩ : ∃ v, I75 a0 9 = v := ⟨_, rfl⟩
      have b89 := iv15_9 hS83.1 ta0 c88
      rw [c88] at p80
      rw [c85] at p81
      rw [c73] at p81
      refine tr_aload_n dX12_needsSign_21 rfl ?_
      obtain ⟨v90, c91⟩ : ∃ v, I75 a0 13 = v := ⟨_, rfl⟩
      refine q_callVv hE (M' := mX12_goesOn) (as := []) dX12_needsSign_22 lk12_142 inX12_goesOn seX12_goesOn myX12_goesOn (by decide) ⟨by decide, by decide⟩ rfl (kR15 hS83.1 ta0) (Nat.le_of_ble_eq_true rfl) rfl rfl (by decide) (by decide) (k_X12_goesOn hS83.1 ta0) ?_
      rintro cn' K' N' I92 R93 L94 ⟨rfl, rfl, rfl, rfl, g95, p97, p98, w99, -⟩
      have hS100 := hS83.tr g95 (by decide +kernel) (by decide +kernel)
      have c101 : I92 a0 13 = v90 := (g95.cell ta0 (by decide +kernel)).trans c91
      have w102 : RdI a0 I0 I92 := w86.rd w99
      obtain ⟨v103, c104⟩ : ∃ v, I92 a0 9 = v := ⟨_, rfl⟩
      have b105 := iv15_9 hS100.1 ta0 c104
      rw [c88] at p97
      rw [c104] at p97
      obtain ⟨v106, c107⟩ : ∃ v, I92 a0 8 = v := ⟨_, rfl⟩
      have b108 := iv15_8 hS100.1 ta0 c107
      rw [c107] at p98
      rw [c85] at p98
      rw [c101] at p98
      rw [c91] at p98
      exact tr_vret hZ dX12_needsSign_25 rfl (by decide) (by decide) ⟨rfl, rfl, rfl, rfl, rfl, hS100, w102, trivial⟩
def wi_X12_readAlp : List Nat := [896, 897, 968, 969, 970, 971, 972, 973, 974, 3455]
def wr_X12_readAlp : List Nat := []
set_option maxHeartbeats 4000000 in
theorem k_X12_readAlp {l : Launch} {T : Nat → Nat} {cn : Nat} {K N : Nat → Nat} {I0 : cz_I} {R0 : cz_R} {L0 : cz_L} {d : Int} (hW0 : Wf T cn K N I0 R0 d) {a0 : Nat} (ta0 : T a0 = 15) (nn4 : ∃ b, R0 a0 4 = some b) : ConE l mX12_readAlp [.ref a0] cn K N I0 R0 L0 (ca_v (fun cn' K' N' I' R' L' => cn = cn' ∧ K = K' ∧ N = N' ∧ R0 = R' ∧ St T cn K N d wi_X12_readAlp wr_X12_readAlp I0 R0 I' R0 ∧ RdI a0 I0 I' ∧ True)) := by
  refine ConE.of (by decide +kernel) rfl (Nat.le_of_ble_eq_true rfl) rfl (fun X hX hZ hE => ?_)
  subst hX
  have hS0 : St T cn K N d wi_X12_readAlp wr_X12_readAlp I0 R0 I0 R0 := St.rf0 hW0
  obtain ⟨a1, d2⟩ := nn4
  have ta1 : T a1 = 14 := hW0.rsN ta0 rfl d2
  refine tr_aload_n dX12_readAlp_0 rfl ?_
  refine tr_getR dX12_readAlp_1 fl12_188 (kR15 hS0.1 ta0) d2 ?_
  obtain ⟨v3, c4⟩ : ∃ v, I0 a1 0 = v := ⟨_, rfl⟩
  have b5 := iv14_0 hS0.1 ta1 c4
  refine q_getI dX12_readAlp_4 fl12_192 (kR14 hS0.1 ta1) c4 ?_
  refine q_if_le 15 dX12_readAlp_7 (by decide) (fun h6 => ?_) (fun h6 => ?_)
  · skip
    refine tr_aload_n dX12_readAlp_15 rfl ?_
    obtain ⟨v7, c8⟩ : ∃ v, I0 a0 9 = v := ⟨_, rfl⟩
    have b9 := iv15_9 hS0.1 ta0 c8
    obtain ⟨v10, c11⟩ : ∃ v, I0 a0 8 = v := ⟨_, rfl⟩
    have b12 := iv15_8 hS0.1 ta0 c11
    obtain ⟨v13, c14⟩ : ∃ v, I0 a0 13 = v := ⟨_, rfl⟩
    refine q_callVv hE (M' := mX12_goesOn) (as := []) dX12_readAlp_16 lk12_142 inX12_goesOn seX12_goesOn myX12_goesOn (by decide) ⟨by decide, by decide⟩ rfl (kR15 hS0.1 ta0) (Nat.le_of_ble_eq_true rfl) rfl rfl (by decide) (by decide) (k_X12_goesOn hS0.1 ta0) ?_
    rintro cn' K' N' I15 R16 L17 ⟨rfl, rfl, rfl, rfl, g18, p20, p21, w22, -⟩
    have hS23 := hS0.tr g18 (by decide +kernel) (by decide +kernel)
    have c24 : I15 a1 0 = v3 := (g18.cell ta1 (by decide +kernel)).trans c4
    have c25 : I15 a0 13 = v13 := (g18.cell ta0 (by decide +kernel)).trans c14
    have w26 : RdI a0 I0 I15 := (EwI.rf a0 I0).rd w22
    obtain ⟨v27, c28⟩ : ∃ v, I15 a0 9 = v := ⟨_, rfl⟩
    have b29 := iv15_9 hS23.1 ta0 c28
    rw [c8] at p20
    rw [c28] at p20
    obtain ⟨v30, c31⟩ : ∃ v, I15 a0 8 = v := ⟨_, rfl⟩
    have b32 := iv15_8 hS23.1 ta0 c31
    rw [c31] at p21
    rw [c11] at p21
    rw [c25] at p21
    rw [c14] at p21
    refine tr_aload_n dX12_readAlp_19 rfl ?_
    refine tr_ldcS dX12_readAlp_20 ld12_248 ?_
    refine q_bipush dX12_readAlp_22 (by decide +kernel) ?_
    intro v33 h34
    refine q_sipush dX12_readAlp_24 (by decide +kernel) ?_
    intro v35 h36
    refine q_callVi hE (M' := mX12_readPart) (as := [_, _, _]) dX12_readAlp_27 lk12_249 inX12_readPart seX12_readPart myX12_readPart (by decide) ⟨by decide, by decide⟩ rfl (kR15 hS23.1 ta0) (Nat.le_of_ble_eq_true rfl) rfl rfl (by decide) (by decide) (k_X12_readPart hS23.1 ta0 (by decide)) ?_
    rintro v41 cn' K' N' I37 R38 L39 ⟨rfl, rfl, rfl, rfl, g40, p42, w43, -⟩
    have hS44 := hS23.tr g40 (by decide +kernel) (by decide +kernel)
    have c45 : I37 a1 0 = v3 := (g40.cell ta1 (by decide +kernel)).trans c24
    have w46 : RdI a0 I0 I37 := w26.rd w43
    have b47 : 10 ≤ v41.toInt ∧ v41.toInt ≤ 240 := by omega
    clear p42
    refine tr_istore_n dX12_readAlp_30 (by decide) (by decide) ?_
    refine tr_aload_n dX12_readAlp_31 rfl ?_
    refine tr_ldcS dX12_readAlp_32 ld12_253 ?_
    refine q_iconst dX12_readAlp_34 (by decide) ?_
    intro v48 h49
    refine q_iconst dX12_readAlp_35 (by decide) ?_
    intro v50 h51
    refine q_callVi hE (M' := mX12_readPart) (as := [_, _, _]) dX12_readAlp_36 lk12_249 inX12_readPart seX12_readPart myX12_readPart (by decide) ⟨by decide, by decide⟩ rfl (kR15 hS44.1 ta0) (Nat.le_of_ble_eq_true rfl) rfl rfl (by decide) (by decide) (k_X12_readPart hS44.1 ta0 (by decide)) ?_
    rintro v56 cn' K' N' I52 R53 L54 ⟨rfl, rfl, rfl, rfl, g55, p57, w58, -⟩
    have hS59 := hS44.tr g55 (by decide +kernel) (by decide +kernel)
    have c60 : I52 a1 0 = v3 := (g55.cell ta1 (by decide +kernel)).trans c45
    have w61 : RdI a0 I0 I52 := w46.rd w58
    have b62 : 1 ≤ v56.toInt ∧ v56.toInt ≤ 4 := by omega
    clear p57
    refine tr_istore_n dX12_readAlp_39 (by decide) (by decide) ?_
    refine tr_aload_n dX12_readAlp_40 rfl ?_
    refine tr_ldcS dX12_readAlp_41 ld12_255 ?_
    refine q_callVv hE (M' := mX12_needs) (as := [_]) dX12_readAlp_43 lk12_157 inX12_needs seX12_needs myX12_needs (by decide) ⟨by decide, by decide⟩ rfl (kR15 hS59.1 ta0) (Nat.le_of_ble_eq_true rfl) rfl rfl (by decide) (by decide) (k_X12_needs hS59.1 ta0 (by decide)) ?_
    rintro cn' K' N' I63 R64 L65 ⟨rfl, rfl, rfl, rfl, g66, w68, -⟩
    have hS69 := hS59.tr g66 (by decide +kernel) (by decide +kernel)
    have c70 : I63 a1 0 = v3 := (g66.cell ta1 (by decide +kernel)).trans c60
    have w71 : RdI a0 I0 I63 := w61.rd w68
    refine q_iconst dX12_readAlp_46 (by decide) ?_
    intro v72 h73
    refine tr_istore_n dX12_readAlp_47 (by decide) (by decide) ?_
    have lp84 : ∀ (fu : Nat) (ls : Nat → Option Value) (v74 : Int32) (I79 : cz_I) (L80 : cz_L), ls 0 = some (.ref a0) → ls 1 = some (.int v41) → ls 2 = some (.int v56) → ls 3 = some (.int v74) → St T cn K N d wi_X12_readAlp wr_X12_readAlp I0 R0 I79 R0 → RdI a0 I0 I79 → 0 ≤ v74.toInt → (-v74.toInt + 2147483647).toNat < fu → Tr X mX12_readAlp 48 ls [] cn K N I79 R0 L80 0 0 := by
      intro fu
      induction fu with
      | zero => intros; rename_i hz; exact absurd hz (Nat.not_lt_zero _)
      | succ fu ih84 =>
        intro ls v74 I79 L80 hl75 hl76 hl77 hl78 hS81 w82 g83 hm84
        refine tr_iload_n dX12_readAlp_48 hl78 ?_
        refine q_iconst dX12_readAlp_49 (by decide) ?_
        intro v86 h87
        refine q_icmp_ge 85 dX12_readAlp_50 (by decide) (fun h88 => ?_) (fun h88 => ?_)
        · skip
          refine tr_aload_n dX12_readAlp_85 hl75 ?_
          obtain ⟨v89, c90⟩ : ∃ v, I79 a0 9 = v := ⟨_, rfl⟩
          have b91 := iv15_9 hS81.1 ta0 c90
          refine q_getI dX12_readAlp_86 fl12_99 (kR15 hS81.1 ta0) c90 ?_
          refine q_iconst dX12_readAlp_89 (by decide) ?_
          intro v92 h93
          refine q_icmp_ne 94 dX12_readAlp_90 (by decide) (fun h94 => ?_) (fun h94 => ?_)
          · skip
            refine tr_aload_n dX12_readAlp_94 hl75 ?_
            refine tr_getR dX12_readAlp_95 fl12_188 (kR15 hS81.1 ta0) d2 ?_
            refine tr_iload_n dX12_readAlp_98 hl76 ?_
            refine q_putX dX12_readAlp_99 fl12_192 (kR14 hS81.1 ta1) (Or.inl rfl) hS81 ta1 (by decide +kernel) (hS81.1.putM ta1 (by omega)) ?_
            intro I95 hS96 e97 f98
            have c99 : I95 a0 9 = v89 := (f98 _ _ (fun q => absurd q.2 (by decide))).trans c90
            have w100 : RdI a0 I0 I95 := w82.keep (f98 _ _ (fun q => absurd q.2 (by decide))) (f98 _ _ (fun q => absurd q.2 (by decide))) (f98 _ _ (fun q => absurd q.2 (by decide)))
            have w101 : EwI a0 I79 I95 := (EwI.rf a0 I79).keep (f98 _ _ (fun q => absurd q.2 (by decide))) (f98 _ _ (fun q => absurd q.2 (by decide))) (f98 _ _ (fun q => absurd q.2 (by decide)))
            refine tr_aload_n dX12_readAlp_102 hl75 ?_
            refine tr_getR dX12_readAlp_103 fl12_188 (kR15 hS96.1 ta0) d2 ?_
            refine tr_iload_n dX12_readAlp_106 hl77 ?_
            refine q_putI dX12_readAlp_107 fl12_263 (kR14 hS96.1 ta1) (Or.inl rfl) hS96 ta1 (by show (0 : Int) ≤ v56.toInt ∧ v56.toInt ≤ (4 : Int); omega) rfl (by decide +kernel) ?_
            intro I102 hS103 e104 f105
            have c106 : I102 a0 9 = v89 := (f105 _ _ (fun q => absurd q.2 (by decide))).trans c99
            have c107 : I102 a1 0 = v41 := (f105 _ _ (fun q => absurd q.2 (by decide))).trans e97
            have w108 : RdI a0 I0 I102 := w100.keep (f105 _ _ (fun q => absurd q.2 (by decide))) (f105 _ _ (fun q => absurd q.2 (by decide))) (f105 _ _ (fun q => absurd q.2 (by decide)))
            have w109 : EwI a0 I79 I102 := w101.keep (f105 _ _ (fun q => absurd q.2 (by decide))) (f105 _ _ (fun q => absurd q.2 (by decide))) (f105 _ _ (fun q => absurd q.2 (by decide)))
            exact tr_vret hZ dX12_readAlp_110 rfl (by decide) (by decide) ⟨rfl, rfl, rfl, rfl, rfl, hS103, w108, trivial⟩
          · skip
            exact tr_vret hZ dX12_readAlp_93 rfl (by decide) (by decide) ⟨rfl, rfl, rfl, rfl, rfl, hS81, w82, trivial⟩
        · skip
          refine tr_iload_n dX12_readAlp_53 hl78 ?_
          refine q_if_le 63 dX12_readAlp_54 (by decide) (fun h110 => ?_) (fun h110 => ?_)
          · skip
            refine tr_aload_n dX12_readAlp_63 hl75 ?_
            refine tr_getR dX12_readAlp_64 fl12_188 (kR15 hS81.1 ta0) d2 ?_
            obtain ⟨a111, d112, ta111⟩ := rf14_10 hW0 ta1
            refine tr_getR dX12_readAlp_67 fl12_260 (kR14 hS81.1 ta1) d112 ?_
            refine tr_iload_n dX12_readAlp_70 hl78 ?_
            refine tr_aload_n dX12_readAlp_71 hl75 ?_
            refine q_iconst dX12_readAlp_72 (by decide) ?_
            intro v113 h114
            refine q_bipush dX12_readAlp_73 (by decide +kernel) ?_
            intro v115 h116
            refine q_callVi hE (M' := mX12_readWhole) (as := [_, _]) dX12_readAlp_75 lk12_161 inX12_readWhole seX12_readWhole myX12_readWhole (by decide) ⟨by decide, by decide⟩ rfl (kR15 hS81.1 ta0) (Nat.le_of_ble_eq_true rfl) rfl rfl (by decide) (by decide) (k_X12_readWhole hS81.1 ta0) ?_
            rintro v121 cn' K' N' I117 R118 L119 ⟨rfl, rfl, rfl, rfl, g120, p122, w123, -⟩
            have hS124 := hS81.tr g120 (by decide +kernel) (by decide +kernel)
            have w125 : RdI a0 I0 I117 := w82.rd w123
            have w126 : RdI a0 I79 I117 := (EwI.rf a0 I79).rd w123
            have b127 : 0 ≤ v121.toInt ∧ v121.toInt ≤ 99 := by omega
            clear p122
            refine q_iast dX12_readAlp_78 (kR53 hS124.1 ta111) (ti_in (nR53 hS124.1 ta111) (by omega) (by omega)) hS124 ta111 (iokF rfl) rfl (by rfl) ?_
            intro I128 hS129 e131 f130
            have w132 : RdI a0 I0 I128 := w125.keep (f130 _ _ (fun q => by have z := ta0; rw [q.1, ta111] at z; exact absurd z (by decide))) (f130 _ _ (fun q => by have z := ta0; rw [q.1, ta111] at z; exact absurd z (by decide))) (f130 _ _ (fun q => by have z := ta0; rw [q.1, ta111] at z; exact absurd z (by decide)))
            have w133 : RdI a0 I79 I128 := w126.keep (f130 _ _ (fun q => by have z := ta0; rw [q.1, ta111] at z; exact absurd z (by decide))) (f130 _ _ (fun q => by have z := ta0; rw [q.1, ta111] at z; exact absurd z (by decide))) (f130 _ _ (fun q => by have z := ta0; rw [q.1, ta111] at z; exact absurd z (by decide)))
            refine q_iincE dX12_readAlp_79 hl78 (by decide) (by decide) (by intros; omega) ?_
            intro v134 h135
            refine tr_goto 48 dX12_readAlp_82 (by decide) ?_
            exact ih84 _ v134 I128 L119 hl75 hl76 hl77 rfl hS129 w132 (by omega) (by omega)
          · skip
            refine tr_aload_n dX12_readAlp_57 hl75 ?_
            refine q_bipush dX12_readAlp_58 (by decide +kernel) ?_
            intro v136 h137
            refine q_callVv hE (M' := mX12_needsSign) (as := [_]) dX12_readAlp_60 lk12_257 inX12_needsSign seX12_needsSign myX12_needsSign (by decide) ⟨by decide, by decide⟩ rfl (kR15 hS81.1 ta0) (Nat.le_of_ble_eq_true rfl) rfl rfl (by decide) (by decide) (k_X12_needsSign hS81.1 ta0) ?_
            rintro cn' K' N' I138 R139 L140 ⟨rfl, rfl, rfl, rfl, g141, w143, -⟩
            have hS144 := hS81.tr g141 (by decide +kernel) (by decide +kernel)
            have w145 : RdI a0 I0 I138 := w82.rd w143
            have w146 : RdI a0 I79 I138 := (EwI.rf a0 I79).rd w143
            refine tr_aload_n dX12_readAlp_63 hl75 ?_
            refine tr_getR dX12_readAlp_64 fl12_188 (kR15 hS144.1 ta0) d2 ?_
            obtain ⟨a147, d148, ta147⟩ := rf14_10 hW0 ta1
            refine tr_getR dX12_readAlp_67 fl12_260 (kR14 hS144.1 ta1) d148 ?_
            refine tr_iload_n dX12_readAlp_70 hl78 ?_
            refine tr_aload_n dX12_readAlp_71 hl75 ?_
            refine q_iconst dX12_readAlp_72 (by decide) ?_
            intro v149 h150
            refine q_bipush dX12_readAlp_73 (by decide +kernel) ?_
            intro v151 h152
            refine q_callVi hE (M' := mX12_readWhole) (as := [_, _]) dX12_readAlp_75 lk12_161 inX12_readWhole seX12_readWhole myX12_readWhole (by decide) ⟨by decide, by decide⟩ rfl (kR15 hS144.1 ta0) (Nat.le_of_ble_eq_true rfl) rfl rfl (by decide) (by decide) (k_X12_readWhole hS144.1 ta0) ?_
            rintro v157 cn' K' N' I153 R154 L155 ⟨rfl, rfl, rfl, rfl, g156, p158, w159, -⟩
            have hS160 := hS144.tr g156 (by decide +kernel) (by decide +kernel)
            have w161 : RdI a0 I0 I153 := w145.rd w159
            have w162 : RdI a0 I79 I153 := w146.rd w159
            have b163 : 0 ≤ v157.toInt ∧ v157.toInt ≤ 99 := by omega
            clear p158
            refine q_iast dX12_readAlp_78 (kR53 hS160.1 ta147) (ti_in (nR53 hS160.1 ta147) (by omega) (by omega)) hS160 ta147 (iokF rfl) rfl (by rfl) ?_
            intro I164 hS165 e167 f166
            have w168 : RdI a0 I0 I164 := w161.keep (f166 _ _ (fun q => by have z := ta0; rw [q.1, ta147] at z; exact absurd z (by decide))) (f166 _ _ (fun q => by have z := ta0; rw [q.1, ta147] at z; exact absurd z (by decide))) (f166 _ _ (fun q => by have z := ta0; rw [q.1, ta147] at z; exact absurd z (by decide)))
            have w169 : RdI a0 I79 I164 := w162.keep (f166 _ _ (fun q => by have z := ta0; rw [q.1, ta147] at z; exact absurd z (by decide))) (f166 _ _ (fun q => by have z := ta0; rw [q.1, ta147] at z; exact absurd z (by decide))) (f166 _ _ (fun q => by have z := ta0; rw [q.1, ta147] at z; exact absurd z (by decide)))
            refine q_iincE dX12_readAlp_79 hl78 (by decide) (by decide) (by intros; omega) ?_
            intro v170 h171
            refine tr_goto 48 dX12_readAlp_82 (by decide) ?_
            exact ih84 _ v170 I164 L155 hl75 hl76 hl77 rfl hS165 w168 (by omega) (by omega)
    exact lp84 _ _ v72 I63 L65 rfl rfl rfl rfl hS69 w71 (by omega) (Nat.lt_succ_self _)
  · skip
    refine tr_aload_n dX12_readAlp_10 rfl ?_
    refine q_iconst dX12_readAlp_11 (by decide) ?_
    intro v172 h173
    obtain ⟨v174, c175⟩ : ∃ v, I0 a0 8 = v := ⟨_, rfl⟩
    have b176 := iv15_8 hS0.1 ta0 c175
    refine q_callVv hE (M' := mX12_flaw) (as := [_]) dX12_readAlp_12 lk12_145 inX12_flaw seX12_flaw myX12_flaw (by decide) ⟨by decide, by decide⟩ rfl (kR15 hS0.1 ta0) (Nat.le_of_ble_eq_true rfl) rfl rfl (by decide) (by decide) (k_X12_flaw hS0.1 ta0 (by omega)) ?_
    rintro cn' K' N' I177 R178 L179 ⟨rfl, rfl, rfl, rfl, rfl, g180, p182, p183, w184, -⟩
    have hS185 := hS0.tr g180 (by decide +kernel) (by decide +kernel)
    have c186 : I177 a1 0 = v3 := (g180.cell ta1 (by decide +kernel)).trans c4
    have c187 : I177 a0 8 = v174 := (g180.cell ta0 (by decide +kernel)).trans c175
    have w188 : RdI a0 I0 I177 := (EwI.rf a0 I0).rd w184
    obtain ⟨v189, c190⟩ : ∃ v, I177 a0 9 = v := ⟨_, rfl⟩
    have b191 := iv15_9 hS185.1 ta0 c190
    rw [c190] at p182
    rw [c187] at p183
    rw [c175] at p183
    refine tr_aload_n dX12_readAlp_15 rfl ?_
    obtain ⟨v192, c193⟩ : ∃ v, I177 a0 13 = v := ⟨_, rfl⟩
    refine q_callVv hE (M' := mX12_goesOn) (as := []) dX12_readAlp_16 lk12_142 inX12_goesOn seX12_goesOn myX12_goesOn (by decide) ⟨by decide, by decide⟩ rfl (kR15 hS185.1 ta0) (Nat.le_of_ble_eq_true rfl) rfl rfl (by decide) (by decide) (k_X12_goesOn hS185.1 ta0) ?_
    rintro cn' K' N' I194 R195 L196 ⟨rfl, rfl, rfl, rfl, g197, p199, p200, w201, -⟩
    have hS202 := hS185.tr g197 (by decide +kernel) (by decide +kernel)
    have c203 : I194 a1 0 = v3 := (g197.cell ta1 (by decide +kernel)).trans c186
    have c204 : I194 a0 13 = v192 := (g197.cell ta0 (by decide +kernel)).trans c193
    have w205 : RdI a0 I0 I194 := w188.rd w201
    obtain ⟨v206, c207⟩ : ∃ v, I194 a0 9 = v := ⟨_, rfl⟩
    have b208 := iv15_9 hS202.1 ta0 c207
    rw [c190] at p199
    rw [c207] at p199
    obtain ⟨v209, c210⟩ : ∃ v, I194 a0 8 = v := ⟨_, rfl⟩
    have b211 := iv15_8 hS202.1 ta0 c210
    rw [c210] at p200
    rw [c187] at p200
    rw [c204] at p200
    rw [c193] at p200
    refine tr_aload_n dX12_readAlp_19 rfl ?_
    refine tr_ldcS dX12_readAlp_20 ld12_248 ?_
    refine q_bipush dX12_readAlp_22 (by decide +kernel) ?_
    intro v212 h213
    refine q_sipush dX12_readAlp_24 (by decide +kernel) ?_
    intro v214 h215
    refine q_callVi hE (M' := mX12_readPart) (as := [_, _, _]) dX12_readAlp_27 lk12_249 inX12_readPart seX12_readPart myX12_readPart (by decide) ⟨by decide, by decide⟩ rfl (kR15 hS202.1 ta0) (Nat.le_of_ble_eq_true rfl) rfl rfl (by decide) (by decide) (k_X12_readPart hS202.1 ta0 (by decide)) ?_
    rintro v220 cn' K' N' I216 R217 L218 ⟨rfl, rfl, rfl, rfl, g219, p221, w222, -⟩
    have hS223 := hS202.tr g219 (by decide +kernel) (by decide +kernel)
    have c224 : I216 a1 0 = v3 := (g219.cell ta1 (by decide +kernel)).trans c203
    have w225 : RdI a0 I0 I216 := w205.rd w222
    have b226 : 10 ≤ v220.toInt ∧ v220.toInt ≤ 240 := by omega
    clear p221
    refine tr_istore_n dX12_readAlp_30 (by decide) (by decide) ?_
    refine tr_aload_n dX12_readAlp_31 rfl ?_
    refine tr_ldcS dX12_readAlp_32 ld12_253 ?_
    refine q_iconst dX12_readAlp_34 (by decide) ?_
    intro v227 h228
    refine q_iconst dX12_readAlp_35 (by decide) ?_
    intro v229 h230
    refine q_callVi hE (M' := mX12_readPart) (as := [_, _, _]) dX12_readAlp_36 lk12_249 inX12_readPart seX12_readPart myX12_readPart (by decide) ⟨by decide, by decide⟩ rfl (kR15 hS223.1 ta0) (Nat.le_of_ble_eq_true rfl) rfl rfl (by decide) (by decide) (k_X12_readPart hS223.1 ta0 (by decide)) ?_
    rintro v235 cn' K' N' I231 R232 L233 ⟨rfl, rfl, rfl, rfl, g234, p236, w237, -⟩
    have hS238 := hS223.tr g234 (by decide +kernel) (by decide +kernel)
    have c239 : I231 a1 0 = v3 := (g234.cell ta1 (by decide +kernel)).trans c224
    have w240 : RdI a0 I0 I231 := w225.rd w237
    have b241 : 1 ≤ v235.toInt ∧ v235.toInt ≤ 4 := by omega
    clear p236
    refine tr_istore_n dX12_readAlp_39 (by decide) (by decide) ?_
    refine tr_aload_n dX12_readAlp_40 rfl ?_
    refine tr_ldcS dX12_readAlp_41 ld12_255 ?_
    refine q_callVv hE (M' := mX12_needs) (as := [_]) dX12_readAlp_43 lk12_157 inX12_needs seX12_needs myX12_needs (by decide) ⟨by decide, by decide⟩ rfl (kR15 hS238.1 ta0) (Nat.le_of_ble_eq_true rfl) rfl rfl (by decide) (by decide) (k_X12_needs hS238.1 ta0 (by decide)) ?_
    rintro cn' K' N' I242 R243 L244 ⟨rfl, rfl, rfl, rfl, g245, w247, -⟩
    have hS248 := hS238.tr g245 (by decide +kernel) (by decide +kernel)
    have c249 : I242 a1 0 = v3 := (g245.cell ta1 (by decide +kernel)).trans c239
    have w250 : RdI a0 I0 I242 := w240.rd w247
    refine q_iconst dX12_readAlp_46 (by decide) ?_
    intro v251 h252
    refine tr_istore_n dX12_readAlp_47 (by decide) (by decide) ?_
    have lp263 : ∀ (fu : Nat) (ls : Nat → Option Value) (v253 : Int32) (I258 : cz_I) (L259 : cz_L), ls 0 = some (.ref a0) → ls 1 = some (.int v220) → ls 2 = some (.int v235) → ls 3 = some (.int v253) → St T cn K N d wi_X12_readAlp wr_X12_readAlp I0 R0 I258 R0 → RdI a0 I0 I258 → 0 ≤ v253.toInt → (-v253.toInt + 2147483647).toNat < fu → Tr X mX12_readAlp 48 ls [] cn K N I258 R0 L259 0 0 := by
      intro fu
      induction fu with
      | zero => intros; rename_i hz; exact absurd hz (Nat.not_lt_zero _)
      | succ fu ih263 =>
        intro ls v253 I258 L259 hl254 hl255 hl256 hl257 hS260 w261 g262 hm263
        refine tr_iload_n dX12_readAlp_48 hl257 ?_
        refine q_iconst dX12_readAlp_49 (by decide) ?_
        intro v265 h266
        refine q_icmp_ge 85 dX12_readAlp_50 (by decide) (fun h267 => ?_) (fun h267 => ?_)
        · skip
          refine tr_aload_n dX12_readAlp_85 hl254 ?_
          obtain ⟨v268, c269⟩ : ∃ v, I258 a0 9 = v := ⟨_, rfl⟩
          have b270 := iv15_9 hS260.1 ta0 c269
          refine q_getI dX12_readAlp_86 fl12_99 (kR15 hS260.1 ta0) c269 ?_
          refine q_iconst dX12_readAlp_89 (by decide) ?_
          intro v271 h272
          refine q_icmp_ne 94 dX12_readAlp_90 (by decide) (fun h273 => ?_) (fun h273 => ?_)
          · skip
            refine tr_aload_n dX12_readAlp_94 hl254 ?_
            refine tr_getR dX12_readAlp_95 fl12_188 (kR15 hS260.1 ta0) d2 ?_
            refine tr_iload_n dX12_readAlp_98 hl255 ?_
            refine q_putX dX12_readAlp_99 fl12_192 (kR14 hS260.1 ta1) (Or.inl rfl) hS260 ta1 (by decide +kernel) (hS260.1.putM ta1 (by omega)) ?_
            intro I274 hS275 e276 f277
            have c278 : I274 a0 9 = v268 := (f277 _ _ (fun q => absurd q.2 (by decide))).trans c269
            have w279 : RdI a0 I0 I274 := w261.keep (f277 _ _ (fun q => absurd q.2 (by decide))) (f277 _ _ (fun q => absurd q.2 (by decide))) (f277 _ _ (fun q => absurd q.2 (by decide)))
            have w280 : EwI a0 I258 I274 := (EwI.rf a0 I258).keep (f277 _ _ (fun q => absurd q.2 (by decide))) (f277 _ _ (fun q => absurd q.2 (by decide))) (f277 _ _ (fun q => absurd q.2 (by decide)))
            refine tr_aload_n dX12_readAlp_102 hl254 ?_
            refine tr_getR dX12_readAlp_103 fl12_188 (kR15 hS275.1 ta0) d2 ?_
            refine tr_iload_n dX12_readAlp_106 hl256 ?_
            refine q_putI dX12_readAlp_107 fl12_263 (kR14 hS275.1 ta1) (Or.inl rfl) hS275 ta1 (by show (0 : Int) ≤ v235.toInt ∧ v235.toInt ≤ (4 : Int); omega) rfl (by decide +kernel) ?_
            intro I281 hS282 e283 f284
            have c285 : I281 a0 9 = v268 := (f284 _ _ (fun q => absurd q.2 (by decide))).trans c278
            have c286 : I281 a1 0 = v220 := (f284 _ _ (fun q => absurd q.2 (by decide))).trans e276
            have w287 : RdI a0 I0 I281 := w279.keep (f284 _ _ (fun q => absurd q.2 (by decide))) (f284 _ _ (fun q => absurd q.2 (by decide))) (f284 _ _ (fun q => absurd q.2 (by decide)))
            have w288 : EwI a0 I258 I281 := w280.keep (f284 _ _ (fun q => absurd q.2 (by decide))) (f284 _ _ (fun q => absurd q.2 (by decide))) (f284 _ _ (fun q => absurd q.2 (by decide)))
            exact tr_vret hZ dX12_readAlp_110 rfl (by decide) (by decide) ⟨rfl, rfl, rfl, rfl, rfl, hS282, w287, trivial⟩
          · skip
            exact tr_vret hZ dX12_readAlp_93 rfl (by decide) (by decide) ⟨rfl, rfl, rfl, rfl, rfl, hS260, w261, trivial⟩
        · skip
          refine tr_iload_n dX12_readAlp_53 hl257 ?_
          refine q_if_le 63 dX12_readAlp_54 (by decide) (fun h289 => ?_) (fun h289 => ?_)
          · skip
            refine tr_aload_n dX12_readAlp_63 hl254 ?_
            refine tr_getR dX12_readAlp_64 fl12_188 (kR15 hS260.1 ta0) d2 ?_
            obtain ⟨a290, d291, ta290⟩ := rf14_10 hW0 ta1
            refine tr_getR dX12_readAlp_67 fl12_260 (kR14 hS260.1 ta1) d291 ?_
            refine tr_iload_n dX12_readAlp_70 hl257 ?_
            refine tr_aload_n dX12_readAlp_71 hl254 ?_
            refine q_iconst dX12_readAlp_72 (by decide) ?_
            intro v292 h293
            refine q_bipush dX12_readAlp_73 (by decide +kernel) ?_
            intro v294 h295
            refine q_callVi hE (M' := mX12_readWhole) (as := [_, _]) dX12_readAlp_75 lk12_161 inX12_readWhole seX12_readWhole myX12_readWhole (by decide) ⟨by decide, by decide⟩ rfl (kR15 hS260.1 ta0) (Nat.le_of_ble_eq_true rfl) rfl rfl (by decide) (by decide) (k_X12_readWhole hS260.1 ta0) ?_
            rintro v300 cn' K' N' I296 R297 L298 ⟨rfl, rfl, rfl, rfl, g299, p301, w302, -⟩
            have hS303 := hS260.tr g299 (by decide +kernel) (by decide +kernel)
            have w304 : RdI a0 I0 I296 := w261.rd w302
            have w305 : RdI a0 I258 I296 := (EwI.rf a0 I258).rd w302
            have b306 : 0 ≤ v300.toInt ∧ v300.toInt ≤ 99 := by omega
            clear p301
            refine q_iast dX12_readAlp_78 (kR53 hS303.1 ta290) (ti_in (nR53 hS303.1 ta290) (by omega) (by omega)) hS303 ta290 (iokF rfl) rfl (by rfl) ?_
            intro I307 hS308 e310 f309
            have w311 : RdI a0 I0 I307 := w304.keep (f309 _ _ (fun q => by have z := ta0; rw [q.1, ta290] at z; exact absurd z (by decide))) (f309 _ _ (fun q => by have z := ta0; rw [q.1, ta290] at z; exact absurd z (by decide))) (f309 _ _ (fun q => by have z := ta0; rw [q.1, ta290] at z; exact absurd z (by decide)))
            have w312 : RdI a0 I258 I307 := w305.keep (f309 _ _ (fun q => by have z := ta0; rw [q.1, ta290] at z; exact absurd z (by decide))) (f309 _ _ (fun q => by have z := ta0; rw [q.1, ta290] at z; exact absurd z (by decide))) (f309 _ _ (fun q => by have z := ta0; rw [q.1, ta290] at z; exact absurd z (by decide)))
            refine q_iincE dX12_readAlp_79 hl257 (by decide) (by decide) (by intros; omega) ?_
            intro v313 h314
            refine tr_goto 48 dX12_readAlp_82 (by decide) ?_
            exact ih263 _ v313 I307 L298 hl254 hl255 hl256 rfl hS308 w311 (by omega) (by omega)
          · skip
            refine tr_aload_n dX12_readAlp_57 hl254 ?_
            refine q_bipush dX12_readAlp_58 (by decide +kernel) ?_
            intro v315 h316
            refine q_callVv hE (M' := mX12_needsSign) (as := [_]) dX12_readAlp_60 lk12_257 inX12_needsSign seX12_needsSign myX12_needsSign (by decide) ⟨by decide, by decide⟩ rfl (kR15 hS260.1 ta0) (Nat.le_of_ble_eq_true rfl) rfl rfl (by decide) (by decide) (k_X12_needsSign hS260.1 ta0) ?_
            rintro cn' K' N' I317 R318 L319 ⟨rfl, rfl, rfl, rfl, g320, w322, -⟩
            have hS323 := hS260.tr g320 (by decide +kernel) (by decide +kernel)
            have w324 : RdI a0 I0 I317 := w261.rd w322
            have w325 : RdI a0 I258 I317 := (EwI.rf a0 I258).rd w322
            refine tr_aload_n dX12_readAlp_63 hl254 ?_
            refine tr_getR dX12_readAlp_64 fl12_188 (kR15 hS323.1 ta0) d2 ?_
            obtain ⟨a326, d327, ta326⟩ := rf14_10 hW0 ta1
            refine tr_getR dX12_readAlp_67 fl12_260 (kR14 hS323.1 ta1) d327 ?_
            refine tr_iload_n dX12_readAlp_70 hl257 ?_
            refine tr_aload_n dX12_readAlp_71 hl254 ?_
            refine q_iconst dX12_readAlp_72 (by decide) ?_
            intro v328 h329
            refine q_bipush dX12_readAlp_73 (by decide +kernel) ?_
            intro v330 h331
            refine q_callVi hE (M' := mX12_readWhole) (as := [_, _]) dX12_readAlp_75 lk12_161 inX12_readWhole seX12_readWhole myX12_readWhole (by decide) ⟨by decide, by decide⟩ rfl (kR15 hS323.1 ta0) (Nat.le_of_ble_eq_true rfl) rfl rfl (by decide) (by decide) (k_X12_readWhole hS323.1 ta0) ?_
            rintro v336 cn' K' N' I332 R333 L334 ⟨rfl, rfl, rfl, rfl, g335, p337, w338, -⟩
            have hS339 := hS323.tr g335 (by decide +kernel) (by decide +kernel)
            have w340 : RdI a0 I0 I332 := w324.rd w338
            have w341 : RdI a0 I258 I332 := w325.rd w338
            have b342 : 0 ≤ v336.toInt ∧ v336.toInt ≤ 99 := by omega
            clear p337
            refine q_iast dX12_readAlp_78 (kR53 hS339.1 ta326) (ti_in (nR53 hS339.1 ta326) (by omega) (by omega)) hS339 ta326 (iokF rfl) rfl (by rfl) ?_
            intro I343 hS344 e346 f345
            have w347 : RdI a0 I0 I343 := w340.keep (f345 _ _ (fun q => by have z := ta0; rw [q.1, ta326] at z; exact absurd z (by decide))) (f345 _ _ (fun q => by have z := ta0; rw [q.1, ta326] at z; exact absurd z (by decide))) (f345 _ _ (fun q => by have z := ta0; rw [q.1, ta326] at z; exact absurd z (by decide)))
            have w348 : RdI a0 I258 I343 := w341.keep (f345 _ _ (fun q => by have z := ta0; rw [q.1, ta326] at z; exact absurd z (by decide))) (f345 _ _ (fun q => by have z := ta0; rw [q.1, ta326] at z; exact absurd z (by decide))) (f345 _ _ (fun q => by have z := ta0; rw [q.1, ta326] at z; exact absurd z (by decide)))
            refine q_iincE dX12_readAlp_79 hl257 (by decide) (by decide) (by intros; omega) ?_
            intro v349 h350
            refine tr_goto 48 dX12_readAlp_82 (by decide) ?_
            exact ih263 _ v349 I343 L334 hl254 hl255 hl256 rfl hS344 w347 (by omega) (by omega)
    exact lp263 _ _ v251 I242 L244 rfl rfl rfl rfl hS248 w250 (by omega) (Nat.lt_succ_self _)
def wi_X12_readLine : List Nat := [896, 897, 898, 899, 900, 901, 902, 903, 904, 905, 959, 968, 969, 970, 971, 972, 973, 974, 3455, 3519, 3583, 3647, 3711, 3775, 3903, 4031, 4095, 4159, 4223, 4287, 4351, 4415, 4479, 4543, 4607, 4671, 4799, 4863]
def wr_X12_readLine : List Nat := []
set_option maxHeartbeats 4000000 in
theorem k_X12_readLine {l : Launch} {T : Nat → Nat} {cn : Nat} {K N : Nat → Nat} {I0 : cz_I} {R0 : cz_R} {L0 : cz_L} (hW0 : Wf T cn K N I0 R0 0) {a0 : Nat} (ta0 : T a0 = 15) (nn4 : ∃ b, R0 a0 4 = some b) : ConE l mX12_readLine [.ref a0] cn K N I0 R0 L0 (ca_v (fun cn' K' N' I' R' L' => cn = cn' ∧ K = K' ∧ N = N' ∧ R0 = R' ∧ St T cn K N 0 wi_X12_readLine wr_X12_readLine I0 R0 I' R0 ∧ RdI a0 I0 I' ∧ True)) := by
  refine ConE.of (by decide +kernel) rfl (Nat.le_of_ble_eq_true rfl) rfl (fun X hX hZ hE => ?_)
  subst hX
  have hS0 : St T cn K N 0 wi_X12_readLine wr_X12_readLine I0 R0 I0 R0 := St.rf0 hW0
  obtain ⟨a1, d2⟩ := nn4
  have ta1 : T a1 = 14 := hW0.rsN ta0 rfl d2
  refine tr_aload_n dX12_readLine_0 rfl ?_
  refine tr_ldcS dX12_readLine_1 ld12_164 ?_
  obtain ⟨v3, c4⟩ : ∃ v, I0 a0 9 = v := ⟨_, rfl⟩
  have b5 := iv15_9 hS0.1 ta0 c4
  refine q_callVi hE (M' := mX12_isWord) (as := [_]) dX12_readLine_3 lk12_138 inX12_isWord seX12_isWord myX12_isWord (by decide) ⟨by decide, by decide⟩ rfl (kR15 hS0.1 ta0) (Nat.le_of_ble_eq_true rfl) rfl rfl (by decide) (by decide) (k_X12_isWord hS0.1 ta0 (by decide)) ?_
  rintro v10 cn' K' N' I6 R7 L8 ⟨rfl, rfl, rfl, rfl, rfl, rfl, h11, p12, -⟩
  rw [c4] at p12
  refine q_if_eq 16 dX12_readLine_6 (by decide) (fun h13 => ?_) (fun h13 => ?_)
  · skip
    refine tr_aload_n dX12_readLine_16 rfl ?_
    refine tr_ldcS dX12_readLine_17 ld12_166 ?_
    refine q_callVi hE (M' := mX12_isWord) (as := [_]) dX12_readLine_19 lk12_138 inX12_isWord seX12_isWord myX12_isWord (by decide) ⟨by decide, by decide⟩ rfl (kR15 hS0.1 ta0) (Nat.le_of_ble_eq_true rfl) rfl rfl (by decide) (by decide) (k_X12_isWord hS0.1 ta0 (by decide)) ?_
    rintro v18 cn' K' N' I14 R15 L16 ⟨rfl, rfl, rfl, rfl, rfl, rfl, h19, p20, -⟩
    rw [c4] at p20
    refine q_if_eq 33 dX12_readLine_22 (by decide) (fun h21 => ?_) (fun h21 => ?_)
    · skip
      refine tr_aload_n dX12_readLine_33 rfl ?_
      refine tr_ldcS dX12_readLine_34 ld12_168 ?_
      refine q_callVi hE (M' := mX12_isWord) (as := [_]) dX12_readLine_36 lk12_138 inX12_isWord seX12_isWord myX12_isWord (by decide) ⟨by decide, by decide⟩ rfl (kR15 hS0.1 ta0) (Nat.le_of_ble_eq_true rfl) rfl rfl (by decide) (by decide) (k_X12_isWord hS0.1 ta0 (by decide)) ?_
      rintro v26 cn' K' N' I22 R23 L24 ⟨rfl, rfl, rfl, rfl, rfl, rfl, h27, p28, -⟩
      rw [c4] at p28
      refine q_if_eq 50 dX12_readLine_39 (by decide) (fun h29 => ?_) (fun h29 => ?_)
      · skip
        refine tr_aload_n dX12_readLine_50 rfl ?_
        refine tr_ldcS dX12_readLine_51 ld12_170 ?_
        refine q_callVi hE (M' := mX12_isWord) (as := [_]) dX12_readLine_53 lk12_138 inX12_isWord seX12_isWord myX12_isWord (by decide) ⟨by decide, by decide⟩ rfl (kR15 hS0.1 ta0) (Nat.le_of_ble_eq_true rfl) rfl rfl (by decide) (by decide) (k_X12_isWord hS0.1 ta0 (by decide)) ?_
        rintro v34 cn' K' N' I30 R31 L32 ⟨rfl, rfl, rfl, rfl, rfl, rfl, h35, p36, -⟩
        rw [c4] at p36
        refine q_if_eq 67 dX12_readLine_56 (by decide) (fun h37 => ?_) (fun h37 => ?_)
        · skip
          refine tr_aload_n dX12_readLine_67 rfl ?_
          refine tr_ldcS dX12_readLine_68 ld12_172 ?_
          refine q_callVi hE (M' := mX12_isWord) (as := [_]) dX12_readLine_70 lk12_138 inX12_isWord seX12_isWord myX12_isWord (by decide) ⟨by decide, by decide⟩ rfl (kR15 hS0.1 ta0) (Nat.le_of_ble_eq_true rfl) rfl rfl (by decide) (by decide) (k_X12_isWord hS0.1 ta0 (by decide)) ?_
          rintro v42 cn' K' N' I38 R39 L40 ⟨rfl, rfl, rfl, rfl, rfl, rfl, h43, p44, -⟩
          rw [c4] at p44
          refine q_if_eq 84 dX12_readLine_73 (by decide) (fun h45 => ?_) (fun h45 => ?_)
          · skip
            refine tr_aload_n dX12_readLine_84 rfl ?_
            refine tr_ldcS dX12_readLine_85 ld12_174 ?_
            refine q_callVi hE (M' := mX12_isWord) (as := [_]) dX12_readLine_87 lk12_138 inX12_isWord seX12_isWord myX12_isWord (by decide) ⟨by decide, by decide⟩ rfl (kR15 hS0.1 ta0) (Nat.le_of_ble_eq_true rfl) rfl rfl (by decide) (by decide) (k_X12_isWord hS0.1 ta0 (by decide)) ?_
            rintro v50 cn' K' N' I46 R47 L48 ⟨rfl, rfl, rfl, rfl, rfl, rfl, h51, p52, -⟩
            rw [c4] at p52
            refine q_if_eq 101 dX12_readLine_90 (by decide) (fun h53 => ?_) (fun h53 => ?_)
            · skip
              refine tr_aload_n dX12_readLine_101 rfl ?_
              refine tr_ldcS dX12_readLine_102 ld12_176 ?_
              refine q_callVi hE (M' := mX12_isWord) (as := [_]) dX12_readLine_104 lk12_138 inX12_isWord seX12_isWord myX12_isWord (by decide) ⟨by decide, by decide⟩ rfl (kR15 hS0.1 ta0) (Nat.le_of_ble_eq_true rfl) rfl rfl (by decide) (by decide) (k_X12_isWord hS0.1 ta0 (by decide)) ?_
              rintro v58 cn' K' N' I54 R55 L56 ⟨rfl, rfl, rfl, rfl, rfl, rfl, h59, p60, -⟩
              rw [c4] at p60
              refine q_if_eq 117 dX12_readLine_107 (by decide) (fun h61 => ?_) (fun h61 => ?_)
              · skip
                refine tr_aload_n dX12_readLine_117 rfl ?_
                refine tr_ldcS dX12_readLine_118 ld12_178 ?_
                refine q_callVi hE (M' := mX12_isWord) (as := [_]) dX12_readLine_120 lk12_138 inX12_isWord seX12_isWord myX12_isWord (by decide) ⟨by decide, by decide⟩ rfl (kR15 hS0.1 ta0) (Nat.le_of_ble_eq_true rfl) rfl rfl (by decide) (by decide) (k_X12_isWord hS0.1 ta0 (by decide)) ?_
                rintro v66 cn' K' N' I62 R63 L64 ⟨rfl, rfl, rfl, rfl, rfl, rfl, h67, p68, -⟩
                rw [c4] at p68
                refine q_if_eq 133 dX12_readLine_123 (by decide) (fun h69 => ?_) (fun h69 => ?_)
                · skip
                  refine tr_aload_n dX12_readLine_133 rfl ?_
                  refine tr_ldcS dX12_readLine_134 ld12_180 ?_
                  refine q_callVi hE (M' := mX12_isWord) (as := [_]) dX12_readLine_136 lk12_138 inX12_isWord seX12_isWord myX12_isWord (by decide) ⟨by decide, by decide⟩ rfl (kR15 hS0.1 ta0) (Nat.le_of_ble_eq_true rfl) rfl rfl (by decide) (by decide) (k_X12_isWord hS0.1 ta0 (by decide)) ?_
                  rintro v74 cn' K' N' I70 R71 L72 ⟨rfl, rfl, rfl, rfl, rfl, rfl, h75, p76, -⟩
                  rw [c4] at p76
                  refine q_if_eq 149 dX12_readLine_139 (by decide) (fun h77 => ?_) (fun h77 => ?_)
                  · skip
                    refine tr_aload_n dX12_readLine_149 rfl ?_
                    refine tr_ldcS dX12_readLine_150 ld12_182 ?_
                    refine q_callVi hE (M' := mX12_isWord) (as := [_]) dX12_readLine_152 lk12_138 inX12_isWord seX12_isWord myX12_isWord (by decide) ⟨by decide, by decide⟩ rfl (kR15 hS0.1 ta0) (Nat.le_of_ble_eq_true rfl) rfl rfl (by decide) (by decide) (k_X12_isWord hS0.1 ta0 (by decide)) ?_
                    rintro v82 cn' K' N' I78 R79 L80 ⟨rfl, rfl, rfl, rfl, rfl, rfl, h83, p84, -⟩
                    rw [c4] at p84
                    refine q_if_eq 165 dX12_readLine_155 (by decide) (fun h85 => ?_) (fun h85 => ?_)
                    · skip
                      refine tr_aload_n dX12_readLine_165 rfl ?_
                      refine tr_ldcS dX12_readLine_166 ld12_184 ?_
                      refine q_callVi hE (M' := mX12_isWord) (as := [_]) dX12_readLine_168 lk12_138 inX12_isWord seX12_isWord myX12_isWord (by decide) ⟨by decide, by decide⟩ rfl (kR15 hS0.1 ta0) (Nat.le_of_ble_eq_true rfl) rfl rfl (by decide) (by decide) (k_X12_isWord hS0.1 ta0 (by decide)) ?_
                      rintro v90 cn' K' N' I86 R87 L88 ⟨rfl, rfl, rfl, rfl, rfl, rfl, h91, p92, -⟩
                      rw [c4] at p92
                      refine q_if_eq 181 dX12_readLine_171 (by decide) (fun h93 => ?_) (fun h93 => ?_)
                      · skip
                        refine tr_aload_n dX12_readLine_181 rfl ?_
                        refine q_iconst dX12_readLine_182 (by decide) ?_
                        intro v94 h95
                        obtain ⟨v96, c97⟩ : ∃ v, I0 a0 8 = v := ⟨_, rfl⟩
                        have b98 := iv15_8 hS0.1 ta0 c97
                        refine q_callVv hE (M' := mX12_flaw) (as := [_]) dX12_readLine_183 lk12_145 inX12_flaw seX12_flaw myX12_flaw (by decide) ⟨by decide, by decide⟩ rfl (kR15 hS0.1 ta0) (Nat.le_of_ble_eq_true rfl) rfl rfl (by decide) (by decide) (k_X12_flaw hS0.1 ta0 (by omega)) ?_
                        rintro cn' K' N' I99 R100 L101 ⟨rfl, rfl, rfl, rfl, rfl, g102, p104, p105, w106, -⟩
                        have hS107 := hS0.tr g102 (by decide +kernel) (by decide +kernel)
                        have c108 : I99 a0 8 = v96 := (g102.cell ta0 (by decide +kernel)).trans c97
                        have w109 : RdI a0 I0 I99 := (EwI.rf a0 I0).rd w106
                        obtain ⟨v110, c111⟩ : ∃ v, I99 a0 9 = v := ⟨_, rfl⟩
                        have b112 := iv15_9 hS107.1 ta0 c111
                        rw [c111] at p104
                        rw [c108] at p105
                        rw [c97] at p105
                        exact tr_vret hZ dX12_readLine_186 rfl (by decide) (by decide) ⟨rfl, rfl, rfl, rfl, rfl, hS107, w109, trivial⟩
                      · skip
                        refine tr_aload_n dX12_readLine_174 rfl ?_
                        refine q_callVv hE (M' := mX12_readSlice) (as := []) dX12_readLine_175 lk12_245 inX12_readSlice seX12_readSlice myX12_readSlice (by decide) ⟨by decide, by decide⟩ rfl (kR15 hS0.1 ta0) (Nat.le_of_ble_eq_true rfl) rfl rfl (by decide) (by decide) (k_X12_readSlice hS0.1 ta0 ⟨_, d2⟩) ?_
                        rintro cn' K' N' I113 R114 L115 ⟨rfl, rfl, rfl, rfl, g116, w118, -⟩
                        have hS119 := hS0.tr g116 (by decide +kernel) (by decide +kernel)
                        have w120 : RdI a0 I0 I113 := (EwI.rf a0 I0).rd w118
                        refine tr_goto 186 dX12_readLine_178 (by decide) ?_
                        exact tr_vret hZ dX12_readLine_186 rfl (by decide) (by decide) ⟨rfl, rfl, rfl, rfl, rfl, hS119, w120, trivial⟩
                    · skip
                      refine tr_aload_n dX12_readLine_158 rfl ?_
                      refine q_callVv hE (M' := mX12_readCall) (as := []) dX12_readLine_159 lk12_242 inX12_readCall seX12_readCall myX12_readCall (by decide) ⟨by decide, by decide⟩ rfl (kR15 hS0.1 ta0) (Nat.le_of_ble_eq_true rfl) rfl rfl (by decide) (by decide) (k_X12_readCall hS0.1 ta0 ⟨_, d2⟩) ?_
                      rintro cn' K' N' I121 R122 L123 ⟨rfl, rfl, rfl, rfl, g124, w126, -⟩
                      have hS127 := hS0.tr g124 (by decide +kernel) (by decide +kernel)
                      have w128 : RdI a0 I0 I121 := (EwI.rf a0 I0).rd w126
                      refine tr_goto 186 dX12_readLine_162 (by decide) ?_
                      exact tr_vret hZ dX12_readLine_186 rfl (by decide) (by decide) ⟨rfl, rfl, rfl, rfl, rfl, hS127, w128, trivial⟩
                  · skip
                    refine tr_aload_n dX12_readLine_142 rfl ?_
                    refine q_callVv hE (M' := mX12_readTurner) (as := []) dX12_readLine_143 lk12_239 inX12_readTurner seX12_readTurner myX12_readTurner (by decide) ⟨by decide, by decide⟩ rfl (kR15 hS0.1 ta0) (Nat.le_of_ble_eq_true rfl) rfl rfl (by decide) (by decide) (k_X12_readTurner hS0.1 ta0 ⟨_, d2⟩) ?_
                    rintro cn' K' N' I129 R130 L131 ⟨rfl, rfl, rfl, rfl, g132, w134, -⟩
                    have hS135 := hS0.tr g132 (by decide +kernel) (by decide +kernel)
                    have w136 : RdI a0 I0 I129 := (EwI.rf a0 I0).rd w134
                    refine tr_goto 186 dX12_readLine_146 (by decide) ?_
                    exact tr_vret hZ dX12_readLine_186 rfl (by decide) (by decide) ⟨rfl, rfl, rfl, rfl, rfl, hS135, w136, trivial⟩
                · skip
                  refine tr_aload_n dX12_readLine_126 rfl ?_
                  refine q_callVv hE (M' := mX12_readAlmanac) (as := []) dX12_readLine_127 lk12_236 inX12_readAlmanac seX12_readAlmanac myX12_readAlmanac (by decide) ⟨by decide, by decide⟩ rfl (kR15 hS0.1 ta0) (Nat.le_of_ble_eq_true rfl) rfl rfl (by decide) (by decide) (k_X12_readAlmanac hS0.1 ta0 ⟨_, d2⟩) ?_
                  rintro cn' K' N' I137 R138 L139 ⟨rfl, rfl, rfl, rfl, g140, w142, -⟩
                  have hS143 := hS0.tr g140 (by decide +kernel) (by decide +kernel)
                  have w144 : RdI a0 I0 I137 := (EwI.rf a0 I0).rd w142
                  refine tr_goto 186 dX12_readLine_130 (by decide) ?_
                  exact tr_vret hZ dX12_readLine_186 rfl (by decide) (by decide) ⟨rfl, rfl, rfl, rfl, rfl, hS143, w144, trivial⟩
              · skip
                refine tr_aload_n dX12_readLine_110 rfl ?_
                refine q_callVv hE (M' := mX12_readCheese) (as := []) dX12_readLine_111 lk12_233 inX12_readCheese seX12_readCheese myX12_readCheese (by decide) ⟨by decide, by decide⟩ rfl (kR15 hS0.1 ta0) (Nat.le_of_ble_eq_true rfl) rfl rfl (by decide) (by decide) (k_X12_readCheese hS0.1 ta0 ⟨_, d2⟩) ?_
                rintro cn' K' N' I145 R146 L147 ⟨rfl, rfl, rfl, rfl, g148, w150, -⟩
                have hS151 := hS0.tr g148 (by decide +kernel) (by decide +kernel)
                have w152 : RdI a0 I0 I145 := (EwI.rf a0 I0).rd w150
                refine tr_goto 186 dX12_readLine_114 (by decide) ?_
                exact tr_vret hZ dX12_readLine_186 rfl (by decide) (by decide) ⟨rfl, rfl, rfl, rfl, rfl, hS151, w152, trivial⟩
            · skip
              refine tr_aload_n dX12_readLine_93 rfl ?_
              refine q_iconst dX12_readLine_94 (by decide) ?_
              intro v153 h154
              refine q_callVv hE (M' := mX12_readEvent) (as := [_]) dX12_readLine_95 lk12_230 inX12_readEvent seX12_readEvent myX12_readEvent (by decide) ⟨by decide, by decide⟩ rfl (kR15 hS0.1 ta0) (Nat.le_of_ble_eq_true rfl) rfl rfl (by decide) (by decide) (k_X12_readEvent hS0.1 ta0 (by omega) ⟨_, d2⟩) ?_
              rintro cn' K' N' I155 R156 L157 ⟨rfl, rfl, rfl, rfl, g158, w160, -⟩
              have hS161 := hS0.tr g158 (by decide +kernel) (by decide +kernel)
              have w162 : RdI a0 I0 I155 := (EwI.rf a0 I0).rd w160
              refine tr_goto 186 dX12_readLine_98 (by decide) ?_
              exact tr_vret hZ dX12_readLine_186 rfl (by decide) (by decide) ⟨rfl, rfl, rfl, rfl, rfl, hS161, w162, trivial⟩
          · skip
            refine tr_aload_n dX12_readLine_76 rfl ?_
            refine q_iconst dX12_readLine_77 (by decide) ?_
            intro v163 h164
            refine q_callVv hE (M' := mX12_readEvent) (as := [_]) dX12_readLine_78 lk12_230 inX12_readEvent seX12_readEvent myX12_readEvent (by decide) ⟨by decide, by decide⟩ rfl (kR15 hS0.1 ta0) (Nat.le_of_ble_eq_true rfl) rfl rfl (by decide) (by decide) (k_X12_readEvent hS0.1 ta0 (by omega) ⟨_, d2⟩) ?_
            rintro cn' K' N' I165 R166 L167 ⟨rfl, rfl, rfl, rfl, g168, w170, -⟩
            have hS171 := hS0.tr g168 (by decide +kernel) (by decide +kernel)
            have w172 : RdI a0 I0 I165 := (EwI.rf a0 I0).rd w170
            refine tr_goto 186 dX12_readLine_81 (by decide) ?_
            exact tr_vret hZ dX12_readLine_186 rfl (by decide) (by decide) ⟨rfl, rfl, rfl, rfl, rfl, hS171, w172, trivial⟩
        · skip
          refine tr_aload_n dX12_readLine_59 rfl ?_
          refine q_iconst dX12_readLine_60 (by decide) ?_
          intro v173 h174
          refine q_callVv hE (M' := mX12_readEvent) (as := [_]) dX12_readLine_61 lk12_230 inX12_readEvent seX12_readEvent myX12_readEvent (by decide) ⟨by decide, by decide⟩ rfl (kR15 hS0.1 ta0) (Nat.le_of_ble_eq_true rfl) rfl rfl (by decide) (by decide) (k_X12_readEvent hS0.1 ta0 (by omega) ⟨_, d2⟩) ?_
          rintro cn' K' N' I175 R176 L177 ⟨rfl, rfl, rfl, rfl, g178, w180, -⟩
          have hS181 := hS0.tr g178 (by decide +kernel) (by decide +kernel)
          have w182 : RdI a0 I0 I175 := (EwI.rf a0 I0).rd w180
          refine tr_goto 186 dX12_readLine_64 (by decide) ?_
          exact tr_vret hZ dX12_readLine_186 rfl (by decide) (by decide) ⟨rfl, rfl, rfl, rfl, rfl, hS181, w182, trivial⟩
      · skip
        refine tr_aload_n dX12_readLine_42 rfl ?_
        refine q_iconst dX12_readLine_43 (by decide) ?_
        intro v183 h184
        refine q_callVv hE (M' := mX12_readEvent) (as := [_]) dX12_readLine_44 lk12_230 inX12_readEvent seX12_readEvent myX12_readEvent (by decide) ⟨by decide, by decide⟩ rfl (kR15 hS0.1 ta0) (Nat.le_of_ble_eq_true rfl) rfl rfl (by decide) (by decide) (k_X12_readEvent hS0.1 ta0 (by omega) ⟨_, d2⟩) ?_
        rintro cn' K' N' I185 R186 L187 ⟨rfl, rfl, rfl, rfl, g188, w190, -⟩
        have hS191 := hS0.tr g188 (by decide +kernel) (by decide +kernel)
        have w192 : RdI a0 I0 I185 := (EwI.rf a0 I0).rd w190
        refine tr_goto 186 dX12_readLine_47 (by decide) ?_
        exact tr_vret hZ dX12_readLine_186 rfl (by decide) (by decide) ⟨rfl, rfl, rfl, rfl, rfl, hS191, w192, trivial⟩
    · skip
      refine tr_aload_n dX12_readLine_25 rfl ?_
      refine q_iconst dX12_readLine_26 (by decide) ?_
      intro v193 h194
      refine q_callVv hE (M' := mX12_readEvent) (as := [_]) dX12_readLine_27 lk12_230 inX12_readEvent seX12_readEvent myX12_readEvent (by decide) ⟨by decide, by decide⟩ rfl (kR15 hS0.1 ta0) (Nat.le_of_ble_eq_true rfl) rfl rfl (by decide) (by decide) (k_X12_readEvent hS0.1 ta0 (by omega) ⟨_, d2⟩) ?_
      rintro cn' K' N' I195 R196 L197 ⟨rfl, rfl, rfl, rfl, g198, w200, -⟩
      have hS201 := hS0.tr g198 (by decide +kernel) (by decide +kernel)
      have w202 : RdI a0 I0 I195 := (EwI.rf a0 I0).rd w200
      refine tr_goto 186 dX12_readLine_30 (by decide) ?_
      exact tr_vret hZ dX12_readLine_186 rfl (by decide) (by decide) ⟨rfl, rfl, rfl, rfl, rfl, hS201, w202, trivial⟩
  · skip
    refine tr_aload_n dX12_readLine_9 rfl ?_
    refine q_callVv hE (M' := mX12_readAlp) (as := []) dX12_readLine_10 lk12_227 inX12_readAlp seX12_readAlp myX12_readAlp (by decide) ⟨by decide, by decide⟩ rfl (kR15 hS0.1 ta0) (Nat.le_of_ble_eq_true rfl) rfl rfl (by decide) (by decide) (k_X12_readAlp hS0.1 ta0 ⟨_, d2⟩) ?_
    rintro cn' K' N' I203 R204 L205 ⟨rfl, rfl, rfl, rfl, g206, w208, -⟩
    have hS209 := hS0.tr g206 (by decide +kernel) (by decide +kernel)
    have w210 : RdI a0 I0 I203 := (EwI.rf a0 I0).rd w208
    refine tr_goto 186 dX12_readLine_13 (by decide) ?_
    exact tr_vret hZ dX12_readLine_186 rfl (by decide) (by decide) ⟨rfl, rfl, rfl, rfl, rfl, hS209, w210, trivial⟩
def wi_X12_readAll : List Nat := [896, 897, 898, 899, 900, 901, 902, 903, 904, 905, 959, 968, 969, 970, 971, 972, 973, 974, 3455, 3519, 3583, 3647, 3711, 3775, 3903, 4031, 4095, 4159, 4223, 4287, 4351, 4415, 4479, 4543, 4607, 4671, 4799, 4863]
def wr_X12_readAll : List Nat := []
set_option maxHeartbeats 4000000 in
theorem k_X12_readAll {l : Launch} {T : Nat → Nat} {cn : Nat} {K N : Nat → Nat} {I0 : cz_I} {R0 : cz_R} {L0 : cz_L} (hW0 : Wf T cn K N I0 R0 0) {a0 : Nat} (ta0 : T a0 = 15) (nn4 : ∃ b, R0 a0 4 = some b) : ConE l mX12_readAll [.ref a0] cn K N I0 R0 L0 (ca_v (fun cn' K' N' I' R' L' => cn = cn' ∧ K = K' ∧ N = N' ∧ R0 = R' ∧ St T cn K N 0 wi_X12_readAll wr_X12_readAll I0 R0 I' R0 ∧ (∀ b1, R0 a0 4 = some b1 → (((I0 a0 9).toInt = 5 → (I0 a0 13).toInt ≥ 1) → ((I' a0 13).toInt ≥ 1 ∨ (I' b1 0).toInt ≥ 1))) ∧ True)) := by
  refine ConE.of (by decide +kernel) rfl (Nat.le_of_ble_eq_true rfl) rfl (fun X hX hZ hE => ?_)
  subst hX
  have hS0 : St T cn K N 0 wi_X12_readAll wr_X12_readAll I0 R0 I0 R0 := St.rf0 hW0
  obtain ⟨a1, d2⟩ := nn4
  have ta1 : T a1 = 14 := hW0.rsN ta0 rfl d2
  obtain ⟨v3, c4⟩ : ∃ v, I0 a0 9 = v := ⟨_, rfl⟩
  have b5 := iv15_9 hS0.1 ta0 c4
  obtain ⟨v6, c7⟩ : ∃ v, I0 a0 13 = v := ⟨_, rfl⟩
  refine q_iconst dX12_readAll_0 (by decide) ?_
  intro v8 h9
  refine tr_istore_n dX12_readAll_1 (by decide) (by decide) ?_
  obtain ⟨v19, c20⟩ : ∃ v, I0 a0 8 = v := ⟨_, rfl⟩
  have b21 := iv15_8 hS0.1 ta0 c20
  have lp24 : ∀ (fu : Nat) (ls : Nat → Option Value) (v10 : Int32) (I13 : cz_I) (L14 : cz_L) (v16 : Int32), ls 0 = some (.ref a0) → ls 1 = some (.int v10) → St T cn K N 0 wi_X12_readAll wr_X12_readAll I0 R0 I13 R0 → I13 a0 8 = v16 → EwI a0 I0 I13 → 0 ≤ v10.toInt → v10.toInt ≤ 1 → (-v16.toInt + v10.toInt + 900).toNat < fu → Tr X mX12_readAll 2 ls [] cn K N I13 R0 L14 0 0 := by
    intro fu
    induction fu with
    | zero => intros; rename_i hz; exact absurd hz (Nat.not_lt_zero _)
    | succ fu ih24 =>
      intro ls v10 I13 L14 v16 hl11 hl12 hS15 c17 w18 g22 g23 hm24
      have b26 := iv15_8 hS15.1 ta0 c17
      refine tr_iload_n dX12_readAll_2 hl12 ?_
      refine q_if_eq 20 dX12_readAll_3 (by decide) (fun h27 => ?_) (fun h27 => ?_)
      · skip
        refine tr_aload_n dX12_readAll_20 hl11 ?_
        obtain ⟨v28, c29⟩ : ∃ v, I13 a0 9 = v := ⟨_, rfl⟩
        have b30 := iv15_9 hS15.1 ta0 c29
        refine q_getI dX12_readAll_21 fl12_99 (kR15 hS15.1 ta0) c29 ?_
        refine q_iconst dX12_readAll_24 (by decide) ?_
        intro v31 h32
        refine q_icmp_eq 33 dX12_readAll_25 (by decide) (fun h33 => ?_) (fun h33 => ?_)
        · skip
          refine tr_aload_n dX12_readAll_33 hl11 ?_
          refine tr_getR dX12_readAll_34 fl12_188 (kR15 hS15.1 ta0) d2 ?_
          obtain ⟨v34, c35⟩ : ∃ v, I13 a1 0 = v := ⟨_, rfl⟩
          have b36 := iv14_0 hS15.1 ta1 c35
          refine q_getI dX12_readAll_37 fl12_192 (kR14 hS15.1 ta1) c35 ?_
          refine q_if_eq 53 dX12_readAll_40 (by decide) (fun h37 => ?_) (fun h37 => ?_)
          · skip
            refine tr_aload_n dX12_readAll_53 hl11 ?_
            refine q_bipush dX12_readAll_54 (by decide +kernel) ?_
            intro v38 h39
            refine q_callVv hE (M' := mX12_flaw) (as := [_]) dX12_readAll_56 lk12_145 inX12_flaw seX12_flaw myX12_flaw (by decide) ⟨by decide, by decide⟩ rfl (kR15 hS15.1 ta0) (Nat.le_of_ble_eq_true rfl) rfl rfl (by decide) (by decide) (k_X12_flaw hS15.1 ta0 (by omega)) ?_
            rintro cn' K' N' I40 R41 L42 ⟨rfl, rfl, rfl, rfl, rfl, g43, p45, p46, w47, -⟩
            have hS48 := hS15.tr g43 (by decide +kernel) (by decide +kernel)
            have c49 : I40 a0 8 = v16 := (g43.cell ta0 (by decide +kernel)).trans c17
            have c50 : I40 a1 0 = v34 := (g43.cell ta1 (by decide +kernel)).trans c35
            have w51 : RdI a0 I0 I40 := w18.rd w47
            have w52 : RdI a0 I13 I40 := (EwI.rf a0 I13).rd w47
            obtain ⟨v53, c54⟩ : ∃ v, I40 a0 9 = v := ⟨_, rfl⟩
            have b55 := iv15_9 hS48.1 ta0 c54
            rw [c54] at p45
            rw [c49] at p46
            rw [c17] at p46
            have z56 := w51.f4
            (try rw [c54] at z56)
            (try rw [c4] at z56)
            obtain ⟨v57, c58⟩ : ∃ v, I40 a0 13 = v := ⟨_, rfl⟩
            (try rw [c58] at z56)
            (try rw [c7] at z56)
            exact tr_vret hZ dX12_readAll_59 rfl (by decide) (by decide) ⟨rfl, rfl, rfl, rfl, rfl, hS48, (fun q0 z0 => by obtain rfl := Option.some.inj ((d2).symm.trans z0); (try rw [c4]); (try rw [c7]); (try rw [c58]); (try rw [c50]); (try omega)), trivial⟩
          · skip
            refine tr_aload_n dX12_readAll_43 hl11 ?_
            refine tr_getR dX12_readAll_44 fl12_188 (kR15 hS15.1 ta0) d2 ?_
            obtain ⟨v59, c60⟩ : ∃ v, I13 a1 3 = v := ⟨_, rfl⟩
            have b61 := iv14_3 hS15.1 ta1 c60
            refine q_getI dX12_readAll_47 fl12_224 (kR14 hS15.1 ta1) c60 ?_
            refine q_if_ne 59 dX12_readAll_50 (by decide) (fun h62 => ?_) (fun h62 => ?_)
            · skip
              have z63 := w18.f4
              (try rw [c29] at z63)
              (try rw [c4] at z63)
              obtain ⟨v64, c65⟩ : ∃ v, I13 a0 13 = v := ⟨_, rfl⟩
              (try rw [c65] at z63)
              (try rw [c7] at z63)
              exact tr_vret hZ dX12_readAll_59 rfl (by decide) (by decide) ⟨rfl, rfl, rfl, rfl, rfl, hS15, (fun q0 z0 => by obtain rfl := Option.some.inj ((d2).symm.trans z0); (try rw [c4]); (try rw [c7]); (try rw [c65]); (try rw [c35]); (try omega)), trivial⟩
            · skip
              refine tr_aload_n dX12_readAll_53 hl11 ?_
              refine q_bipush dX12_readAll_54 (by decide +kernel) ?_
              intro v66 h67
              refine q_callVv hE (M' := mX12_flaw) (as := [_]) dX12_readAll_56 lk12_145 inX12_flaw seX12_flaw myX12_flaw (by decide) ⟨by decide, by decide⟩ rfl (kR15 hS15.1 ta0) (Nat.le_of_ble_eq_true rfl) rfl rfl (by decide) (by decide) (k_X12_flaw hS15.1 ta0 (by omega)) ?_
              rintro cn' K' N' I68 R69 L70 ⟨rfl, rfl, rfl, rfl, rfl, g71, p73, p74, w75, -⟩
              have hS76 := hS15.tr g71 (by decide +kernel) (by decide +kernel)
              have c77 : I68 a0 8 = v16 := (g71.cell ta0 (by decide +kernel)).trans c17
              have c78 : I68 a1 0 = v34 := (g71.cell ta1 (by decide +kernel)).trans c35
              have c79 : I68 a1 3 = v59 := (g71.cell ta1 (by decide +kernel)).trans c60
              have w80 : RdI a0 I0 I68 := w18.rd w75
              have w81 : RdI a0 I13 I68 := (EwI.rf a0 I13).rd w75
              obtain ⟨v82, c83⟩ : ∃ v, I68 a0 9 = v := ⟨_, rfl⟩
              have b84 := iv15_9 hS76.1 ta0 c83
              rw [c83] at p73
              rw [c77] at p74
              rw [c17] at p74
              have z85 := w80.f4
              (try rw [c83] at z85)
              (try rw [c4] at z85)
              obtain ⟨v86, c87⟩ : ∃ v, I68 a0 13 = v := ⟨_, rfl⟩
              (try rw [c87] at z85)
              (try rw [c7] at z85)
              exact tr_vret hZ dX12_readAll_59 rfl (by decide) (by decide) ⟨rfl, rfl, rfl, rfl, rfl, hS76, (fun q0 z0 => by obtain rfl := Option.some.inj ((d2).symm.trans z0); (try rw [c4]); (try rw [c7]); (try rw [c87]); (try rw [c78]); (try omega)), trivial⟩
        · skip
          refine tr_aload_n dX12_readAll_28 hl11 ?_
          refine q_iconst dX12_readAll_29 (by decide) ?_
          intro v88 h89
          refine q_callVv hE (M' := mX12_flaw) (as := [_]) dX12_readAll_30 lk12_145 inX12_flaw seX12_flaw myX12_flaw (by decide) ⟨by decide, by decide⟩ rfl (kR15 hS15.1 ta0) (Nat.le_of_ble_eq_true rfl) rfl rfl (by decide) (by decide) (k_X12_flaw hS15.1 ta0 (by omega)) ?_
          rintro cn' K' N' I90 R91 L92 ⟨rfl, rfl, rfl, rfl, rfl, g93, p95, p96, w97, -⟩
          have hS98 := hS15.tr g93 (by decide +kernel) (by decide +kernel)
          have c99 : I90 a0 8 = v16 := (g93.cell ta0 (by decide +kernel)).trans c17
          have w100 : RdI a0 I0 I90 := w18.rd w97
          have w101 : RdI a0 I13 I90 := (EwI.rf a0 I13).rd w97
          obtain ⟨v102, c103⟩ : ∃ v, I90 a0 9 = v := ⟨_, rfl⟩
          have b104 := iv15_9 hS98.1 ta0 c103
          rw [c103] at p95
          rw [c99] at p96
          rw [c17] at p96
          refine tr_aload_n dX12_readAll_33 hl11 ?_
          refine tr_getR dX12_readAll_34 fl12_188 (kR15 hS98.1 ta0) d2 ?_
          obtain ⟨v105, c106⟩ : ∃ v, I90 a1 0 = v := ⟨_, rfl⟩
          have b107 := iv14_0 hS98.1 ta1 c106
          refine q_getI dX12_readAll_37 fl12_192 (kR14 hS98.1 ta1) c106 ?_
          refine q_if_eq 53 dX12_readAll_40 (by decide) (fun h108 => ?_) (fun h108 => ?_)
          · skip
            refine tr_aload_n dX12_readAll_53 hl11 ?_
            refine q_bipush dX12_readAll_54 (by decide +kernel) ?_
            intro v109 h110
            refine q_callVv hE (M' := mX12_flaw) (as := [_]) dX12_readAll_56 lk12_145 inX12_flaw seX12_flaw myX12_flaw (by decide) ⟨by decide, by decide⟩ rfl (kR15 hS98.1 ta0) (Nat.le_of_ble_eq_true rfl) rfl rfl (by decide) (by decide) (k_X12_flaw hS98.1 ta0 (by omega)) ?_
            rintro cn' K' N' I111 R112 L113 ⟨rfl, rfl, rfl, rfl, rfl, g114, p116, p117, w118, -⟩
            have hS119 := hS98.tr g114 (by decide +kernel) (by decide +kernel)
            have c120 : I111 a0 8 = v16 := (g114.cell ta0 (by decide +kernel)).trans c99
            have c121 : I111 a1 0 = v105 := (g114.cell ta1 (by decide +kernel)).trans c106
            have w122 : RdI a0 I0 I111 := w100.rd w118
            have w123 : RdI a0 I13 I111 := w101.rd w118
            obtain ⟨v124, c125⟩ : ∃ v, I111 a0 9 = v := ⟨_, rfl⟩
            have b126 := iv15_9 hS119.1 ta0 c125
            rw [c125] at p116
            rw [c120] at p117
            rw [c99] at p117
            have z127 := w122.f4
            (try rw [c125] at z127)
            (try rw [c4] at z127)
            obtain ⟨v128, c129⟩ : ∃ v, I111 a0 13 = v := ⟨_, rfl⟩
            (try rw [c129] at z127)
            (try rw [c7] at z127)
            exact tr_vret hZ dX12_readAll_59 rfl (by decide) (by decide) ⟨rfl, rfl, rfl, rfl, rfl, hS119, (fun q0 z0 => by obtain rfl := Option.some.inj ((d2).symm.trans z0); (try rw [c4]); (try rw [c7]); (try rw [c129]); (try rw [c121]); (try omega)), trivial⟩
          · skip
            refine tr_aload_n dX12_readAll_43 hl11 ?_
            refine tr_getR dX12_readAll_44 fl12_188 (kR15 hS98.1 ta0) d2 ?_
            obtain ⟨v130, c131⟩ : ∃ v, I90 a1 3 = v := ⟨_, rfl⟩
            have b132 := iv14_3 hS98.1 ta1 c131
            refine q_getI dX12_readAll_47 fl12_224 (kR14 hS98.1 ta1) c131 ?_
            refine q_if_ne 59 dX12_readAll_50 (by decide) (fun h133 => ?_) (fun h133 => ?_)
            · skip
              have z134 := w100.f4
              (try rw [c103] at z134)
              (try rw [c4] at z134)
              obtain ⟨v135, c136⟩ : ∃ v, I90 a0 13 = v := ⟨_, rfl⟩
              (try rw [c136] at z134)
              (try rw [c7] at z134)
              exact tr_vret hZ dX12_readAll_59 rfl (by decide) (by decide) ⟨rfl, rfl, rfl, rfl, rfl, hS98, (fun q0 z0 => by obtain rfl := Option.some.inj ((d2).symm.trans z0); (try rw [c4]); (try rw [c7]); (try rw [c136]); (try rw [c106]); (try omega)), trivial⟩
            · skip
              refine tr_aload_n dX12_readAll_53 hl11 ?_
              refine q_bipush dX12_readAll_54 (by decide +kernel) ?_
              intro v137 h138
              refine q_callVv hE (M' := mX12_flaw) (as := [_]) dX12_readAll_56 lk12_145 inX12_flaw seX12_flaw myX12_flaw (by decide) ⟨by decide, by decide⟩ rfl (kR15 hS98.1 ta0) (Nat.le_of_ble_eq_true rfl) rfl rfl (by decide) (by decide) (k_X12_flaw hS98.1 ta0 (by omega)) ?_
              rintro cn' K' N' I139 R140 L141 ⟨rfl, rfl, rfl, rfl, rfl, g142, p144, p145, w146, -⟩
              have hS147 := hS98.tr g142 (by decide +kernel) (by decide +kernel)
              have c148 : I139 a0 8 = v16 := (g142.cell ta0 (by decide +kernel)).trans c99
              have c149 : I139 a1 0 = v105 := (g142.cell ta1 (by decide +kernel)).trans c106
              have c150 : I139 a1 3 = v130 := (g142.cell ta1 (by decide +kernel)).trans c131
              have w151 : RdI a0 I0 I139 := w100.rd w146
              have w152 : RdI a0 I13 I139 := w101.rd w146
              obtain ⟨v153, c154⟩ : ∃ v, I139 a0 9 = v := ⟨_, rfl⟩
              have b155 := iv15_9 hS147.1 ta0 c154
              rw [c154] at p144
              rw [c148] at p145
              rw [c99] at p145
              have z156 := w151.f4
              (try rw [c154] at z156)
              (try rw [c4] at z156)
              obtain ⟨v157, c158⟩ : ∃ v, I139 a0 13 = v := ⟨_, rfl⟩
              (try rw [c158] at z156)
              (try rw [c7] at z156)
              exact tr_vret hZ dX12_readAll_59 rfl (by decide) (by decide) ⟨rfl, rfl, rfl, rfl, rfl, hS147, (fun q0 z0 => by obtain rfl := Option.some.inj ((d2).symm.trans z0); (try rw [c4]); (try rw [c7]); (try rw [c158]); (try rw [c149]); (try omega)), trivial⟩
      · skip
        refine tr_aload_n dX12_readAll_6 hl11 ?_
        refine q_callVv hE (M' := mX12_readLine) (as := []) dX12_readAll_7 lk12_218 inX12_readLine seX12_readLine myX12_readLine (by decide) ⟨by decide, by decide⟩ rfl (kR15 hS15.1 ta0) (Nat.le_of_ble_eq_true rfl) rfl rfl (by decide) (by decide) (k_X12_readLine hS15.1 ta0 ⟨_, d2⟩) ?_
        rintro cn' K' N' I159 R160 L161 ⟨rfl, rfl, rfl, rfl, g162, w164, -⟩
        have hS165 := hS15.tr g162 (by decide +kernel) (by decide +kernel)
        have w166 : RdI a0 I0 I159 := w18.rd w164
        have w167 : RdI a0 I13 I159 := (EwI.rf a0 I13).rd w164
        refine tr_aload_n dX12_readAll_10 hl11 ?_
        refine q_bipush dX12_readAll_11 (by decide +kernel) ?_
        intro v168 h169
        have z170 := w167.2.2.1
        obtain ⟨v171, c172⟩ : ∃ v, I159 a0 8 = v := ⟨_, rfl⟩
        have b173 := iv15_8 hS165.1 ta0 c172
        obtain ⟨v174, c175⟩ : ∃ v, I159 a0 9 = v := ⟨_, rfl⟩
        have b176 := iv15_9 hS165.1 ta0 c175
        (try rw [c17] at z170)
        (try rw [c172] at z170)
        (try rw [c175] at z170)
        refine q_callVi hE (M' := mX12_eatsSign) (as := [_]) dX12_readAll_13 lk12_221 inX12_eatsSign seX12_eatsSign myX12_eatsSign (by decide) ⟨by decide, by decide⟩ rfl (kR15 hS165.1 ta0) (Nat.le_of_ble_eq_true rfl) rfl rfl (by decide) (by decide) (k_X12_eatsSign hS165.1 ta0) ?_
        rintro v181 cn' K' N' I177 R178 L179 ⟨rfl, rfl, rfl, rfl, g180, h182, p183, p184, w185, -⟩
        have hS186 := hS165.tr g180 (by decide +kernel) (by decide +kernel)
        have w187 : RdI a0 I0 I177 := w166.ew w185
        have w188 : RdI a0 I13 I177 := w167.ew w185
        rw [c175] at p183
        obtain ⟨v189, c190⟩ : ∃ v, I177 a0 8 = v := ⟨_, rfl⟩
        have b191 := iv15_8 hS186.1 ta0 c190
        rw [c190] at p184
        rw [c172] at p184
        refine tr_istore_n dX12_readAll_16 (by decide) (by decide) ?_
        refine tr_goto 2 dX12_readAll_17 (by decide) ?_
        exact ih24 _ v181 I177 L179 v189 hl11 rfl hS186 c190 (Or.inr w187) (by omega) (by omega) (by omega)
  exact lp24 _ _ v8 I0 L0 v19 rfl rfl hS0 c20 (EwI.rf a0 I0) (by omega) (by omega) (Nat.lt_succ_self _)
