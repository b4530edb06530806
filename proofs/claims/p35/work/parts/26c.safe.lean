def wi_X12_peak : List Nat := [960, 961, 962, 5247, 5311, 5375, 5439, 5503, 5567]
def wr_X12_peak : List Nat := []
set_option maxHeartbeats 4000000 in
theorem k_X12_peak {l : Launch} {T : Nat → Nat} {cn : Nat} {K N : Nat → Nat} {I0 : cz_I} {R0 : cz_R} {L0 : cz_L} {d : Int} (hW0 : Wf T cn K N I0 R0 d) {a0 : Nat} (ta0 : T a0 = 15) : ConE l mX12_peak [.ref a0] cn K N I0 R0 L0 (ca_i (fun v cn' K' N' I' R' L' => cn = cn' ∧ K = K' ∧ N = N' ∧ R0 = R' ∧ L0 = L' ∧ St T cn K N d wi_X12_peak wr_X12_peak I0 R0 I' R0 ∧ True)) := by
  refine ConE.of (by decide +kernel) rfl (Nat.le_of_ble_eq_true rfl) rfl (fun X hX hZ hE => ?_)
  subst hX
  have hS0 : St T cn K N d wi_X12_peak wr_X12_peak I0 R0 I0 R0 := St.rf0 hW0
  rcases rf15_3 hW0 ta0 with d2 | ⟨a1, d2, ta1⟩
  · skip
    refine tr_aload_n dX12_peak_0 rfl ?_
    refine q_iconst dX12_peak_1 (by decide) ?_
    intro v3 h4
    refine q_putI dX12_peak_2 fl12_70 (kR15 hS0.1 ta0) (Or.inl rfl) hS0 ta0 (iokF rfl) rfl (by decide +kernel) ?_
    intro I5 hS6 e7 f8
    refine tr_aload_n dX12_peak_5 rfl ?_
    refine tr_getN dX12_peak_6 fl12_385 (kR15 hS6.1 ta0) d2 ?_
    refine tr_ifnonnullN dX12_peak_9 ?_
    refine tr_aload_n dX12_peak_12 rfl ?_
    refine q_iconst dX12_peak_13 (by decide) ?_
    intro v9 h10
    refine q_callVi hE (M' := mX12_refused) (as := [_]) dX12_peak_14 lk12_76 inX12_refused seX12_refused myX12_refused (by decide) ⟨by decide, by decide⟩ rfl (kR15 hS6.1 ta0) (Nat.le_of_ble_eq_true rfl) rfl rfl (by decide) (by decide) (k_X12_refused hS6.1 ta0) ?_
    rintro v15 cn' K' N' I11 R12 L13 ⟨rfl, rfl, rfl, rfl, rfl, g14, -⟩
    have hS16 := hS6.tr g14 (by decide +kernel) (by decide +kernel)
    have c17 : I11 a0 0 = v3 := (g14.cell ta0 (by decide +kernel)).trans e7
    exact tr_iret hZ dX12_peak_17 rfl (by decide) (by decide) ⟨v15, rfl, rfl, rfl, rfl, rfl, rfl, hS16, trivial⟩
  · skip
    refine tr_aload_n dX12_peak_0 rfl ?_
    refine q_iconst dX12_peak_1 (by decide) ?_
    intro v18 h19
    refine q_putI dX12_peak_2 fl12_70 (kR15 hS0.1 ta0) (Or.inl rfl) hS0 ta0 (iokF rfl) rfl (by decide +kernel) ?_
    intro I20 hS21 e22 f23
    refine tr_aload_n dX12_peak_5 rfl ?_
    refine tr_getR dX12_peak_6 fl12_385 (kR15 hS21.1 ta0) d2 ?_
    refine tr_ifnonnull 18 dX12_peak_9 (by decide) ?_
    refine tr_aload_n dX12_peak_18 rfl ?_
    refine q_iconst dX12_peak_19 (by decide) ?_
    intro v24 h25
    refine q_callVv hE (M' := mX12_laysLight) (as := [_]) dX12_peak_20 lk12_434 inX12_laysLight seX12_laysLight myX12_laysLight (by decide) ⟨by decide, by decide⟩ rfl (kR15 hS21.1 ta0) (Nat.le_of_ble_eq_true rfl) rfl rfl (by decide) (by decide) (k_X12_laysLight hS21.1 ta0 ⟨_, d2⟩) ?_
    rintro cn' K' N' I26 R27 L28 ⟨rfl, rfl, rfl, rfl, rfl, g29, -⟩
    have hS31 := hS21.tr g29 (by decide +kernel) (by decide +kernel)
    have c32 : I26 a0 0 = v18 := (g29.cell ta0 (by decide +kernel)).trans e22
    refine q_bipush dX12_peak_23 (by decide +kernel) ?_
    intro v33 h34
    refine tr_istore_n dX12_peak_25 (by decide) (by decide) ?_
    refine q_iconst dX12_peak_26 (by decide) ?_
    intro v35 h36
    refine tr_istore_n dX12_peak_27 (by decide) (by decide) ?_
    have lp46 : ∀ (fu : Nat) (ls : Nat → Option Value) (v37 : Int32) (v38 : Int32) (I42 : cz_I), ls 0 = some (.ref a0) → ls 1 = some (.int v37) → ls 2 = some (.int v38) → St T cn K N d wi_X12_peak wr_X12_peak I0 R0 I42 R0 → (v37.toInt = -2 ∨ (0 ≤ v37.toInt ∧ v37.toInt ≤ 239)) → 0 ≤ v38.toInt → (-v38.toInt + 2147483647).toNat < fu → Tr X mX12_peak 28 ls [] cn K N I42 R0 L0 0 0 := by
      intro fu
      induction fu with
      | zero => intros; rename_i hz; exact absurd hz (Nat.not_lt_zero _)
      | succ fu ih46 =>
        intro ls v37 v38 I42 hl39 hl40 hl41 hS43 g44 g45 hm46
        refine tr_iload_n dX12_peak_28 hl41 ?_
        refine tr_aload_n dX12_peak_29 hl39 ?_
        refine tr_getR dX12_peak_30 fl12_385 (kR15 hS43.1 ta0) d2 ?_
        obtain ⟨v48, c49⟩ : ∃ v, I0 a1 0 = v := ⟨_, rfl⟩
        have b50 := hW0.2.2.2.2.2.1 a0 ta0 _ d2
        rw [c49] at b50
        have b51 := iv14_0 hW0 ta1 c49
        refine q_getI dX12_peak_33 fl12_192 (kR14 hS43.1 ta1) ((hS43.cell ta1 (by decide +kernel)).trans c49) ?_
        refine q_icmp_ge 70 dX12_peak_36 (by decide) (fun h52 => ?_) (fun h52 => ?_)
        · skip
          refine tr_aload_n dX12_peak_70 hl39 ?_
          refine tr_iload_n dX12_peak_71 hl40 ?_
          refine q_callVi hE (M' := mX12_good) (as := [_]) dX12_peak_72 lk12_81 inX12_good seX12_good myX12_good (by decide) ⟨by decide, by decide⟩ rfl (kR15 hS43.1 ta0) (Nat.le_of_ble_eq_true rfl) rfl rfl (by decide) (by decide) (k_X12_good hS43.1 ta0) ?_
          rintro v57 cn' K' N' I53 R54 L55 ⟨rfl, rfl, rfl, rfl, rfl, g56, -⟩
          have hS58 := hS43.tr g56 (by decide +kernel) (by decide +kernel)
          exact tr_iret hZ dX12_peak_75 rfl (by decide) (by decide) ⟨v57, rfl, rfl, rfl, rfl, rfl, rfl, hS58, trivial⟩
        · skip
          refine tr_aload_n dX12_peak_39 hl39 ?_
          refine tr_iload_n dX12_peak_40 hl41 ?_
          refine q_callVi hE (M' := mX12_dueIn) (as := [_]) dX12_peak_41 lk12_449 inX12_dueIn seX12_dueIn myX12_dueIn (by decide) ⟨by decide, by decide⟩ rfl (kR15 hS43.1 ta0) (Nat.le_of_ble_eq_true rfl) rfl rfl (by decide) (by decide) (k_X12_dueIn hS43.1 ta0 (by exact om_7b69baed g45 b50 b51.2 h52) ⟨_, d2⟩) ?_
          rintro v63 cn' K' N' I59 R60 L61 ⟨rfl, rfl, rfl, rfl, rfl, rfl, -⟩
          refine tr_iload_n dX12_peak_44 hl40 ?_
          refine q_bipush dX12_peak_45 (by decide +kernel) ?_
          intro v64 h65
          refine q_icmp_ne 54 dX12_peak_47 (by decide) (fun h66 => ?_) (fun h66 => ?_)
          · skip
            refine tr_aload_n dX12_peak_54 hl39 ?_
            refine tr_iload_n dX12_peak_55 hl40 ?_
            refine q_callVi hE (M' := mX12_dueIn) (as := [_]) dX12_peak_56 lk12_449 inX12_dueIn seX12_dueIn myX12_dueIn (by decide) ⟨by decide, by decide⟩ rfl (kR15 hS43.1 ta0) (Nat.le_of_ble_eq_true rfl) rfl rfl (by decide) (by decide) (k_X12_dueIn hS43.1 ta0 (by exact om_11fa1073 g44 b50 b51.2 h52 h65 h66) ⟨_, d2⟩) ?_
            rintro v71 cn' K' N' I67 R68 L69 ⟨rfl, rfl, rfl, rfl, rfl, rfl, -⟩
            refine q_icmp_le 64 dX12_peak_59 (by decide) (fun h72 => ?_) (fun h72 => ?_)
            · skip
              refine q_iincE dX12_peak_64 hl41 (by decide) (by decide) (by intro j1 j2; exact om_851a16a6 g45 b50 b51.2 h52 j2) ?_
              intro v73 h74
              refine tr_goto 28 dX12_peak_67 (by decide) ?_
              exact ih46 _ v37 v73 I42 hl39 hl40 rfl hS43 (by exact om_26215c93 g44) (by exact om_68881c41 g45 h74) (by exact om_006fdd75 g45 hm46 b50 b51.2 h52 h66 h74)
            · skip
              refine tr_iload_n dX12_peak_62 hl41 ?_
              refine tr_istore_n dX12_peak_63 (by decide) (by decide) ?_
              refine q_iincE dX12_peak_64 hl41 (by decide) (by decide) (by intro j1 j2; exact om_851a16a6 g45 b50 b51.2 h52 j2) ?_
              intro v75 h76
              refine tr_goto 28 dX12_peak_67 (by decide) ?_
              exact ih46 _ v38 v75 I42 hl39 rfl rfl hS43 (by exact om_2957eac6 g45 b50 b51.2 h52 h76) (by exact om_68881c41 g45 h76) (by exact om_006fdd75 g45 hm46 b50 b51.2 h52 h66 h76)
          · skip
            refine q_iconst dX12_peak_50 (by decide) ?_
            intro v77 h78
            refine tr_goto 59 dX12_peak_51 (by decide) ?_
            refine q_icmp_le 64 dX12_peak_59 (by decide) (fun h79 => ?_) (fun h79 => ?_)
            · skip
              refine q_iincE dX12_peak_64 hl41 (by decide) (by decide) (by intro j1 j2; exact om_851a16a6 g45 b50 b51.2 h52 j2) ?_
              intro v80 h81
              refine tr_goto 28 dX12_peak_67 (by decide) ?_
              exact ih46 _ v37 v80 I42 hl39 hl40 rfl hS43 (by exact om_26215c93 g44) (by exact om_68881c41 g45 h81) (by exact om_bdc53839 g45 hm46 b50 b51.2 h52 h81)
            · skip
              refine tr_iload_n dX12_peak_62 hl41 ?_
              refine tr_istore_n dX12_peak_63 (by decide) (by decide) ?_
              refine q_iincE dX12_peak_64 hl41 (by decide) (by decide) (by intro j1 j2; exact om_851a16a6 g45 b50 b51.2 h52 j2) ?_
              intro v82 h83
              refine tr_goto 28 dX12_peak_67 (by decide) ?_
              exact ih46 _ v38 v82 I42 hl39 rfl rfl hS43 (by exact om_2957eac6 g45 b50 b51.2 h52 h83) (by exact om_68881c41 g45 h83) (by exact om_bdc53839 g45 hm46 b50 b51.2 h52 h83)
    exact lp46 _ _ v33 v35 I26 rfl rfl rfl hS31 (by exact om_62a09f94 h34) (by exact om_d99fa9e4 h36) (Nat.lt_succ_self _)
def wi_X12_due : List Nat := [960, 961, 962, 5247, 5311, 5375, 5439, 5503, 5567]
def wr_X12_due : List Nat := []
set_option maxHeartbeats 4000000 in
theorem k_X12_due {l : Launch} {T : Nat → Nat} {cn : Nat} {K N : Nat → Nat} {I0 : cz_I} {R0 : cz_R} {L0 : cz_L} {d : Int} (hW0 : Wf T cn K N I0 R0 d) {a0 : Nat} (ta0 : T a0 = 15) {x1 : Int32} : ConE l mX12_due [.ref a0, .int x1] cn K N I0 R0 L0 (ca_i (fun v cn' K' N' I' R' L' => cn = cn' ∧ K = K' ∧ N = N' ∧ R0 = R' ∧ L0 = L' ∧ St T cn K N d wi_X12_due wr_X12_due I0 R0 I' R0 ∧ True)) := by
  refine ConE.of (by decide +kernel) rfl (Nat.le_of_ble_eq_true rfl) rfl (fun X hX hZ hE => ?_)
  subst hX
  have hS0 : St T cn K N d wi_X12_due wr_X12_due I0 R0 I0 R0 := St.rf0 hW0
  rcases rf15_3 hW0 ta0 with d2 | ⟨a1, d2, ta1⟩
  · skip
    refine tr_aload_n dX12_due_0 rfl ?_
    refine q_iconst dX12_due_1 (by decide) ?_
    intro v3 h4
    refine q_putI dX12_due_2 fl12_70 (kR15 hS0.1 ta0) (Or.inl rfl) hS0 ta0 (iokF rfl) rfl (by decide +kernel) ?_
    intro I5 hS6 e7 f8
    refine tr_aload_n dX12_due_5 rfl ?_
    refine tr_getN dX12_due_6 fl12_385 (kR15 hS6.1 ta0) d2 ?_
    refine tr_ifnonnullN dX12_due_9 ?_
    refine tr_aload_n dX12_due_12 rfl ?_
    refine q_iconst dX12_due_13 (by decide) ?_
    intro v9 h10
    refine q_callVi hE (M' := mX12_refused) (as := [_]) dX12_due_14 lk12_76 inX12_refused seX12_refused myX12_refused (by decide) ⟨by decide, by decide⟩ rfl (kR15 hS6.1 ta0) (Nat.le_of_ble_eq_true rfl) rfl rfl (by decide) (by decide) (k_X12_refused hS6.1 ta0) ?_
    rintro v15 cn' K' N' I11 R12 L13 ⟨rfl, rfl, rfl, rfl, rfl, g14, -⟩
    have hS16 := hS6.tr g14 (by decide +kernel) (by decide +kernel)
    have c17 : I11 a0 0 = v3 := (g14.cell ta0 (by decide +kernel)).trans e7
    exact tr_iret hZ dX12_due_17 rfl (by decide) (by decide) ⟨v15, rfl, rfl, rfl, rfl, rfl, rfl, hS16, trivial⟩
  · skip
    refine tr_aload_n dX12_due_0 rfl ?_
    refine q_iconst dX12_due_1 (by decide) ?_
    intro v18 h19
    refine q_putI dX12_due_2 fl12_70 (kR15 hS0.1 ta0) (Or.inl rfl) hS0 ta0 (iokF rfl) rfl (by decide +kernel) ?_
    intro I20 hS21 e22 f23
    refine tr_aload_n dX12_due_5 rfl ?_
    refine tr_getR dX12_due_6 fl12_385 (kR15 hS21.1 ta0) d2 ?_
    refine tr_ifnonnull 18 dX12_due_9 (by decide) ?_
    refine tr_aload_n dX12_due_18 rfl ?_
    refine tr_iload_n dX12_due_19 rfl ?_
    refine q_callVi hE (M' := mX12_isMinute) (as := [_]) dX12_due_20 lk12_443 inX12_isMinute seX12_isMinute myX12_isMinute (by decide) ⟨by decide, by decide⟩ rfl (kR15 hS21.1 ta0) (Nat.le_of_ble_eq_true rfl) rfl rfl (by decide) (by decide) (k_X12_isMinute hS21.1 ta0 ⟨_, d2⟩) ?_
    rintro v28 cn' K' N' I24 R25 L26 ⟨rfl, rfl, rfl, rfl, rfl, rfl, h29, p30, -⟩
    refine q_if_ne 32 dX12_due_23 (by decide) (fun h31 => ?_) (fun h31 => ?_)
    · skip
      refine tr_aload_n dX12_due_32 rfl ?_
      refine q_iconst dX12_due_33 (by decide) ?_
      intro v32 h33
      refine q_callVv hE (M' := mX12_laysLight) (as := [_]) dX12_due_34 lk12_434 inX12_laysLight seX12_laysLight myX12_laysLight (by decide) ⟨by decide, by decide⟩ rfl (kR15 hS21.1 ta0) (Nat.le_of_ble_eq_true rfl) rfl rfl (by decide) (by decide) (k_X12_laysLight hS21.1 ta0 ⟨_, d2⟩) ?_
      rintro cn' K' N' I34 R35 L36 ⟨rfl, rfl, rfl, rfl, rfl, g37, -⟩
      have hS39 := hS21.tr g37 (by decide +kernel) (by decide +kernel)
      have c40 : I34 a0 0 = v18 := (g37.cell ta0 (by decide +kernel)).trans e22
      refine tr_aload_n dX12_due_37 rfl ?_
      refine tr_aload_n dX12_due_38 rfl ?_
      refine tr_iload_n dX12_due_39 rfl ?_
      refine q_callVi hE (M' := mX12_dueIn) (as := [_]) dX12_due_40 lk12_449 inX12_dueIn seX12_dueIn myX12_dueIn (by decide) ⟨by decide, by decide⟩ rfl (kR15 hS39.1 ta0) (Nat.le_of_ble_eq_true rfl) rfl rfl (by decide) (by decide) (k_X12_dueIn hS39.1 ta0 (by exact om_ec1a32e4 h29.2 h29.1 p30 h31) ⟨_, d2⟩) ?_
      rintro v45 cn' K' N' I41 R42 L43 ⟨rfl, rfl, rfl, rfl, rfl, rfl, -⟩
      refine q_callVi hE (M' := mX12_good) (as := [_]) dX12_due_43 lk12_81 inX12_good seX12_good myX12_good (by decide) ⟨by decide, by decide⟩ rfl (kR15 hS39.1 ta0) (Nat.le_of_ble_eq_true rfl) rfl rfl (by decide) (by decide) (k_X12_good hS39.1 ta0) ?_
      rintro v50 cn' K' N' I46 R47 L48 ⟨rfl, rfl, rfl, rfl, rfl, g49, -⟩
      have hS51 := hS39.tr g49 (by decide +kernel) (by decide +kernel)
      have c52 : I46 a0 0 = v18 := (g49.cell ta0 (by decide +kernel)).trans c40
      exact tr_iret hZ dX12_due_46 rfl (by decide) (by decide) ⟨v50, rfl, rfl, rfl, rfl, rfl, rfl, hS51, trivial⟩
    · skip
      refine tr_aload_n dX12_due_26 rfl ?_
      refine q_iconst dX12_due_27 (by decide) ?_
      intro v53 h54
      refine q_callVi hE (M' := mX12_refused) (as := [_]) dX12_due_28 lk12_76 inX12_refused seX12_refused myX12_refused (by decide) ⟨by decide, by decide⟩ rfl (kR15 hS21.1 ta0) (Nat.le_of_ble_eq_true rfl) rfl rfl (by decide) (by decide) (k_X12_refused hS21.1 ta0) ?_
      rintro v59 cn' K' N' I55 R56 L57 ⟨rfl, rfl, rfl, rfl, rfl, g58, -⟩
      have hS60 := hS21.tr g58 (by decide +kernel) (by decide +kernel)
      have c61 : I55 a0 0 = v18 := (g58.cell ta0 (by decide +kernel)).trans e22
      exact tr_iret hZ dX12_due_31 rfl (by decide) (by decide) ⟨v59, rfl, rfl, rfl, rfl, rfl, rfl, hS60, trivial⟩
set_option maxHeartbeats 4000000 in
theorem k_X12_isTurner {l : Launch} {T : Nat → Nat} {cn : Nat} {K N : Nat → Nat} {I0 : cz_I} {R0 : cz_R} {L0 : cz_L} {d : Int} (hW0 : Wf T cn K N I0 R0 d) {a0 : Nat} (ta0 : T a0 = 15) {x1 : Int32} : ConE l mX12_isTurner [.ref a0, .int x1] cn K N I0 R0 L0 (ca_i (fun v cn' K' N' I' R' L' => cn = cn' ∧ K = K' ∧ N = N' ∧ I0 = I' ∧ R0 = R' ∧ L0 = L' ∧ (0 ≤ v.toInt ∧ v.toInt ≤ 1) ∧ ((v.toInt = 1 → (0 ≤ x1.toInt ∧ x1.toInt ≤ 4))) ∧ (R0 a0 3 = none → v.toInt = 0) ∧ True)) := by
  refine ConE.of (by decide +kernel) rfl (Nat.le_of_ble_eq_true rfl) rfl (fun X hX hZ hE => ?_)
  subst hX
  rcases rf15_3 hW0 ta0 with d2 | ⟨a1, d2, ta1⟩
  · skip
    refine tr_aload_n dX12_isTurner_0 rfl ?_
    refine tr_getN dX12_isTurner_1 fl12_385 (kR15 hW0 ta0) d2 ?_
    refine tr_ifnullN 26 dX12_isTurner_4 (by decide) ?_
    refine q_iconst dX12_isTurner_26 (by decide) ?_
    intro v3 h4
    exact tr_zret hZ dX12_isTurner_27 rfl (ti_b01 (by exact om_d99fa9e4 h4) (by exact om_d3de7ec9 h4)) (by decide) (by decide) ⟨v3, rfl, rfl, rfl, rfl, rfl, rfl, rfl, (by exact om_3b50ecb9 h4), (by exact om_59b4d513 h4), (fun _ => by exact om_29f55913 h4), trivial⟩
  · skip
    refine tr_aload_n dX12_isTurner_0 rfl ?_
    refine tr_getR dX12_isTurner_1 fl12_385 (kR15 hW0 ta0) d2 ?_
    refine tr_ifnull dX12_isTurner_4 ?_
    refine tr_iload_n dX12_isTurner_7 rfl ?_
    refine q_if_lt 26 dX12_isTurner_8 (by decide) (fun h5 => ?_) (fun h5 => ?_)
    · skip
      refine q_iconst dX12_isTurner_26 (by decide) ?_
      intro v6 h7
      exact tr_zret hZ dX12_isTurner_27 rfl (ti_b01 (by exact om_d99fa9e4 h7) (by exact om_d3de7ec9 h7)) (by decide) (by decide) ⟨v6, rfl, rfl, rfl, rfl, rfl, rfl, rfl, (by exact om_3b50ecb9 h7), (by exact om_59b4d513 h7), (fun z => by rw [d2] at z; cases z), trivial⟩
    · skip
      refine tr_iload_n dX12_isTurner_11 rfl ?_
      refine tr_aload_n dX12_isTurner_12 rfl ?_
      refine tr_getR dX12_isTurner_13 fl12_385 (kR15 hW0 ta0) d2 ?_
      obtain ⟨v8, c9⟩ : ∃ v, I0 a1 4 = v := ⟨_, rfl⟩
      have b10 := iv14_4 hW0 ta1 c9
      refine q_getI dX12_isTurner_16 fl12_315 (kR14 hW0 ta1) c9 ?_
      refine q_icmp_ge 26 dX12_isTurner_19 (by decide) (fun h11 => ?_) (fun h11 => ?_)
      · skip
        refine q_iconst dX12_isTurner_26 (by decide) ?_
        intro v12 h13
        exact tr_zret hZ dX12_isTurner_27 rfl (ti_b01 (by exact om_d99fa9e4 h13) (by exact om_d3de7ec9 h13)) (by decide) (by decide) ⟨v12, rfl, rfl, rfl, rfl, rfl, rfl, rfl, (by exact om_3b50ecb9 h13), (by exact om_59b4d513 h13), (fun z => by rw [d2] at z; cases z), trivial⟩
      · skip
        refine q_iconst dX12_isTurner_22 (by decide) ?_
        intro v14 h15
        refine tr_goto 27 dX12_isTurner_23 (by decide) ?_
        exact tr_zret hZ dX12_isTurner_27 rfl (ti_b01 (by exact om_f9079521 h15) (by exact om_e6632817 h15)) (by decide) (by decide) ⟨v14, rfl, rfl, rfl, rfl, rfl, rfl, rfl, (by exact om_d753bc65 h15), (by exact om_8057f38e h5 b10.2 b10.1 h11), (fun z => by rw [d2] at z; cases z), trivial⟩
set_option maxHeartbeats 4000000 in
theorem k_X12_has {l : Launch} {T : Nat → Nat} {cn : Nat} {K N : Nat → Nat} {I0 : cz_I} {R0 : cz_R} {L0 : cz_L} {d : Int} (hW0 : Wf T cn K N I0 R0 d) {x0 : Int32} {x1 : Int32} : ConE l mX12_has [.int x0, .int x1] cn K N I0 R0 L0 (ca_i (fun v cn' K' N' I' R' L' => cn = cn' ∧ K = K' ∧ N = N' ∧ I0 = I' ∧ R0 = R' ∧ L0 = L' ∧ (0 ≤ v.toInt ∧ v.toInt ≤ 1) ∧ True)) := by
  refine ConE.of (by decide +kernel) rfl (Nat.le_of_ble_eq_true rfl) rfl (fun X hX hZ hE => ?_)
  subst hX
  refine tr_iload_n dX12_has_0 rfl ?_
  refine tr_iload_n dX12_has_1 rfl ?_
  refine q_ishr dX12_has_2 ?_
  intro v1
  refine q_iconst dX12_has_3 (by decide) ?_
  intro v2 h3
  refine q_iand dX12_has_4 ?_
  intro v4
  refine q_iconst dX12_has_5 (by decide) ?_
  intro v5 h6
  refine q_icmp_ne 13 dX12_has_6 (by decide) (fun h7 => ?_) (fun h7 => ?_)
  · skip
    refine q_iconst dX12_has_13 (by decide) ?_
    intro v8 h9
    exact tr_zret hZ dX12_has_14 rfl (ti_b01 (by exact om_d99fa9e4 h9) (by exact om_d3de7ec9 h9)) (by decide) (by decide) ⟨v8, rfl, rfl, rfl, rfl, rfl, rfl, rfl, (by exact om_3b50ecb9 h9), trivial⟩
  · skip
    refine q_iconst dX12_has_9 (by decide) ?_
    intro v10 h11
    refine tr_goto 14 dX12_has_10 (by decide) ?_
    exact tr_zret hZ dX12_has_14 rfl (ti_b01 (by exact om_f9079521 h11) (by exact om_e6632817 h11)) (by decide) (by decide) ⟨v10, rfl, rfl, rfl, rfl, rfl, rfl, rfl, (by exact om_d753bc65 h11), trivial⟩
set_option maxHeartbeats 4000000 in
theorem k_X12_isAwake {l : Launch} {T : Nat → Nat} {cn : Nat} {K N : Nat → Nat} {I0 : cz_I} {R0 : cz_R} {L0 : cz_L} {d : Int} (hW0 : Wf T cn K N I0 R0 d) {a0 : Nat} (ta0 : T a0 = 15) {x1 : Int32} (hx1 : 0 ≤ x1.toInt ∧ x1.toInt ≤ 4) {x2 : Int32} (hx2 : 0 ≤ x2.toInt ∧ x2.toInt ≤ 239) {x3 : Int32} (nn3 : ∃ b, R0 a0 3 = some b) : ConE l mX12_isAwake [.ref a0, .int x1, .int x2, .int x3] cn K N I0 R0 L0 (ca_i (fun v cn' K' N' I' R' L' => cn = cn' ∧ K = K' ∧ N = N' ∧ I0 = I' ∧ R0 = R' ∧ L0 = L' ∧ (0 ≤ v.toInt ∧ v.toInt ≤ 1) ∧ True)) := by
  refine ConE.of (by decide +kernel) rfl (Nat.le_of_ble_eq_true rfl) rfl (fun X hX hZ hE => ?_)
  subst hX
  obtain ⟨a1, d2⟩ := nn3
  have ta1 : T a1 = 14 := hW0.rsN ta0 rfl d2
  refine tr_iload_n dX12_isAwake_0 rfl ?_
  refine tr_aload_n dX12_isAwake_1 rfl ?_
  refine tr_getR dX12_isAwake_2 fl12_385 (kR15 hW0 ta0) d2 ?_
  obtain ⟨a3, d4, ta3⟩ := rf14_21 hW0 ta1
  refine tr_getR dX12_isAwake_5 fl12_336 (kR14 hW0 ta1) d4 ?_
  refine tr_iload_n dX12_isAwake_8 rfl ?_
  refine q_iald dX12_isAwake_9 (kR64 hW0 ta3) (ti_in (nR64 hW0 ta3) (by exact om_e221d927 hx1.2 hx1.1) (by exact om_55606a9c hx1.2 hx1.1)) ?_
  intro v5 c6
  refine tr_aload_n dX12_isAwake_10 rfl ?_
  refine tr_getR dX12_isAwake_11 fl12_385 (kR15 hW0 ta0) d2 ?_
  obtain ⟨a7, d8, ta7⟩ := rf14_22 hW0 ta1
  refine tr_getR dX12_isAwake_14 fl12_339 (kR14 hW0 ta1) d8 ?_
  refine tr_iload_n dX12_isAwake_17 rfl ?_
  refine q_iald dX12_isAwake_18 (kR65 hW0 ta7) (ti_in (nR65 hW0 ta7) (by exact om_e221d927 hx1.2 hx1.1) (by exact om_55606a9c hx1.2 hx1.1)) ?_
  intro v9 c10
  refine q_iconst dX12_isAwake_19 (by decide) ?_
  intro v11 h12
  refine q_isub dX12_isAwake_20 ?_
  intro v13
  refine q_callSi hE (M' := mX12_in) (as := [_, _, _]) dX12_isAwake_21 lk12_149 inX12_in myX12_in ⟨by decide, by decide⟩ rfl (Nat.le_of_ble_eq_true rfl) rfl rfl (by decide) (by decide) (k_X12_in hW0 ) ?_
  rintro v18 cn' K' N' I14 R15 L16 ⟨rfl, rfl, rfl, rfl, rfl, rfl, h19, p20, p21, -⟩
  refine q_if_eq 29 dX12_isAwake_24 (by decide) (fun h22 => ?_) (fun h22 => ?_)
  · skip
    refine tr_aload_n dX12_isAwake_29 rfl ?_
    refine tr_getR dX12_isAwake_30 fl12_385 (kR15 hW0 ta0) d2 ?_
    obtain ⟨a23, d24, ta23⟩ := rf14_20 hW0 ta1
    refine tr_getR dX12_isAwake_33 fl12_333 (kR14 hW0 ta1) d24 ?_
    refine tr_iload_n dX12_isAwake_36 rfl ?_
    refine q_iald dX12_isAwake_37 (kR63 hW0 ta23) (ti_in (nR63 hW0 ta23) (by exact om_e221d927 hx1.2 hx1.1) (by exact om_55606a9c hx1.2 hx1.1)) ?_
    intro v25 c26
    refine q_iconst dX12_isAwake_38 (by decide) ?_
    intro v27 h28
    refine q_icmp_ne 44 dX12_isAwake_39 (by decide) (fun h29 => ?_) (fun h29 => ?_)
    · skip
      refine tr_aload_n dX12_isAwake_44 rfl ?_
      obtain ⟨a30, d31, ta30⟩ := rf15_24 hW0 ta0
      refine tr_getR dX12_isAwake_45 fl12_37 (kR15 hW0 ta0) d31 ?_
      refine tr_iload_n dX12_isAwake_48 rfl ?_
      refine q_zald dX12_isAwake_49 (kR84 hW0 ta30) (ti_in (nR84 hW0 ta30) (by exact om_2ab23ca2 hx2.2 hx2.1) (by exact om_c695125b hx2.2 hx2.1)) ?_
      intro v32 c33
      have b34 := iv84 hW0 ta30 c33
      refine q_if_eq 55 dX12_isAwake_50 (by decide) (fun h35 => ?_) (fun h35 => ?_)
      · skip
        refine q_iconst dX12_isAwake_55 (by decide) ?_
        intro v36 h37
        refine tr_istore dX12_isAwake_56 (by decide) (by decide) ?_
        have lp45 : ∀ (fu : Nat) (ls : Nat → Option Value) (v38 : Int32), ls 0 = some (.ref a0) → ls 1 = some (.int x1) → ls 2 = some (.int x2) → ls 3 = some (.int x3) → ls 4 = some (.int v38) → 0 ≤ v38.toInt → (-v38.toInt + 2147483647).toNat < fu → Tr X mX12_isAwake 58 ls [] cn K N I0 R0 L0 0 0 := by
          intro fu
          induction fu with
          | zero => intros; rename_i hz; exact absurd hz (Nat.not_lt_zero _)
          | succ fu ih45 =>
            intro ls v38 hl39 hl40 hl41 hl42 hl43 g44 hm45
            refine tr_iload dX12_isAwake_58 hl43 ?_
            refine tr_aload_n dX12_isAwake_60 hl39 ?_
            refine tr_getR dX12_isAwake_61 fl12_385 (kR15 hW0 ta0) d2 ?_
            obtain ⟨v47, c48⟩ : ∃ v, I0 a1 5 = v := ⟨_, rfl⟩
            have b49 := iv14_5 hW0 ta1 c48
            refine q_getI dX12_isAwake_64 fl12_349 (kR14 hW0 ta1) c48 ?_
            refine q_icmp_ge 141 dX12_isAwake_67 (by decide) (fun h50 => ?_) (fun h50 => ?_)
            · skip
              refine q_iconst dX12_isAwake_141 (by decide) ?_
              intro v51 h52
              exact tr_zret hZ dX12_isAwake_142 rfl (ti_b01 (by exact om_d99fa9e4 h52) (by exact om_d3de7ec9 h52)) (by decide) (by decide) ⟨v51, rfl, rfl, rfl, rfl, rfl, rfl, rfl, (by exact om_3b50ecb9 h52), trivial⟩
            · skip
              refine tr_iload_n dX12_isAwake_70 hl42 ?_
              refine tr_iload dX12_isAwake_71 hl43 ?_
              refine q_callSi hE (M' := mX12_has) (as := [_, _]) dX12_isAwake_73 lk12_329 inX12_has myX12_has ⟨by decide, by decide⟩ rfl (Nat.le_of_ble_eq_true rfl) rfl rfl (by decide) (by decide) (k_X12_has hW0 ) ?_
              rintro v57 cn' K' N' I53 R54 L55 ⟨rfl, rfl, rfl, rfl, rfl, rfl, h58, -⟩
              refine q_if_eq 135 dX12_isAwake_76 (by decide) (fun h59 => ?_) (fun h59 => ?_)
              · skip
                refine q_iincE dX12_isAwake_135 hl43 (by decide) (by decide) (by intro j1 j2; exact om_1c62f9ff g44 b49.2 b49.1 h50 j2) ?_
                intro v60 h61
                refine tr_goto 58 dX12_isAwake_138 (by decide) ?_
                exact ih45 _ v60 hl39 hl40 hl41 hl42 rfl (by exact om_68881c41 g44 h61) (by exact om_78718bb6 g44 hm45 b49.2 b49.1 h50 h61)
              · skip
                refine tr_aload_n dX12_isAwake_79 hl39 ?_
                refine tr_getR dX12_isAwake_80 fl12_385 (kR15 hW0 ta0) d2 ?_
                obtain ⟨a62, d63, ta62⟩ := rf14_26 hW0 ta1
                refine tr_getR dX12_isAwake_83 fl12_358 (kR14 hW0 ta1) d63 ?_
                refine tr_iload dX12_isAwake_86 hl43 ?_
                refine q_iald dX12_isAwake_88 (kR69 hW0 ta62) (ti_in (nR69 hW0 ta62) (by exact om_2cfcd5a5 g44) (by exact om_2b874313 b49.2 b49.1 h50)) ?_
                intro v64 c65
                refine tr_iload_n dX12_isAwake_89 hl40 ?_
                refine q_icmp_ne 135 dX12_isAwake_90 (by decide) (fun h66 => ?_) (fun h66 => ?_)
                · skip
                  refine q_iincE dX12_isAwake_135 hl43 (by decide) (by decide) (by intro j1 j2; exact om_1c62f9ff g44 b49.2 b49.1 h50 j2) ?_
                  intro v67 h68
                  refine tr_goto 58 dX12_isAwake_138 (by decide) ?_
                  exact ih45 _ v67 hl39 hl40 hl41 hl42 rfl (by exact om_68881c41 g44 h68) (by exact om_901c3bda g44 hm45 b49.2 b49.1 h50 h58.2 h58.1 h59 h66 h68)
                · skip
                  refine tr_iload_n dX12_isAwake_93 hl41 ?_
                  refine tr_aload_n dX12_isAwake_94 hl39 ?_
                  refine tr_getR dX12_isAwake_95 fl12_385 (kR15 hW0 ta0) d2 ?_
                  obtain ⟨a69, d70, ta69⟩ := rf14_27 hW0 ta1
                  refine tr_getR dX12_isAwake_98 fl12_361 (kR14 hW0 ta1) d70 ?_
                  refine tr_iload dX12_isAwake_101 hl43 ?_
                  refine q_iald dX12_isAwake_103 (kR70 hW0 ta69) (ti_in (nR70 hW0 ta69) (by exact om_2cfcd5a5 g44) (by exact om_2b874313 b49.2 b49.1 h50)) ?_
                  intro v71 c72
                  refine tr_aload_n dX12_isAwake_104 hl39 ?_
                  refine tr_getR dX12_isAwake_105 fl12_385 (kR15 hW0 ta0) d2 ?_
                  refine tr_getR dX12_isAwake_108 fl12_361 (kR14 hW0 ta1) d70 ?_
                  refine tr_iload dX12_isAwake_111 hl43 ?_
                  refine q_iald dX12_isAwake_113 (kR70 hW0 ta69) (ti_in (nR70 hW0 ta69) (by exact om_2cfcd5a5 g44) (by exact om_2b874313 b49.2 b49.1 h50)) ?_
                  intro v73 c74
                  refine tr_aload_n dX12_isAwake_114 hl39 ?_
                  refine tr_getR dX12_isAwake_115 fl12_385 (kR15 hW0 ta0) d2 ?_
                  obtain ⟨a75, d76, ta75⟩ := rf14_28 hW0 ta1
                  refine tr_getR dX12_isAwake_118 fl12_364 (kR14 hW0 ta1) d76 ?_
                  refine tr_iload dX12_isAwake_121 hl43 ?_
                  refine q_iald dX12_isAwake_123 (kR71 hW0 ta75) (ti_in (nR71 hW0 ta75) (by exact om_2cfcd5a5 g44) (by exact om_2b874313 b49.2 b49.1 h50)) ?_
                  intro v77 c78
                  refine q_iadd dX12_isAwake_124 ?_
                  intro v79
                  refine q_iconst dX12_isAwake_125 (by decide) ?_
                  intro v80 h81
                  refine q_isub dX12_isAwake_126 ?_
                  intro v82
                  refine q_callSi hE (M' := mX12_in) (as := [_, _, _]) dX12_isAwake_127 lk12_149 inX12_in myX12_in ⟨by decide, by decide⟩ rfl (Nat.le_of_ble_eq_true rfl) rfl rfl (by decide) (by decide) (k_X12_in hW0 ) ?_
                  rintro v87 cn' K' N' I83 R84 L85 ⟨rfl, rfl, rfl, rfl, rfl, rfl, h88, p89, p90, -⟩
                  refine q_if_eq 135 dX12_isAwake_130 (by decide) (fun h91 => ?_) (fun h91 => ?_)
                  · skip
                    refine q_iincE dX12_isAwake_135 hl43 (by decide) (by decide) (by intro j1 j2; exact om_1c62f9ff g44 b49.2 b49.1 h50 j2) ?_
                    intro v92 h93
                    refine tr_goto 58 dX12_isAwake_138 (by decide) ?_
                    exact ih45 _ v92 hl39 hl40 hl41 hl42 rfl (by exact om_68881c41 g44 h93) (by exact om_c766e261 g44 hm45 b49.2 b49.1 h50 h58.2 h58.1 h59 p89 p90 h91 h93)
                  · skip
                    refine q_iconst dX12_isAwake_133 (by decide) ?_
                    intro v94 h95
                    exact tr_zret hZ dX12_isAwake_134 rfl (ti_b01 (by exact om_f9079521 h95) (by exact om_e6632817 h95)) (by decide) (by decide) ⟨v94, rfl, rfl, rfl, rfl, rfl, rfl, rfl, (by exact om_d753bc65 h95), trivial⟩
        exact lp45 _ _ v36 rfl rfl rfl rfl rfl (by exact om_d99fa9e4 h37) (Nat.lt_succ_self _)
      · skip
        refine q_iconst dX12_isAwake_53 (by decide) ?_
        intro v96 h97
        exact tr_zret hZ dX12_isAwake_54 rfl (ti_b01 (by exact om_f9079521 h97) (by exact om_e6632817 h97)) (by decide) (by decide) ⟨v96, rfl, rfl, rfl, rfl, rfl, rfl, rfl, (by exact om_d753bc65 h97), trivial⟩
    · skip
      refine q_iconst dX12_isAwake_42 (by decide) ?_
      intro v98 h99
      exact tr_zret hZ dX12_isAwake_43 rfl (ti_b01 (by exact om_d99fa9e4 h99) (by exact om_d3de7ec9 h99)) (by decide) (by decide) ⟨v98, rfl, rfl, rfl, rfl, rfl, rfl, rfl, (by exact om_3b50ecb9 h99), trivial⟩
  · skip
    refine q_iconst dX12_isAwake_27 (by decide) ?_
    intro v100 h101
    exact tr_zret hZ dX12_isAwake_28 rfl (ti_b01 (by exact om_f9079521 h101) (by exact om_e6632817 h101)) (by decide) (by decide) ⟨v100, rfl, rfl, rfl, rfl, rfl, rfl, rfl, (by exact om_d753bc65 h101), trivial⟩
def wi_X12_awake : List Nat := [960, 961, 962, 5247, 5311, 5375, 5439, 5503, 5567]
def wr_X12_awake : List Nat := []
set_option maxHeartbeats 4000000 in
theorem k_X12_awake {l : Launch} {T : Nat → Nat} {cn : Nat} {K N : Nat → Nat} {I0 : cz_I} {R0 : cz_R} {L0 : cz_L} {d : Int} (hW0 : Wf T cn K N I0 R0 d) {a0 : Nat} (ta0 : T a0 = 15) {x1 : Int32} {x2 : Int32} : ConE l mX12_awake [.ref a0, .int x1, .int x2] cn K N I0 R0 L0 (ca_i (fun v cn' K' N' I' R' L' => cn = cn' ∧ K = K' ∧ N = N' ∧ R0 = R' ∧ L0 = L' ∧ St T cn K N d wi_X12_awake wr_X12_awake I0 R0 I' R0 ∧ True)) := by
  refine ConE.of (by decide +kernel) rfl (Nat.le_of_ble_eq_true rfl) rfl (fun X hX hZ hE => ?_)
  subst hX
  have hS0 : St T cn K N d wi_X12_awake wr_X12_awake I0 R0 I0 R0 := St.rf0 hW0
  rcases rf15_3 hW0 ta0 with d2 | ⟨a1, d2, ta1⟩
  · skip
    refine tr_aload_n dX12_awake_0 rfl ?_
    refine q_iconst dX12_awake_1 (by decide) ?_
    intro v3 h4
    refine q_putI dX12_awake_2 fl12_70 (kR15 hS0.1 ta0) (Or.inl rfl) hS0 ta0 (iokF rfl) rfl (by decide +kernel) ?_
    intro I5 hS6 e7 f8
    refine tr_aload_n dX12_awake_5 rfl ?_
    refine tr_iload_n dX12_awake_6 rfl ?_
    refine q_callVi hE (M' := mX12_isTurner) (as := [_]) dX12_awake_7 lk12_452 inX12_isTurner seX12_isTurner myX12_isTurner (by decide) ⟨by decide, by decide⟩ rfl (kR15 hS6.1 ta0) (Nat.le_of_ble_eq_true rfl) rfl rfl (by decide) (by decide) (k_X12_isTurner hS6.1 ta0) ?_
    rintro v13 cn' K' N' I9 R10 L11 ⟨rfl, rfl, rfl, rfl, rfl, rfl, h14, p15, p16, -⟩
    have p17 := (p16 d2)
    refine q_if_ne 19 dX12_awake_10 (by decide) (fun h18 => ?_) (fun h18 => ?_)
    · skip
      exfalso; exact om_3a97d4a5 p17 h18
    · skip
      refine tr_aload_n dX12_awake_13 rfl ?_
      refine q_iconst dX12_awake_14 (by decide) ?_
      intro v19 h20
      refine q_callVi hE (M' := mX12_refused) (as := [_]) dX12_awake_15 lk12_76 inX12_refused seX12_refused myX12_refused (by decide) ⟨by decide, by decide⟩ rfl (kR15 hS6.1 ta0) (Nat.le_of_ble_eq_true rfl) rfl rfl (by decide) (by decide) (k_X12_refused hS6.1 ta0) ?_
      rintro v25 cn' K' N' I21 R22 L23 ⟨rfl, rfl, rfl, rfl, rfl, g24, -⟩
      have hS26 := hS6.tr g24 (by decide +kernel) (by decide +kernel)
      have c27 : I21 a0 0 = v3 := (g24.cell ta0 (by decide +kernel)).trans e7
      exact tr_iret hZ dX12_awake_18 rfl (by decide) (by decide) ⟨v25, rfl, rfl, rfl, rfl, rfl, rfl, hS26, trivial⟩
  · skip
    refine tr_aload_n dX12_awake_0 rfl ?_
    refine q_iconst dX12_awake_1 (by decide) ?_
    intro v28 h29
    refine q_putI dX12_awake_2 fl12_70 (kR15 hS0.1 ta0) (Or.inl rfl) hS0 ta0 (iokF rfl) rfl (by decide +kernel) ?_
    intro I30 hS31 e32 f33
    refine tr_aload_n dX12_awake_5 rfl ?_
    refine tr_iload_n dX12_awake_6 rfl ?_
    refine q_callVi hE (M' := mX12_isTurner) (as := [_]) dX12_awake_7 lk12_452 inX12_isTurner seX12_isTurner myX12_isTurner (by decide) ⟨by decide, by decide⟩ rfl (kR15 hS31.1 ta0) (Nat.le_of_ble_eq_true rfl) rfl rfl (by decide) (by decide) (k_X12_isTurner hS31.1 ta0) ?_
    rintro v38 cn' K' N' I34 R35 L36 ⟨rfl, rfl, rfl, rfl, rfl, rfl, h39, p40, p41, -⟩
    refine q_if_ne 19 dX12_awake_10 (by decide) (fun h42 => ?_) (fun h42 => ?_)
    · skip
      refine tr_aload_n dX12_awake_19 rfl ?_
      refine tr_iload_n dX12_awake_20 rfl ?_
      refine q_callVi hE (M' := mX12_isMinute) (as := [_]) dX12_awake_21 lk12_443 inX12_isMinute seX12_isMinute myX12_isMinute (by decide) ⟨by decide, by decide⟩ rfl (kR15 hS31.1 ta0) (Nat.le_of_ble_eq_true rfl) rfl rfl (by decide) (by decide) (k_X12_isMinute hS31.1 ta0 ⟨_, d2⟩) ?_
      rintro v47 cn' K' N' I43 R44 L45 ⟨rfl, rfl, rfl, rfl, rfl, rfl, h48, p49, -⟩
      refine q_if_ne 33 dX12_awake_24 (by decide) (fun h50 => ?_) (fun h50 => ?_)
      · skip
        refine tr_aload_n dX12_awake_33 rfl ?_
        refine q_iconst dX12_awake_34 (by decide) ?_
        intro v51 h52
        refine q_callVv hE (M' := mX12_laysLight) (as := [_]) dX12_awake_35 lk12_434 inX12_laysLight seX12_laysLight myX12_laysLight (by decide) ⟨by decide, by decide⟩ rfl (kR15 hS31.1 ta0) (Nat.le_of_ble_eq_true rfl) rfl rfl (by decide) (by decide) (k_X12_laysLight hS31.1 ta0 ⟨_, d2⟩) ?_
        rintro cn' K' N' I53 R54 L55 ⟨rfl, rfl, rfl, rfl, rfl, g56, -⟩
        have hS58 := hS31.tr g56 (by decide +kernel) (by decide +kernel)
        have c59 : I53 a0 0 = v28 := (g56.cell ta0 (by decide +kernel)).trans e32
        refine tr_aload_n dX12_awake_38 rfl ?_
        refine tr_aload_n dX12_awake_39 rfl ?_
        refine tr_iload_n dX12_awake_40 rfl ?_
        refine tr_iload_n dX12_awake_41 rfl ?_
        refine tr_aload_n dX12_awake_42 rfl ?_
        obtain ⟨a60, d61, ta60⟩ := rf15_16 hW0 ta0
        refine tr_getR dX12_awake_43 fl12_17 (kR15 hS58.1 ta0) d61 ?_
        refine q_iconst dX12_awake_46 (by decide) ?_
        intro v62 h63
        obtain ⟨v64, c65⟩ : ∃ v, I0 a60 0 = v := ⟨_, rfl⟩
        refine q_iald dX12_awake_47 (kR77 hS58.1 ta60) (ti_in (nR77 hS58.1 ta60) (by exact om_d99fa9e4 h63) (by exact om_152819bd h63)) ?_
        intro v66 c67
        rw [show v62.toNatClampNeg = 0 from ti_cl (by exact om_71345643 h63)] at c67
        obtain rfl : v64 = v66 := (((hS58.cell ta60 (by decide +kernel)).trans c65)).symm.trans c67
        refine q_callVi hE (M' := mX12_isAwake) (as := [_, _, _]) dX12_awake_48 lk12_419 inX12_isAwake seX12_isAwake myX12_isAwake (by decide) ⟨by decide, by decide⟩ rfl (kR15 hS58.1 ta0) (Nat.le_of_ble_eq_true rfl) rfl rfl (by decide) (by decide) (k_X12_isAwake hS58.1 ta0 (by exact om_35a92c3d h39.2 h39.1 p40 h42 h48.2 h48.1 p49 h50) (by exact om_ec1a32e4 h48.2 h48.1 p49 h50) ⟨_, d2⟩) ?_
        rintro v72 cn' K' N' I68 R69 L70 ⟨rfl, rfl, rfl, rfl, rfl, rfl, h73, -⟩
        refine q_if_eq 58 dX12_awake_51 (by decide) (fun h74 => ?_) (fun h74 => ?_)
        · skip
          refine q_iconst dX12_awake_58 (by decide) ?_
          intro v75 h76
          refine q_callVi hE (M' := mX12_good) (as := [_]) dX12_awake_59 lk12_81 inX12_good seX12_good myX12_good (by decide) ⟨by decide, by decide⟩ rfl (kR15 hS58.1 ta0) (Nat.le_of_ble_eq_true rfl) rfl rfl (by decide) (by decide) (k_X12_good hS58.1 ta0) ?_
          rintro v81 cn' K' N' I77 R78 L79 ⟨rfl, rfl, rfl, rfl, rfl, g80, -⟩
          have hS82 := hS58.tr g80 (by decide +kernel) (by decide +kernel)
          have c83 : I77 a0 0 = v28 := (g80.cell ta0 (by decide +kernel)).trans c59
          exact tr_iret hZ dX12_awake_62 rfl (by decide) (by decide) ⟨v81, rfl, rfl, rfl, rfl, rfl, rfl, hS82, trivial⟩
        · skip
          refine q_iconst dX12_awake_54 (by decide) ?_
          intro v84 h85
          refine tr_goto 59 dX12_awake_55 (by decide) ?_
          refine q_callVi hE (M' := mX12_good) (as := [_]) dX12_awake_59 lk12_81 inX12_good seX12_good myX12_good (by decide) ⟨by decide, by decide⟩ rfl (kR15 hS58.1 ta0) (Nat.le_of_ble_eq_true rfl) rfl rfl (by decide) (by decide) (k_X12_good hS58.1 ta0) ?_
          rintro v90 cn' K' N' I86 R87 L88 ⟨rfl, rfl, rfl, rfl, rfl, g89, -⟩
          have hS91 := hS58.tr g89 (by decide +kernel) (by decide +kernel)
          have c92 : I86 a0 0 = v28 := (g89.cell ta0 (by decide +kernel)).trans c59
          exact tr_iret hZ dX12_awake_62 rfl (by decide) (by decide) ⟨v90, rfl, rfl, rfl, rfl, rfl, rfl, hS91, trivial⟩
      · skip
        refine tr_aload_n dX12_awake_27 rfl ?_
        refine q_iconst dX12_awake_28 (by decide) ?_
        intro v93 h94
        refine q_callVi hE (M' := mX12_refused) (as := [_]) dX12_awake_29 lk12_76 inX12_refused seX12_refused myX12_refused (by decide) ⟨by decide, by decide⟩ rfl (kR15 hS31.1 ta0) (Nat.le_of_ble_eq_true rfl) rfl rfl (by decide) (by decide) (k_X12_refused hS31.1 ta0) ?_
        rintro v99 cn' K' N' I95 R96 L97 ⟨rfl, rfl, rfl, rfl, rfl, g98, -⟩
        have hS100 := hS31.tr g98 (by decide +kernel) (by decide +kernel)
        have c101 : I95 a0 0 = v28 := (g98.cell ta0 (by decide +kernel)).trans e32
        exact tr_iret hZ dX12_awake_32 rfl (by decide) (by decide) ⟨v99, rfl, rfl, rfl, rfl, rfl, rfl, hS100, trivial⟩
    · skip
      refine tr_aload_n dX12_awake_13 rfl ?_
      refine q_iconst dX12_awake_14 (by decide) ?_
      intro v102 h103
      refine q_callVi hE (M' := mX12_refused) (as := [_]) dX12_awake_15 lk12_76 inX12_refused seX12_refused myX12_refused (by decide) ⟨by decide, by decide⟩ rfl (kR15 hS31.1 ta0) (Nat.le_of_ble_eq_true rfl) rfl rfl (by decide) (by decide) (k_X12_refused hS31.1 ta0) ?_
      rintro v108 cn' K' N' I104 R105 L106 ⟨rfl, rfl, rfl, rfl, rfl, g107, -⟩
      have hS109 := hS31.tr g107 (by decide +kernel) (by decide +kernel)
      have c110 : I104 a0 0 = v28 := (g107.cell ta0 (by decide +kernel)).trans e32
      exact tr_iret hZ dX12_awake_18 rfl (by decide) (by decide) ⟨v108, rfl, rfl, rfl, rfl, rfl, rfl, hS109, trivial⟩
set_option maxHeartbeats 4000000 in
theorem k_X12_isInAlmanac {l : Launch} {T : Nat → Nat} {cn : Nat} {K N : Nat → Nat} {I0 : cz_I} {R0 : cz_R} {L0 : cz_L} {d : Int} (hW0 : Wf T cn K N I0 R0 d) {a0 : Nat} (ta0 : T a0 = 15) {x1 : Int32} (nn3 : ∃ b, R0 a0 3 = some b) : ConE l mX12_isInAlmanac [.ref a0, .int x1] cn K N I0 R0 L0 (ca_i (fun v cn' K' N' I' R' L' => cn = cn' ∧ K = K' ∧ N = N' ∧ I0 = I' ∧ R0 = R' ∧ L0 = L' ∧ (0 ≤ v.toInt ∧ v.toInt ≤ 1) ∧ True)) := by
  refine ConE.of (by decide +kernel) rfl (Nat.le_of_ble_eq_true rfl) rfl (fun X hX hZ hE => ?_)
  subst hX
  obtain ⟨a1, d2⟩ := nn3
  have ta1 : T a1 = 14 := hW0.rsN ta0 rfl d2
  refine q_iconst dX12_isInAlmanac_0 (by decide) ?_
  intro v3 h4
  refine tr_istore_n dX12_isInAlmanac_1 (by decide) (by decide) ?_
  have lp10 : ∀ (fu : Nat) (ls : Nat → Option Value) (v5 : Int32), ls 0 = some (.ref a0) → ls 1 = some (.int x1) → ls 2 = some (.int v5) → 0 ≤ v5.toInt → (-v5.toInt + 2147483647).toNat < fu → Tr X mX12_isInAlmanac 2 ls [] cn K N I0 R0 L0 0 0 := by
    intro fu
    induction fu with
    | zero => intros; rename_i hz; exact absurd hz (Nat.not_lt_zero _)
    | succ fu ih10 =>
      intro ls v5 hl6 hl7 hl8 g9 hm10
      refine tr_iload_n dX12_isInAlmanac_2 hl8 ?_
      refine tr_aload_n dX12_isInAlmanac_3 hl6 ?_
      refine tr_getR dX12_isInAlmanac_4 fl12_385 (kR15 hW0 ta0) d2 ?_
      obtain ⟨v12, c13⟩ : ∃ v, I0 a1 8 = v := ⟨_, rfl⟩
      have b14 := iv14_8 hW0 ta1 c13
      refine q_getI dX12_isInAlmanac_7 fl12_312 (kR14 hW0 ta1) c13 ?_
      refine q_icmp_ge 34 dX12_isInAlmanac_10 (by decide) (fun h15 => ?_) (fun h15 => ?_)
      · skip
        refine q_iconst dX12_isInAlmanac_34 (by decide) ?_
        intro v16 h17
        exact tr_zret hZ dX12_isInAlmanac_35 rfl (ti_b01 (by exact om_d99fa9e4 h17) (by exact om_d3de7ec9 h17)) (by decide) (by decide) ⟨v16, rfl, rfl, rfl, rfl, rfl, rfl, rfl, (by exact om_3b50ecb9 h17), trivial⟩
      · skip
        refine tr_aload_n dX12_isInAlmanac_13 hl6 ?_
        refine tr_getR dX12_isInAlmanac_14 fl12_385 (kR15 hW0 ta0) d2 ?_
        obtain ⟨a18, d19, ta18⟩ := rf14_16 hW0 ta1
        refine tr_getR dX12_isInAlmanac_17 fl12_306 (kR14 hW0 ta1) d19 ?_
        refine tr_iload_n dX12_isInAlmanac_20 hl8 ?_
        refine q_iald dX12_isInAlmanac_21 (kR59 hW0 ta18) (ti_in (nR59 hW0 ta18) (by exact om_2cfcd5a5 g9) (by exact om_5f13cc30 b14.2 b14.1 h15)) ?_
        intro v20 c21
        have b22 := iv59 hW0 ta18 c21
        refine tr_iload_n dX12_isInAlmanac_22 hl7 ?_
        refine q_icmp_ne 28 dX12_isInAlmanac_23 (by decide) (fun h23 => ?_) (fun h23 => ?_)
        · skip
          refine q_iincE dX12_isInAlmanac_28 hl8 (by decide) (by decide) (by intro j1 j2; exact om_4034714d g9 b14.2 b14.1 h15 j2) ?_
          intro v24 h25
          refine tr_goto 2 dX12_isInAlmanac_31 (by decide) ?_
          exact ih10 _ v24 hl6 hl7 rfl (by exact om_68881c41 g9 h25) (by exact om_8ec43a4b g9 hm10 b14.2 b14.1 h15 h23 h25)
        · skip
          refine q_iconst dX12_isInAlmanac_26 (by decide) ?_
          intro v26 h27
          exact tr_zret hZ dX12_isInAlmanac_27 rfl (ti_b01 (by exact om_f9079521 h27) (by exact om_e6632817 h27)) (by decide) (by decide) ⟨v26, rfl, rfl, rfl, rfl, rfl, rfl, rfl, (by exact om_d753bc65 h27), trivial⟩
  exact lp10 _ _ v3 rfl rfl rfl (by exact om_d99fa9e4 h4) (Nat.lt_succ_self _)
set_option maxHeartbeats 4000000 in
theorem k_X12_noticesIn {l : Launch} {T : Nat → Nat} {cn : Nat} {K N : Nat → Nat} {I0 : cz_I} {R0 : cz_R} {L0 : cz_L} {d : Int} (hW0 : Wf T cn K N I0 R0 d) {a0 : Nat} (ta0 : T a0 = 15) {x1 : Int32} (hx1 : 0 ≤ x1.toInt ∧ x1.toInt ≤ 4) {x2 : Int32} (hx2 : 0 ≤ x2.toInt ∧ x2.toInt ≤ 3) {x3 : Int32} (hx3 : 0 ≤ x3.toInt ∧ x3.toInt ≤ 239) (nn3 : ∃ b, R0 a0 3 = some b) : ConE l mX12_noticesIn [.ref a0, .int x1, .int x2, .int x3] cn K N I0 R0 L0 (ca_i (fun v cn' K' N' I' R' L' => cn = cn' ∧ K = K' ∧ N = N' ∧ I0 = I' ∧ R0 = R' ∧ L0 = L' ∧ (0 ≤ v.toInt ∧ v.toInt ≤ 1) ∧ True)) := by
  refine ConE.of (by decide +kernel) rfl (Nat.le_of_ble_eq_true rfl) rfl (fun X hX hZ hE => ?_)
  subst hX
  obtain ⟨a1, d2⟩ := nn3
  have ta1 : T a1 = 14 := hW0.rsN ta0 rfl d2
  refine tr_aload_n dX12_noticesIn_0 rfl ?_
  refine tr_getR dX12_noticesIn_1 fl12_385 (kR15 hW0 ta0) d2 ?_
  obtain ⟨a3, d4, ta3⟩ := rf14_20 hW0 ta1
  refine tr_getR dX12_noticesIn_4 fl12_333 (kR14 hW0 ta1) d4 ?_
  refine tr_iload_n dX12_noticesIn_7 rfl ?_
  refine q_iald dX12_noticesIn_8 (kR63 hW0 ta3) (ti_in (nR63 hW0 ta3) (by exact om_e221d927 hx1.2 hx1.1) (by exact om_55606a9c hx1.2 hx1.1)) ?_
  intro v5 c6
  refine tr_istore dX12_noticesIn_9 (by decide) (by decide) ?_
  refine tr_iload dX12_noticesIn_11 rfl ?_
  refine q_iconst dX12_noticesIn_13 (by decide) ?_
  intro v7 h8
  refine q_icmp_ne 25 dX12_noticesIn_14 (by decide) (fun h9 => ?_) (fun h9 => ?_)
  · skip
    refine tr_iload dX12_noticesIn_25 rfl ?_
    refine q_iconst dX12_noticesIn_27 (by decide) ?_
    intro v10 h11
    refine q_icmp_ne 40 dX12_noticesIn_28 (by decide) (fun h12 => ?_) (fun h12 => ?_)
    · skip
      refine tr_aload_n dX12_noticesIn_40 rfl ?_
      refine tr_iload_n dX12_noticesIn_41 rfl ?_
      refine tr_iload_n dX12_noticesIn_42 rfl ?_
      refine q_callVi hE (M' := mX12_seemsToIn) (as := [_, _]) dX12_noticesIn_43 lk12_416 inX12_seemsToIn seX12_seemsToIn myX12_seemsToIn (by decide) ⟨by decide, by decide⟩ rfl (kR15 hW0 ta0) (Nat.le_of_ble_eq_true rfl) rfl rfl (by decide) (by decide) (k_X12_seemsToIn hW0 ta0 (by exact om_6c59cd6a hx2) (by exact om_87537644 hx3)) ?_
      rintro v17 cn' K' N' I13 R14 L15 ⟨rfl, rfl, rfl, rfl, rfl, rfl, h18, -⟩
      exact tr_zret hZ dX12_noticesIn_46 rfl (ti_b01 (by exact om_ef03f1ae h18.2 h18.1) (by exact om_51ab244e h18.2 h18.1)) (by decide) (by decide) ⟨v17, rfl, rfl, rfl, rfl, rfl, rfl, rfl, (by exact om_be53a44c h18), trivial⟩
    · skip
      refine tr_aload_n dX12_noticesIn_31 rfl ?_
      refine tr_iload_n dX12_noticesIn_32 rfl ?_
      refine tr_iload_n dX12_noticesIn_33 rfl ?_
      refine q_callVi hE (M' := mX12_changesIn) (as := [_, _]) dX12_noticesIn_34 lk12_413 inX12_changesIn seX12_changesIn myX12_changesIn (by decide) ⟨by decide, by decide⟩ rfl (kR15 hW0 ta0) (Nat.le_of_ble_eq_true rfl) rfl rfl (by decide) (by decide) (k_X12_changesIn hW0 ta0 (by exact om_6c59cd6a hx2) (by exact om_87537644 hx3)) ?_
      rintro v23 cn' K' N' I19 R20 L21 ⟨rfl, rfl, rfl, rfl, rfl, rfl, h24, -⟩
      refine tr_goto 46 dX12_noticesIn_37 (by decide) ?_
      exact tr_zret hZ dX12_noticesIn_46 rfl (ti_b01 (by exact om_ef03f1ae h24.2 h24.1) (by exact om_51ab244e h24.2 h24.1)) (by decide) (by decide) ⟨v23, rfl, rfl, rfl, rfl, rfl, rfl, rfl, (by exact om_be53a44c h24), trivial⟩
  · skip
    refine tr_aload_n dX12_noticesIn_17 rfl ?_
    refine tr_iload_n dX12_noticesIn_18 rfl ?_
    refine q_callVi hE (M' := mX12_isInAlmanac) (as := [_]) dX12_noticesIn_19 lk12_410 inX12_isInAlmanac seX12_isInAlmanac myX12_isInAlmanac (by decide) ⟨by decide, by decide⟩ rfl (kR15 hW0 ta0) (Nat.le_of_ble_eq_true rfl) rfl rfl (by decide) (by decide) (k_X12_isInAlmanac hW0 ta0 ⟨_, d2⟩) ?_
    rintro v29 cn' K' N' I25 R26 L27 ⟨rfl, rfl, rfl, rfl, rfl, rfl, h30, -⟩
    refine tr_goto 46 dX12_noticesIn_22 (by decide) ?_
    exact tr_zret hZ dX12_noticesIn_46 rfl (ti_b01 (by exact om_ef03f1ae h30.2 h30.1) (by exact om_51ab244e h30.2 h30.1)) (by decide) (by decide) ⟨v29, rfl, rfl, rfl, rfl, rfl, rfl, rfl, (by exact om_be53a44c h30), trivial⟩
def wi_X12_notices : List Nat := [960, 961, 962, 5247, 5311, 5375, 5439, 5503, 5567]
def wr_X12_notices : List Nat := []
set_option maxHeartbeats 4000000 in
theorem k_X12_notices {l : Launch} {T : Nat → Nat} {cn : Nat} {K N : Nat → Nat} {I0 : cz_I} {R0 : cz_R} {L0 : cz_L} {d : Int} (hW0 : Wf T cn K N I0 R0 d) {a0 : Nat} (ta0 : T a0 = 15) {x1 : Int32} {x2 : Int32} {x3 : Int32} : ConE l mX12_notices [.ref a0, .int x1, .int x2, .int x3] cn K N I0 R0 L0 (ca_i (fun v cn' K' N' I' R' L' => cn = cn' ∧ K = K' ∧ N = N' ∧ R0 = R' ∧ L0 = L' ∧ St T cn K N d wi_X12_notices wr_X12_notices I0 R0 I' R0 ∧ True)) := by
  refine ConE.of (by decide +kernel) rfl (Nat.le_of_ble_eq_true rfl) rfl (fun X hX hZ hE => ?_)
  subst hX
  have hS0 : St T cn K N d wi_X12_notices wr_X12_notices I0 R0 I0 R0 := St.rf0 hW0
  rcases rf15_3 hW0 ta0 with d2 | ⟨a1, d2, ta1⟩
  · skip
    refine tr_aload_n dX12_notices_0 rfl ?_
    refine q_iconst dX12_notices_1 (by decide) ?_
    intro v3 h4
    refine q_putI dX12_notices_2 fl12_70 (kR15 hS0.1 ta0) (Or.inl rfl) hS0 ta0 (iokF rfl) rfl (by decide +kernel) ?_
    intro I5 hS6 e7 f8
    refine tr_aload_n dX12_notices_5 rfl ?_
    refine tr_iload_n dX12_notices_6 rfl ?_
    refine q_callVi hE (M' := mX12_isTurner) (as := [_]) dX12_notices_7 lk12_452 inX12_isTurner seX12_isTurner myX12_isTurner (by decide) ⟨by decide, by decide⟩ rfl (kR15 hS6.1 ta0) (Nat.le_of_ble_eq_true rfl) rfl rfl (by decide) (by decide) (k_X12_isTurner hS6.1 ta0) ?_
    rintro v13 cn' K' N' I9 R10 L11 ⟨rfl, rfl, rfl, rfl, rfl, rfl, h14, p15, p16, -⟩
    have p17 := (p16 d2)
    refine q_if_eq 21 dX12_notices_10 (by decide) (fun h18 => ?_) (fun h18 => ?_)
    · skip
      refine tr_aload_n dX12_notices_21 rfl ?_
      refine q_iconst dX12_notices_22 (by decide) ?_
      intro v19 h20
      refine q_callVi hE (M' := mX12_refused) (as := [_]) dX12_notices_23 lk12_76 inX12_refused seX12_refused myX12_refused (by decide) ⟨by decide, by decide⟩ rfl (kR15 hS6.1 ta0) (Nat.le_of_ble_eq_true rfl) rfl rfl (by decide) (by decide) (k_X12_refused hS6.1 ta0) ?_
      rintro v25 cn' K' N' I21 R22 L23 ⟨rfl, rfl, rfl, rfl, rfl, g24, -⟩
      have hS26 := hS6.tr g24 (by decide +kernel) (by decide +kernel)
      have c27 : I21 a0 0 = v3 := (g24.cell ta0 (by decide +kernel)).trans e7
      exact tr_iret hZ dX12_notices_26 rfl (by decide) (by decide) ⟨v25, rfl, rfl, rfl, rfl, rfl, rfl, hS26, trivial⟩
    · skip
      exfalso; exact om_3a97d4a5 p17 h18
  · skip
    refine tr_aload_n dX12_notices_0 rfl ?_
    refine q_iconst dX12_notices_1 (by decide) ?_
    intro v28 h29
    refine q_putI dX12_notices_2 fl12_70 (kR15 hS0.1 ta0) (Or.inl rfl) hS0 ta0 (iokF rfl) rfl (by decide +kernel) ?_
    intro I30 hS31 e32 f33
    refine tr_aload_n dX12_notices_5 rfl ?_
    refine tr_iload_n dX12_notices_6 rfl ?_
    refine q_callVi hE (M' := mX12_isTurner) (as := [_]) dX12_notices_7 lk12_452 inX12_isTurner seX12_isTurner myX12_isTurner (by decide) ⟨by decide, by decide⟩ rfl (kR15 hS31.1 ta0) (Nat.le_of_ble_eq_true rfl) rfl rfl (by decide) (by decide) (k_X12_isTurner hS31.1 ta0) ?_
    rintro v38 cn' K' N' I34 R35 L36 ⟨rfl, rfl, rfl, rfl, rfl, rfl, h39, p40, p41, -⟩
    refine q_if_eq 21 dX12_notices_10 (by decide) (fun h42 => ?_) (fun h42 => ?_)
    · skip
      refine tr_aload_n dX12_notices_21 rfl ?_
      refine q_iconst dX12_notices_22 (by decide) ?_
      intro v43 h44
      refine q_callVi hE (M' := mX12_refused) (as := [_]) dX12_notices_23 lk12_76 inX12_refused seX12_refused myX12_refused (by decide) ⟨by decide, by decide⟩ rfl (kR15 hS31.1 ta0) (Nat.le_of_ble_eq_true rfl) rfl rfl (by decide) (by decide) (k_X12_refused hS31.1 ta0) ?_
      rintro v49 cn' K' N' I45 R46 L47 ⟨rfl, rfl, rfl, rfl, rfl, g48, -⟩
      have hS50 := hS31.tr g48 (by decide +kernel) (by decide +kernel)
      have c51 : I45 a0 0 = v28 := (g48.cell ta0 (by decide +kernel)).trans e32
      exact tr_iret hZ dX12_notices_26 rfl (by decide) (by decide) ⟨v49, rfl, rfl, rfl, rfl, rfl, rfl, hS50, trivial⟩
    · skip
      refine tr_aload_n dX12_notices_13 rfl ?_
      refine tr_iload_n dX12_notices_14 rfl ?_
      refine q_callVi hE (M' := mX12_isHut) (as := [_]) dX12_notices_15 lk12_446 inX12_isHut seX12_isHut myX12_isHut (by decide) ⟨by decide, by decide⟩ rfl (kR15 hS31.1 ta0) (Nat.le_of_ble_eq_true rfl) rfl rfl (by decide) (by decide) (k_X12_isHut hS31.1 ta0) ?_
      rintro v56 cn' K' N' I52 R53 L54 ⟨rfl, rfl, rfl, rfl, rfl, rfl, h57, p58, p59, -⟩
      refine q_if_ne 27 dX12_notices_18 (by decide) (fun h60 => ?_) (fun h60 => ?_)
      · skip
        refine tr_aload_n dX12_notices_27 rfl ?_
        refine tr_iload_n dX12_notices_28 rfl ?_
        refine q_callVi hE (M' := mX12_isMinute) (as := [_]) dX12_notices_29 lk12_443 inX12_isMinute seX12_isMinute myX12_isMinute (by decide) ⟨by decide, by decide⟩ rfl (kR15 hS31.1 ta0) (Nat.le_of_ble_eq_true rfl) rfl rfl (by decide) (by decide) (k_X12_isMinute hS31.1 ta0 ⟨_, d2⟩) ?_
        rintro v65 cn' K' N' I61 R62 L63 ⟨rfl, rfl, rfl, rfl, rfl, rfl, h66, p67, -⟩
        refine q_if_ne 41 dX12_notices_32 (by decide) (fun h68 => ?_) (fun h68 => ?_)
        · skip
          refine tr_aload_n dX12_notices_41 rfl ?_
          refine q_iconst dX12_notices_42 (by decide) ?_
          intro v69 h70
          refine q_callVv hE (M' := mX12_laysLight) (as := [_]) dX12_notices_43 lk12_434 inX12_laysLight seX12_laysLight myX12_laysLight (by decide) ⟨by decide, by decide⟩ rfl (kR15 hS31.1 ta0) (Nat.le_of_ble_eq_true rfl) rfl rfl (by decide) (by decide) (k_X12_laysLight hS31.1 ta0 ⟨_, d2⟩) ?_
          rintro cn' K' N' I71 R72 L73 ⟨rfl, rfl, rfl, rfl, rfl, g74, -⟩
          have hS76 := hS31.tr g74 (by decide +kernel) (by decide +kernel)
          have c77 : I71 a0 0 = v28 := (g74.cell ta0 (by decide +kernel)).trans e32
          refine tr_aload_n dX12_notices_46 rfl ?_
          refine tr_aload_n dX12_notices_47 rfl ?_
          refine tr_iload_n dX12_notices_48 rfl ?_
          refine tr_iload_n dX12_notices_49 rfl ?_
          refine tr_iload_n dX12_notices_50 rfl ?_
          refine q_callVi hE (M' := mX12_noticesIn) (as := [_, _, _]) dX12_notices_51 lk12_431 inX12_noticesIn seX12_noticesIn myX12_noticesIn (by decide) ⟨by decide, by decide⟩ rfl (kR15 hS76.1 ta0) (Nat.le_of_ble_eq_true rfl) rfl rfl (by decide) (by decide) (k_X12_noticesIn hS76.1 ta0 (by exact om_cd56dd23 h39.2 h39.1 p40 h42 h57.2 h57.1 p58 h60 h66.2 h66.1 p67 h68) (by exact om_aaaa2504 h57.2 h57.1 p58 h60 h66.2 h66.1 p67 h68) (by exact om_ec1a32e4 h66.2 h66.1 p67 h68) ⟨_, d2⟩) ?_
          rintro v82 cn' K' N' I78 R79 L80 ⟨rfl, rfl, rfl, rfl, rfl, rfl, h83, -⟩
          refine q_if_eq 61 dX12_notices_54 (by decide) (fun h84 => ?_) (fun h84 => ?_)
          · skip
            refine q_iconst dX12_notices_61 (by decide) ?_
            intro v85 h86
            refine q_callVi hE (M' := mX12_good) (as := [_]) dX12_notices_62 lk12_81 inX12_good seX12_good myX12_good (by decide) ⟨by decide, by decide⟩ rfl (kR15 hS76.1 ta0) (Nat.le_of_ble_eq_true rfl) rfl rfl (by decide) (by decide) (k_X12_good hS76.1 ta0) ?_
            rintro v91 cn' K' N' I87 R88 L89 ⟨rfl, rfl, rfl, rfl, rfl, g90, -⟩
            have hS92 := hS76.tr g90 (by decide +kernel) (by decide +kernel)
            have c93 : I87 a0 0 = v28 := (g90.cell ta0 (by decide +kernel)).trans c77
            exact tr_iret hZ dX12_notices_65 rfl (by decide) (by decide) ⟨v91, rfl, rfl, rfl, rfl, rfl, rfl, hS92, trivial⟩
          · skip
            refine q_iconst dX12_notices_57 (by decide) ?_
            intro v94 h95
            refine tr_goto 62 dX12_notices_58 (by decide) ?_
            refine q_callVi hE (M' := mX12_good) (as := [_]) dX12_notices_62 lk12_81 inX12_good seX12_good myX12_good (by decide) ⟨by decide, by decide⟩ rfl (kR15 hS76.1 ta0) (Nat.le_of_ble_eq_true rfl) rfl rfl (by decide) (by decide) (k_X12_good hS76.1 ta0) ?_
            rintro v100 cn' K' N' I96 R97 L98 ⟨rfl, rfl, rfl, rfl, rfl, g99, -⟩
            have hS101 := hS76.tr g99 (by decide +kernel) (by decide +kernel)
            have c102 : I96 a0 0 = v28 := (g99.cell ta0 (by decide +kernel)).trans c77
            exact tr_iret hZ dX12_notices_65 rfl (by decide) (by decide) ⟨v100, rfl, rfl, rfl, rfl, rfl, rfl, hS101, trivial⟩
        · skip
          refine tr_aload_n dX12_notices_35 rfl ?_
          refine q_iconst dX12_notices_36 (by decide) ?_
          intro v103 h104
          refine q_callVi hE (M' := mX12_refused) (as := [_]) dX12_notices_37 lk12_76 inX12_refused seX12_refused myX12_refused (by decide) ⟨by decide, by decide⟩ rfl (kR15 hS31.1 ta0) (Nat.le_of_ble_eq_true rfl) rfl rfl (by decide) (by decide) (k_X12_refused hS31.1 ta0) ?_
          rintro v109 cn' K' N' I105 R106 L107 ⟨rfl, rfl, rfl, rfl, rfl, g108, -⟩
          have hS110 := hS31.tr g108 (by decide +kernel) (by decide +kernel)
          have c111 : I105 a0 0 = v28 := (g108.cell ta0 (by decide +kernel)).trans e32
          exact tr_iret hZ dX12_notices_40 rfl (by decide) (by decide) ⟨v109, rfl, rfl, rfl, rfl, rfl, rfl, hS110, trivial⟩
      · skip
        refine tr_aload_n dX12_notices_21 rfl ?_
        refine q_iconst dX12_notices_22 (by decide) ?_
        intro v112 h113
        refine q_callVi hE (M' := mX12_refused) (as := [_]) dX12_notices_23 lk12_76 inX12_refused seX12_refused myX12_refused (by decide) ⟨by decide, by decide⟩ rfl (kR15 hS31.1 ta0) (Nat.le_of_ble_eq_true rfl) rfl rfl (by decide) (by decide) (k_X12_refused hS31.1 ta0) ?_
        rintro v118 cn' K' N' I114 R115 L116 ⟨rfl, rfl, rfl, rfl, rfl, g117, -⟩
        have hS119 := hS31.tr g117 (by decide +kernel) (by decide +kernel)
        have c120 : I114 a0 0 = v28 := (g117.cell ta0 (by decide +kernel)).trans e32
        exact tr_iret hZ dX12_notices_26 rfl (by decide) (by decide) ⟨v118, rfl, rfl, rfl, rfl, rfl, rfl, hS119, trivial⟩
set_option maxHeartbeats 4000000 in
theorem k_X12_everybody {l : Launch} {T : Nat → Nat} {cn : Nat} {K N : Nat → Nat} {I0 : cz_I} {R0 : cz_R} {L0 : cz_L} {d : Int} (hW0 : Wf T cn K N I0 R0 d) {a0 : Nat} (ta0 : T a0 = 15) (nn3 : ∃ b, R0 a0 3 = some b) : ConE l mX12_everybody [.ref a0] cn K N I0 R0 L0 (ca_i (fun v cn' K' N' I' R' L' => cn = cn' ∧ K = K' ∧ N = N' ∧ I0 = I' ∧ R0 = R' ∧ L0 = L' ∧ (0 ≤ v.toInt ∧ v.toInt ≤ 63) ∧ True)) := by
  refine ConE.of (by decide +kernel) rfl (Nat.le_of_ble_eq_true rfl) rfl (fun X hX hZ hE => ?_)
  subst hX
  obtain ⟨a1, d2⟩ := nn3
  have ta1 : T a1 = 14 := hW0.rsN ta0 rfl d2
  refine q_iconst dX12_everybody_0 (by decide) ?_
  intro v3 h4
  refine tr_aload_n dX12_everybody_1 rfl ?_
  refine tr_getR dX12_everybody_2 fl12_385 (kR15 hW0 ta0) d2 ?_
  obtain ⟨v5, c6⟩ : ∃ v, I0 a1 4 = v := ⟨_, rfl⟩
  have b7 := iv14_4 hW0 ta1 c6
  refine q_getI dX12_everybody_5 fl12_315 (kR14 hW0 ta1) c6 ?_
  refine q_ishlE dX12_everybody_8 (by exact om_ee8a1e2d h4) (by exact om_5d3f4da2 b7.2 b7.1) ?_
  intro v8 h9
  refine q_iconst dX12_everybody_9 (by decide) ?_
  intro v10 h11
  refine q_isubE dX12_everybody_10 (by intro j1 j2 j3 j4; exact om_87919627 h9.2 h9.1 h11) ?_
  intro v12 h13
  exact tr_iret hZ dX12_everybody_11 rfl (by decide) (by decide) ⟨v12, rfl, rfl, rfl, rfl, rfl, rfl, rfl, (by exact om_44eae9b2 h9.2 h9.1 h11 h13), trivial⟩
set_option maxHeartbeats 4000000 in
theorem k_X12_priceOf {l : Launch} {T : Nat → Nat} {cn : Nat} {K N : Nat → Nat} {I0 : cz_I} {R0 : cz_R} {L0 : cz_L} {d : Int} (hW0 : Wf T cn K N I0 R0 d) {a0 : Nat} (ta0 : T a0 = 15) {x1 : Int32} (hx1 : 0 ≤ x1.toInt ∧ x1.toInt ≤ 7) (nn3 : ∃ b, R0 a0 3 = some b) : ConE l mX12_priceOf [.ref a0, .int x1] cn K N I0 R0 L0 (ca_i (fun v cn' K' N' I' R' L' => cn = cn' ∧ K = K' ∧ N = N' ∧ I0 = I' ∧ R0 = R' ∧ L0 = L' ∧ True)) := by
  refine ConE.of (by decide +kernel) rfl (Nat.le_of_ble_eq_true rfl) rfl (fun X hX hZ hE => ?_)
  subst hX
  obtain ⟨a1, d2⟩ := nn3
  have ta1 : T a1 = 14 := hW0.rsN ta0 rfl d2
  refine tr_aload_n dX12_priceOf_0 rfl ?_
  refine tr_getR dX12_priceOf_1 fl12_385 (kR15 hW0 ta0) d2 ?_
  obtain ⟨a3, d4, ta3⟩ := rf14_10 hW0 ta1
  refine tr_getR dX12_priceOf_4 fl12_260 (kR14 hW0 ta1) d4 ?_
  refine q_iconst dX12_priceOf_7 (by decide) ?_
  intro v5 h6
  refine q_iald dX12_priceOf_8 (kR53 hW0 ta3) (ti_in (nR53 hW0 ta3) (by exact om_d99fa9e4 h6) (by exact om_e7afc65a h6)) ?_
  intro v7 c8
  refine tr_aload_n dX12_priceOf_9 rfl ?_
  refine tr_getR dX12_priceOf_10 fl12_385 (kR15 hW0 ta0) d2 ?_
  refine tr_getR dX12_priceOf_13 fl12_260 (kR14 hW0 ta1) d4 ?_
  refine q_iconst dX12_priceOf_16 (by decide) ?_
  intro v9 h10
  refine q_iald dX12_priceOf_17 (kR53 hW0 ta3) (ti_in (nR53 hW0 ta3) (by exact om_f9079521 h10) (by exact om_8c194095 h10)) ?_
  intro v11 c12
  refine tr_aload_n dX12_priceOf_18 rfl ?_
  obtain ⟨a13, d14, ta13⟩ := rf15_29 hW0 ta0
  refine tr_getR dX12_priceOf_19 fl12_52 (kR15 hW0 ta0) d14 ?_
  refine tr_iload_n dX12_priceOf_22 rfl ?_
  refine q_iald dX12_priceOf_23 (kR89 hW0 ta13) (ti_in (nR89 hW0 ta13) (by exact om_2a7998d2 hx1.2 hx1.1) (by exact om_2801faaf hx1.2 hx1.1)) ?_
  intro v15 c16
  refine q_imul dX12_priceOf_24 ?_
  intro v17
  refine q_iadd dX12_priceOf_25 ?_
  intro v18
  refine tr_aload_n dX12_priceOf_26 rfl ?_
  refine tr_getR dX12_priceOf_27 fl12_385 (kR15 hW0 ta0) d2 ?_
  refine tr_getR dX12_priceOf_30 fl12_260 (kR14 hW0 ta1) d4 ?_
  refine q_iconst dX12_priceOf_33 (by decide) ?_
  intro v19 h20
  refine q_iald dX12_priceOf_34 (kR53 hW0 ta3) (ti_in (nR53 hW0 ta3) (by exact om_bf35f35a h20) (by exact om_f6686c27 h20)) ?_
  intro v21 c22
  refine tr_aload_n dX12_priceOf_35 rfl ?_
  obtain ⟨a23, d24, ta23⟩ := rf15_30 hW0 ta0
  refine tr_getR dX12_priceOf_36 fl12_55 (kR15 hW0 ta0) d24 ?_
  refine tr_iload_n dX12_priceOf_39 rfl ?_
  refine q_iald dX12_priceOf_40 (kR90 hW0 ta23) (ti_in (nR90 hW0 ta23) (by exact om_2a7998d2 hx1.2 hx1.1) (by exact om_2801faaf hx1.2 hx1.1)) ?_
  intro v25 c26
  refine q_imul dX12_priceOf_41 ?_
  intro v27
  refine q_isub dX12_priceOf_42 ?_
  intro v28
  refine tr_aload_n dX12_priceOf_43 rfl ?_
  refine tr_getR dX12_priceOf_44 fl12_385 (kR15 hW0 ta0) d2 ?_
  refine tr_getR dX12_priceOf_47 fl12_260 (kR14 hW0 ta1) d4 ?_
  refine q_iconst dX12_priceOf_50 (by decide) ?_
  intro v29 h30
  refine q_iald dX12_priceOf_51 (kR53 hW0 ta3) (ti_in (nR53 hW0 ta3) (by exact om_c9146e24 h30) (by exact om_7be26780 h30)) ?_
  intro v31 c32
  refine tr_aload_n dX12_priceOf_52 rfl ?_
  obtain ⟨a33, d34, ta33⟩ := rf15_32 hW0 ta0
  refine tr_getR dX12_priceOf_53 fl12_61 (kR15 hW0 ta0) d34 ?_
  refine tr_iload_n dX12_priceOf_56 rfl ?_
  refine q_iald dX12_priceOf_57 (kR92 hW0 ta33) (ti_in (nR92 hW0 ta33) (by exact om_2a7998d2 hx1.2 hx1.1) (by exact om_2801faaf hx1.2 hx1.1)) ?_
  intro v35 c36
  refine q_imul dX12_priceOf_58 ?_
  intro v37
  refine q_isub dX12_priceOf_59 ?_
  intro v38
  refine tr_aload_n dX12_priceOf_60 rfl ?_
  refine tr_getR dX12_priceOf_61 fl12_385 (kR15 hW0 ta0) d2 ?_
  refine tr_getR dX12_priceOf_64 fl12_260 (kR14 hW0 ta1) d4 ?_
  refine q_iconst dX12_priceOf_67 (by decide) ?_
  intro v39 h40
  refine q_iald dX12_priceOf_68 (kR53 hW0 ta3) (ti_in (nR53 hW0 ta3) (by exact om_8e2d26b1 h40) (by exact om_e7a35b98 h40)) ?_
  intro v41 c42
  refine tr_aload_n dX12_priceOf_69 rfl ?_
  obtain ⟨a43, d44, ta43⟩ := rf15_31 hW0 ta0
  refine tr_getR dX12_priceOf_70 fl12_58 (kR15 hW0 ta0) d44 ?_
  refine tr_iload_n dX12_priceOf_73 rfl ?_
  refine q_iald dX12_priceOf_74 (kR91 hW0 ta43) (ti_in (nR91 hW0 ta43) (by exact om_2a7998d2 hx1.2 hx1.1) (by exact om_2801faaf hx1.2 hx1.1)) ?_
  intro v45 c46
  refine q_imul dX12_priceOf_75 ?_
  intro v47
  refine q_isub dX12_priceOf_76 ?_
  intro v48
  refine tr_istore_n dX12_priceOf_77 (by decide) (by decide) ?_
  refine tr_iload_n dX12_priceOf_78 rfl ?_
  refine q_if_ge 86 dX12_priceOf_79 (by decide) (fun h49 => ?_) (fun h49 => ?_)
  · skip
    refine tr_iload_n dX12_priceOf_86 rfl ?_
    exact tr_iret hZ dX12_priceOf_87 rfl (by decide) (by decide) ⟨v48, rfl, rfl, rfl, rfl, rfl, rfl, rfl, trivial⟩
  · skip
    refine q_iconst dX12_priceOf_82 (by decide) ?_
    intro v50 h51
    refine tr_goto 87 dX12_priceOf_83 (by decide) ?_
    exact tr_iret hZ dX12_priceOf_87 rfl (by decide) (by decide) ⟨v50, rfl, rfl, rfl, rfl, rfl, rfl, rfl, trivial⟩
def wi_X12_notes : List Nat := [5759, 5823, 5887, 5951, 6015]
def wr_X12_notes : List Nat := []
set_option maxHeartbeats 4000000 in
theorem k_X12_notes {l : Launch} {T : Nat → Nat} {cn : Nat} {K N : Nat → Nat} {I0 : cz_I} {R0 : cz_R} {L0 : cz_L} {d : Int} (hW0 : Wf T cn K N I0 R0 d) {a0 : Nat} (ta0 : T a0 = 15) {x1 : Int32} (hx1 : 0 ≤ x1.toInt ∧ x1.toInt ≤ 7) {x2 : Int32} (hx2 : 0 ≤ x2.toInt ∧ x2.toInt ≤ 239) (nn3 : ∃ b, R0 a0 3 = some b) : ConE l mX12_notes [.ref a0, .int x1, .int x2] cn K N I0 R0 L0 (ca_v (fun cn' K' N' I' R' L' => cn = cn' ∧ K = K' ∧ N = N' ∧ R0 = R' ∧ L0 = L' ∧ St T cn K N d wi_X12_notes wr_X12_notes I0 R0 I' R0 ∧ True)) := by
  refine ConE.of (by decide +kernel) rfl (Nat.le_of_ble_eq_true rfl) rfl (fun X hX hZ hE => ?_)
  subst hX
  have hS0 : St T cn K N d wi_X12_notes wr_X12_notes I0 R0 I0 R0 := St.rf0 hW0
  obtain ⟨a1, d2⟩ := nn3
  have ta1 : T a1 = 14 := hW0.rsN ta0 rfl d2
  refine tr_aload_n dX12_notes_0 rfl ?_
  refine tr_getR dX12_notes_1 fl12_385 (kR15 hS0.1 ta0) d2 ?_
  obtain ⟨a3, d4, ta3⟩ := rf14_15 hW0 ta1
  refine tr_getR dX12_notes_4 fl12_296 (kR14 hS0.1 ta1) d4 ?_
  refine tr_iload_n dX12_notes_7 rfl ?_
  refine q_iald dX12_notes_8 (kR58 hS0.1 ta3) (ti_in (nR58 hS0.1 ta3) (by exact om_2a7998d2 hx1.2 hx1.1) (by exact om_2801faaf hx1.2 hx1.1)) ?_
  intro v5 c6
  have b7 := iv58 hS0.1 ta3 c6
  refine tr_istore_n dX12_notes_9 (by decide) (by decide) ?_
  refine tr_aload_n dX12_notes_10 rfl ?_
  obtain ⟨a8, d9, ta8⟩ := rf15_27 hW0 ta0
  refine tr_getR dX12_notes_11 fl12_46 (kR15 hS0.1 ta0) d9 ?_
  refine q_sipush dX12_notes_14 (by decide +kernel) ?_
  intro v10 h11
  refine tr_iload_n dX12_notes_17 rfl ?_
  refine q_imulE (c := 240) dX12_notes_18 (by exact om_0c59d38e h11) (by exact om_070681a3 hx1.2 hx1.1) ?_
  intro v12 h13
  refine tr_iload_n dX12_notes_19 rfl ?_
  refine q_iaddE dX12_notes_20 (by intro j1 j2 j3 j4; exact om_1d8292f5 hx1.2 hx1.1 hx2.2 hx2.1 h13 j1 j2) ?_
  intro v14 h15
  refine q_iald dX12_notes_21 (kR87 hS0.1 ta8) (ti_in (nR87 hS0.1 ta8) (by exact om_2d1bbcd9 hx1.2 hx1.1 hx2.2 hx2.1 h13 h15) (by exact om_2157d400 hx1.2 hx1.1 hx2.2 hx2.1 h13 h15)) ?_
  intro v16 c17
  refine q_bipush dX12_notes_22 (by decide +kernel) ?_
  intro v18 h19
  refine q_icmp_eq 31 dX12_notes_24 (by decide) (fun h20 => ?_) (fun h20 => ?_)
  · skip
    refine q_iconst dX12_notes_31 (by decide) ?_
    intro v21 h22
    refine tr_istore dX12_notes_32 (by decide) (by decide) ?_
    refine tr_iload_n dX12_notes_34 rfl ?_
    refine q_if_ne 58 dX12_notes_35 (by decide) (fun h23 => ?_) (fun h23 => ?_)
    · skip
      refine tr_aload_n dX12_notes_58 rfl ?_
      obtain ⟨a24, d25, ta24⟩ := rf15_33 hW0 ta0
      refine tr_getR dX12_notes_59 fl12_64 (kR15 hS0.1 ta0) d25 ?_
      refine q_sipush dX12_notes_62 (by decide +kernel) ?_
      intro v26 h27
      refine tr_iload_n dX12_notes_65 rfl ?_
      refine q_imulE (c := 240) dX12_notes_66 (by exact om_0c59d38e h27) (by exact om_070681a3 hx1.2 hx1.1) ?_
      intro v28 h29
      refine tr_iload_n dX12_notes_67 rfl ?_
      refine q_iaddE dX12_notes_68 (by intro j1 j2 j3 j4; exact om_b19f81d3 hx1.2 hx1.1 hx2.2 hx2.1 h13 h15 h29 j1 j2) ?_
      intro v30 h31
      refine q_iconst dX12_notes_69 (by decide) ?_
      intro v32 h33
      refine q_isubE dX12_notes_70 (by intro j1 j2 j3 j4; exact om_1d3a788b hx1.2 hx1.1 hx2.2 hx2.1 h13 h15 h29 h31 h33 j1 j2) ?_
      intro v34 h35
      refine q_zald dX12_notes_71 (kR93 hS0.1 ta24) (ti_in (nR93 hS0.1 ta24) (by exact om_56172090 hx1.2 hx1.1 hx2.2 hx2.1 h13 h15 h23 h29 h31 h33 h35) (by exact om_5106e3da hx1.2 hx1.1 hx2.2 hx2.1 h13 h15 h29 h31 h33 h35)) ?_
      intro v36 c37
      have b38 := iv93 hS0.1 ta24 c37
      refine tr_istore dX12_notes_72 (by decide) (by decide) ?_
      refine tr_aload_n dX12_notes_74 rfl ?_
      refine tr_getR dX12_notes_75 fl12_64 (kR15 hS0.1 ta0) d25 ?_
      refine q_sipush dX12_notes_78 (by decide +kernel) ?_
      intro v39 h40
      refine tr_iload_n dX12_notes_81 rfl ?_
      refine q_imulE (c := 240) dX12_notes_82 (by exact om_0c59d38e h40) (by exact om_070681a3 hx1.2 hx1.1) ?_
      intro v41 h42
      refine tr_iload_n dX12_notes_83 rfl ?_
      refine q_iaddE dX12_notes_84 (by intro j1 j2 j3 j4; exact om_4f363820 hx1.2 hx1.1 hx2.2 hx2.1 h13 h15 h29 h31 h33 h35 h42 j1 j2) ?_
      intro v43 h44
      refine tr_iload dX12_notes_85 rfl ?_
      refine tr_iload dX12_notes_87 rfl ?_
      refine q_icmp_eq 96 dX12_notes_89 (by decide) (fun h45 => ?_) (fun h45 => ?_)
      · skip
        refine q_iconst dX12_notes_96 (by decide) ?_
        intro v46 h47
        refine q_zast dX12_notes_97 (kR93 hS0.1 ta24) (ti_in (nR93 hS0.1 ta24) (by exact om_281f2636 hx1.2 hx1.1 hx2.2 hx2.1 h13 h15 h29 h31 h33 h35 h42 h44) (by exact om_b1d60cf4 hx1.2 hx1.1 hx2.2 hx2.1 h13 h15 h29 h31 h33 h35 h42 h44)) hS0 ta24 (by exact om_3b50ecb9 h47) rfl rfl (by rfl) ?_
        intro I48 hS49 f50
        refine tr_aload_n dX12_notes_98 rfl ?_
        refine tr_iload_n dX12_notes_99 rfl ?_
        refine tr_iload_n dX12_notes_100 rfl ?_
        refine q_callVi hE (M' := mX12_changesIn) (as := [_, _]) dX12_notes_101 lk12_413 inX12_changesIn seX12_changesIn myX12_changesIn (by decide) ⟨by decide, by decide⟩ rfl (kR15 hS49.1 ta0) (Nat.le_of_ble_eq_true rfl) rfl rfl (by decide) (by decide) (k_X12_changesIn hS49.1 ta0 (by exact om_6c59cd6a b7) (by exact om_87537644 hx2)) ?_
        rintro v56 cn' K' N' I52 R53 L54 ⟨rfl, rfl, rfl, rfl, rfl, rfl, h57, -⟩
        refine tr_istore dX12_notes_104 (by decide) (by decide) ?_
        refine tr_iload dX12_notes_106 rfl ?_
        refine q_if_eq 126 dX12_notes_108 (by decide) (fun h58 => ?_) (fun h58 => ?_)
        · skip
          refine tr_iload dX12_notes_126 rfl ?_
          refine q_if_eq 146 dX12_notes_128 (by decide) (fun h59 => ?_) (fun h59 => ?_)
          · skip
            refine tr_iload dX12_notes_146 rfl ?_
            refine q_if_ne 166 dX12_notes_148 (by decide) (fun h60 => ?_) (fun h60 => ?_)
            · skip
              exfalso; exact om_3a97d4a5 h22 h60
            · skip
              refine tr_iload dX12_notes_151 rfl ?_
              refine q_if_eq 166 dX12_notes_153 (by decide) (fun h61 => ?_) (fun h61 => ?_)
              · skip
                refine tr_aload_n dX12_notes_166 rfl ?_
                obtain ⟨a62, d63, ta62⟩ := rf15_25 hW0 ta0
                refine tr_getR dX12_notes_167 fl12_40 (kR15 hS49.1 ta0) d63 ?_
                refine tr_iload_n dX12_notes_170 rfl ?_
                refine q_zald dX12_notes_171 (kR85 hS49.1 ta62) (ti_in (nR85 hS49.1 ta62) (by exact om_4fc6f57e hx2.2 hx2.1 h13 h15 h29 h31 h33 h35 h42 h44) (by exact om_573dd651 hx2.2 hx2.1 h13 h15 h29 h31 h33 h35 h42 h44)) ?_
                intro v64 c65
                have b66 := iv85 hS49.1 ta62 c65
                refine q_if_eq 224 dX12_notes_172 (by decide) (fun h67 => ?_) (fun h67 => ?_)
                · skip
                  exact tr_vret hZ dX12_notes_224 rfl (by decide) (by decide) ⟨rfl, rfl, rfl, rfl, rfl, rfl, hS49, trivial⟩
                · skip
                  refine tr_aload_n dX12_notes_175 rfl ?_
                  obtain ⟨a68, d69, ta68⟩ := rf15_24 hW0 ta0
                  refine tr_getR dX12_notes_176 fl12_37 (kR15 hS49.1 ta0) d69 ?_
                  refine tr_iload_n dX12_notes_179 rfl ?_
                  refine q_zald dX12_notes_180 (kR84 hS49.1 ta68) (ti_in (nR84 hS49.1 ta68) (by exact om_4fc6f57e hx2.2 hx2.1 h13 h15 h29 h31 h33 h35 h42 h44) (by exact om_573dd651 hx2.2 hx2.1 h13 h15 h29 h31 h33 h35 h42 h44)) ?_
                  intro v70 c71
                  have b72 := iv84 hS49.1 ta68 c71
                  refine q_if_ne 224 dX12_notes_181 (by decide) (fun h73 => ?_) (fun h73 => ?_)
                  · skip
                    exact tr_vret hZ dX12_notes_224 rfl (by decide) (by decide) ⟨rfl, rfl, rfl, rfl, rfl, rfl, hS49, trivial⟩
                  · skip
                    refine tr_aload_n dX12_notes_184 rfl ?_
                    obtain ⟨a74, d75, ta74⟩ := rf15_26 hW0 ta0
                    refine tr_getR dX12_notes_185 fl12_43 (kR15 hS49.1 ta0) d75 ?_
                    refine q_sipush dX12_notes_188 (by decide +kernel) ?_
                    intro v76 h77
                    refine tr_iload_n dX12_notes_191 rfl ?_
                    refine q_imulE (c := 240) dX12_notes_192 (by exact om_0c59d38e h77) (by exact om_99db8683 b7.2 b7.1) ?_
                    intro v78 h79
                    refine tr_iload_n dX12_notes_193 rfl ?_
                    refine q_iaddE dX12_notes_194 (by intro j1 j2 j3 j4; exact om_1bc43282 hx2.2 hx2.1 b7.2 b7.1 h13 h15 h29 h31 h33 h35 h42 h44 h79 j1 j2) ?_
                    intro v80 h81
                    refine q_zald dX12_notes_195 (kR86 hS49.1 ta74) (ti_in (nR86 hS49.1 ta74) (by exact om_341d5661 hx2.2 hx2.1 b7.2 b7.1 h13 h15 h29 h31 h33 h35 h42 h44 h79 h81) (by exact om_b6f43ebc hx2.2 hx2.1 b7.2 b7.1 h13 h15 h29 h31 h33 h35 h42 h44 h79 h81)) ?_
                    intro v82 c83
                    have b84 := iv86 hS49.1 ta74 c83
                    refine q_if_ne 224 dX12_notes_196 (by decide) (fun h85 => ?_) (fun h85 => ?_)
                    · skip
                      exact tr_vret hZ dX12_notes_224 rfl (by decide) (by decide) ⟨rfl, rfl, rfl, rfl, rfl, rfl, hS49, trivial⟩
                    · skip
                      refine tr_aload_n dX12_notes_199 rfl ?_
                      refine tr_getR dX12_notes_200 fl12_64 (kR15 hS49.1 ta0) d25 ?_
                      refine q_sipush dX12_notes_203 (by decide +kernel) ?_
                      intro v86 h87
                      refine tr_iload_n dX12_notes_206 rfl ?_
                      refine q_imulE (c := 240) dX12_notes_207 (by exact om_0c59d38e h87) (by exact om_070681a3 hx1.2 hx1.1) ?_
                      intro v88 h89
                      refine tr_iload_n dX12_notes_208 rfl ?_
                      refine q_iaddE dX12_notes_209 (by intro j1 j2 j3 j4; exact om_38fe30b0 hx1.2 hx1.1 hx2.2 hx2.1 h13 h15 h29 h31 h33 h35 h42 h44 h79 h81 h89 j1 j2) ?_
                      intro v90 h91
                      refine q_zald dX12_notes_210 (kR93 hS49.1 ta24) (ti_in (nR93 hS49.1 ta24) (by exact om_68738bd2 hx1.2 hx1.1 hx2.2 hx2.1 h13 h15 h29 h31 h33 h35 h42 h44 h79 h81 h89 h91) (by exact om_a5acdef4 hx1.2 hx1.1 hx2.2 hx2.1 h13 h15 h29 h31 h33 h35 h42 h44 h79 h81 h89 h91)) ?_
                      intro v92 c93
                      have b94 := iv93 hS49.1 ta24 c93
                      refine q_if_eq 224 dX12_notes_211 (by decide) (fun h95 => ?_) (fun h95 => ?_)
                      · skip
                        exact tr_vret hZ dX12_notes_224 rfl (by decide) (by decide) ⟨rfl, rfl, rfl, rfl, rfl, rfl, hS49, trivial⟩
                      · skip
                        refine tr_aload_n dX12_notes_214 rfl ?_
                        obtain ⟨a96, d97, ta96⟩ := rf15_32 hW0 ta0
                        refine tr_getR dX12_notes_215 fl12_61 (kR15 hS49.1 ta0) d97 ?_
                        refine tr_iload_n dX12_notes_218 rfl ?_
                        refine tr_dup2 dX12_notes_219 rfl rfl ?_
                        refine q_iald dX12_notes_220 (kR92 hS49.1 ta96) (ti_in (nR92 hS49.1 ta96) (by exact om_2a7998d2 hx1.2 hx1.1) (by exact om_2801faaf hx1.2 hx1.1)) ?_
                        intro v98 c99
                        refine q_iconst dX12_notes_221 (by decide) ?_
                        intro v100 h101
                        refine q_iadd dX12_notes_222 ?_
                        intro v102
                        refine q_iast dX12_notes_223 (kR92 hS49.1 ta96) (ti_in (nR92 hS49.1 ta96) (by exact om_2a7998d2 hx1.2 hx1.1) (by exact om_2801faaf hx1.2 hx1.1)) hS49 ta96 (iokF rfl) rfl (by rfl) ?_
                        intro I103 hS104 e106 f105
                        exact tr_vret hZ dX12_notes_224 rfl (by decide) (by decide) ⟨rfl, rfl, rfl, rfl, rfl, rfl, hS104, trivial⟩
              · skip
                refine tr_aload_n dX12_notes_156 rfl ?_
                obtain ⟨a107, d108, ta107⟩ := rf15_30 hW0 ta0
                refine tr_getR dX12_notes_157 fl12_55 (kR15 hS49.1 ta0) d108 ?_
                refine tr_iload_n dX12_notes_160 rfl ?_
                refine tr_dup2 dX12_notes_161 rfl rfl ?_
                refine q_iald dX12_notes_162 (kR90 hS49.1 ta107) (ti_in (nR90 hS49.1 ta107) (by exact om_2a7998d2 hx1.2 hx1.1) (by exact om_2801faaf hx1.2 hx1.1)) ?_
                intro v109 c110
                refine q_iconst dX12_notes_163 (by decide) ?_
                intro v111 h112
                refine q_iadd dX12_notes_164 ?_
                intro v113
                refine q_iast dX12_notes_165 (kR90 hS49.1 ta107) (ti_in (nR90 hS49.1 ta107) (by exact om_2a7998d2 hx1.2 hx1.1) (by exact om_2801faaf hx1.2 hx1.1)) hS49 ta107 (iokF rfl) rfl (by rfl) ?_
                intro I114 hS115 e117 f116
                refine tr_aload_n dX12_notes_166 rfl ?_
                obtain ⟨a118, d119, ta118⟩ := rf15_25 hW0 ta0
                refine tr_getR dX12_notes_167 fl12_40 (kR15 hS115.1 ta0) d119 ?_
                refine tr_iload_n dX12_notes_170 rfl ?_
                refine q_zald dX12_notes_171 (kR85 hS115.1 ta118) (ti_in (nR85 hS115.1 ta118) (by exact om_4fc6f57e hx2.2 hx2.1 h13 h15 h29 h31 h33 h35 h42 h44) (by exact om_573dd651 hx2.2 hx2.1 h13 h15 h29 h31 h33 h35 h42 h44)) ?_
                intro v120 c121
                have b122 := iv85 hS115.1 ta118 c121
                refine q_if_eq 224 dX12_notes_172 (by decide) (fun h123 => ?_) (fun h123 => ?_)
                · skip
                  exact tr_vret hZ dX12_notes_224 rfl (by decide) (by decide) ⟨rfl, rfl, rfl, rfl, rfl, rfl, hS115, trivial⟩
                · skip
                  refine tr_aload_n dX12_notes_175 rfl ?_
                  obtain ⟨a124, d125, ta124⟩ := rf15_24 hW0 ta0
                  refine tr_getR dX12_notes_176 fl12_37 (kR15 hS115.1 ta0) d125 ?_
                  refine tr_iload_n dX12_notes_179 rfl ?_
                  refine q_zald dX12_notes_180 (kR84 hS115.1 ta124) (ti_in (nR84 hS115.1 ta124) (by exact om_4fc6f57e hx2.2 hx2.1 h13 h15 h29 h31 h33 h35 h42 h44) (by exact om_573dd651 hx2.2 hx2.1 h13 h15 h29 h31 h33 h35 h42 h44)) ?_
                  intro v126 c127
                  have b128 := iv84 hS115.1 ta124 c127
                  refine q_if_ne 224 dX12_notes_181 (by decide) (fun h129 => ?_) (fun h129 => ?_)
                  · skip
                    exact tr_vret hZ dX12_notes_224 rfl (by decide) (by decide) ⟨rfl, rfl, rfl, rfl, rfl, rfl, hS115, trivial⟩
                  · skip
                    refine tr_aload_n dX12_notes_184 rfl ?_
                    obtain ⟨a130, d131, ta130⟩ := rf15_26 hW0 ta0
                    refine tr_getR dX12_notes_185 fl12_43 (kR15 hS115.1 ta0) d131 ?_
                    refine q_sipush dX12_notes_188 (by decide +kernel) ?_
                    intro v132 h133
                    refine tr_iload_n dX12_notes_191 rfl ?_
                    refine q_imulE (c := 240) dX12_notes_192 (by exact om_0c59d38e h133) (by exact om_99db8683 b7.2 b7.1) ?_
                    intro v134 h135
                    refine tr_iload_n dX12_notes_193 rfl ?_
                    refine q_iaddE dX12_notes_194 (by intro j1 j2 j3 j4; exact om_1bc43282 hx2.2 hx2.1 b7.2 b7.1 h13 h15 h29 h31 h33 h35 h42 h44 h135 j1 j2) ?_
                    intro v136 h137
                    refine q_zald dX12_notes_195 (kR86 hS115.1 ta130) (ti_in (nR86 hS115.1 ta130) (by exact om_341d5661 hx2.2 hx2.1 b7.2 b7.1 h13 h15 h29 h31 h33 h35 h42 h44 h135 h137) (by exact om_b6f43ebc hx2.2 hx2.1 b7.2 b7.1 h13 h15 h29 h31 h33 h35 h42 h44 h135 h137)) ?_
                    intro v138 c139
                    have b140 := iv86 hS115.1 ta130 c139
                    refine q_if_ne 224 dX12_notes_196 (by decide) (fun h141 => ?_) (fun h141 => ?_)
                    · skip
                      exact tr_vret hZ dX12_notes_224 rfl (by decide) (by decide) ⟨rfl, rfl, rfl, rfl, rfl, rfl, hS115, trivial⟩
                    · skip
                      refine tr_aload_n dX12_notes_199 rfl ?_
                      refine tr_getR dX12_notes_200 fl12_64 (kR15 hS115.1 ta0) d25 ?_
                      refine q_sipush dX12_notes_203 (by decide +kernel) ?_
                      intro v142 h143
                      refine tr_iload_n dX12_notes_206 rfl ?_
                      refine q_imulE (c := 240) dX12_notes_207 (by exact om_0c59d38e h143) (by exact om_070681a3 hx1.2 hx1.1) ?_
                      intro v144 h145
                      refine tr_iload_n dX12_notes_208 rfl ?_
                      refine q_iaddE dX12_notes_209 (by intro j1 j2 j3 j4; exact om_38fe30b0 hx1.2 hx1.1 hx2.2 hx2.1 h13 h15 h29 h31 h33 h35 h42 h44 h135 h137 h145 j1 j2) ?_
                      intro v146 h147
                      refine q_zald dX12_notes_210 (kR93 hS115.1 ta24) (ti_in (nR93 hS115.1 ta24) (by exact om_68738bd2 hx1.2 hx1.1 hx2.2 hx2.1 h13 h15 h29 h31 h33 h35 h42 h44 h135 h137 h145 h147) (by exact om_a5acdef4 hx1.2 hx1.1 hx2.2 hx2.1 h13 h15 h29 h31 h33 h35 h42 h44 h135 h137 h145 h147)) ?_
                      intro v148 c149
                      have b150 := iv93 hS115.1 ta24 c149
                      refine q_if_eq 224 dX12_notes_211 (by decide) (fun h151 => ?_) (fun h151 => ?_)
                      · skip
                        exact tr_vret hZ dX12_notes_224 rfl (by decide) (by decide) ⟨rfl, rfl, rfl, rfl, rfl, rfl, hS115, trivial⟩
                      · skip
                        refine tr_aload_n dX12_notes_214 rfl ?_
                        obtain ⟨a152, d153, ta152⟩ := rf15_32 hW0 ta0
                        refine tr_getR dX12_notes_215 fl12_61 (kR15 hS115.1 ta0) d153 ?_
                        refine tr_iload_n dX12_notes_218 rfl ?_
                        refine tr_dup2 dX12_notes_219 rfl rfl ?_
                        refine q_iald dX12_notes_220 (kR92 hS115.1 ta152) (ti_in (nR92 hS115.1 ta152) (by exact om_2a7998d2 hx1.2 hx1.1) (by exact om_2801faaf hx1.2 hx1.1)) ?_
                        intro v154 c155
                        refine q_iconst dX12_notes_221 (by decide) ?_
                        intro v156 h157
                        refine q_iadd dX12_notes_222 ?_
                        intro v158
                        refine q_iast dX12_notes_223 (kR92 hS115.1 ta152) (ti_in (nR92 hS115.1 ta152) (by exact om_2a7998d2 hx1.2 hx1.1) (by exact om_2801faaf hx1.2 hx1.1)) hS115 ta152 (iokF rfl) rfl (by rfl) ?_
                        intro I159 hS160 e162 f161
                        exact tr_vret hZ dX12_notes_224 rfl (by decide) (by decide) ⟨rfl, rfl, rfl, rfl, rfl, rfl, hS160, trivial⟩
          · skip
            exfalso; exact om_3a97d4a5 h22 h59
        · skip
          exfalso; exact om_3a97d4a5 h22 h58
      · skip
        refine q_iconst dX12_notes_92 (by decide) ?_
        intro v163 h164
        refine tr_goto 97 dX12_notes_93 (by decide) ?_
        refine q_zast dX12_notes_97 (kR93 hS0.1 ta24) (ti_in (nR93 hS0.1 ta24) (by exact om_281f2636 hx1.2 hx1.1 hx2.2 hx2.1 h13 h15 h29 h31 h33 h35 h42 h44) (by exact om_b1d60cf4 hx1.2 hx1.1 hx2.2 hx2.1 h13 h15 h29 h31 h33 h35 h42 h44)) hS0 ta24 (by exact om_d753bc65 h164) rfl rfl (by rfl) ?_
        intro I165 hS166 f167
        refine tr_aload_n dX12_notes_98 rfl ?_
        refine tr_iload_n dX12_notes_99 rfl ?_
        refine tr_iload_n dX12_notes_100 rfl ?_
        refine q_callVi hE (M' := mX12_changesIn) (as := [_, _]) dX12_notes_101 lk12_413 inX12_changesIn seX12_changesIn myX12_changesIn (by decide) ⟨by decide, by decide⟩ rfl (kR15 hS166.1 ta0) (Nat.le_of_ble_eq_true rfl) rfl rfl (by decide) (by decide) (k_X12_changesIn hS166.1 ta0 (by exact om_6c59cd6a b7) (by exact om_87537644 hx2)) ?_
        rintro v173 cn' K' N' I169 R170 L171 ⟨rfl, rfl, rfl, rfl, rfl, rfl, h174, -⟩
        refine tr_istore dX12_notes_104 (by decide) (by decide) ?_
        refine tr_iload dX12_notes_106 rfl ?_
        refine q_if_eq 126 dX12_notes_108 (by decide) (fun h175 => ?_) (fun h175 => ?_)
        · skip
          refine tr_iload dX12_notes_126 rfl ?_
          refine q_if_eq 146 dX12_notes_128 (by decide) (fun h176 => ?_) (fun h176 => ?_)
          · skip
            refine tr_iload dX12_notes_146 rfl ?_
            refine q_if_ne 166 dX12_notes_148 (by decide) (fun h177 => ?_) (fun h177 => ?_)
            · skip
              exfalso; exact om_3a97d4a5 h22 h177
            · skip
              refine tr_iload dX12_notes_151 rfl ?_
              refine q_if_eq 166 dX12_notes_153 (by decide) (fun h178 => ?_) (fun h178 => ?_)
              · skip
                refine tr_aload_n dX12_notes_166 rfl ?_
                obtain ⟨a179, d180, ta179⟩ := rf15_25 hW0 ta0
                refine tr_getR dX12_notes_167 fl12_40 (kR15 hS166.1 ta0) d180 ?_
                refine tr_iload_n dX12_notes_170 rfl ?_
                refine q_zald dX12_notes_171 (kR85 hS166.1 ta179) (ti_in (nR85 hS166.1 ta179) (by exact om_4fc6f57e hx2.2 hx2.1 h13 h15 h29 h31 h33 h35 h42 h44) (by exact om_573dd651 hx2.2 hx2.1 h13 h15 h29 h31 h33 h35 h42 h44)) ?_
                intro v181 c182
                have b183 := iv85 hS166.1 ta179 c182
                refine q_if_eq 224 dX12_notes_172 (by decide) (fun h184 => ?_) (fun h184 => ?_)
                · skip
                  exact tr_vret hZ dX12_notes_224 rfl (by decide) (by decide) ⟨rfl, rfl, rfl, rfl, rfl, rfl, hS166, trivial⟩
                · skip
                  refine tr_aload_n dX12_notes_175 rfl ?_
                  obtain ⟨a185, d186, ta185⟩ := rf15_24 hW0 ta0
                  refine tr_getR dX12_notes_176 fl12_37 (kR15 hS166.1 ta0) d186 ?_
                  refine tr_iload_n dX12_notes_179 rfl ?_
                  refine q_zald dX12_notes_180 (kR84 hS166.1 ta185) (ti_in (nR84 hS166.1 ta185) (by exact om_4fc6f57e hx2.2 hx2.1 h13 h15 h29 h31 h33 h35 h42 h44) (by exact om_573dd651 hx2.2 hx2.1 h13 h15 h29 h31 h33 h35 h42 h44)) ?_
                  intro v187 c188
                  have b189 := iv84 hS166.1 ta185 c188
                  refine q_if_ne 224 dX12_notes_181 (by decide) (fun h190 => ?_) (fun h190 => ?_)
                  · skip
                    exact tr_vret hZ dX12_notes_224 rfl (by decide) (by decide) ⟨rfl, rfl, rfl, rfl, rfl, rfl, hS166, trivial⟩
                  · skip
                    refine tr_aload_n dX12_notes_184 rfl ?_
                    obtain ⟨a191, d192, ta191⟩ := rf15_26 hW0 ta0
                    refine tr_getR dX12_notes_185 fl12_43 (kR15 hS166.1 ta0) d192 ?_
                    refine q_sipush dX12_notes_188 (by decide +kernel) ?_
                    intro v193 h194
                    refine tr_iload_n dX12_notes_191 rfl ?_
                    refine q_imulE (c := 240) dX12_notes_192 (by exact om_0c59d38e h194) (by exact om_99db8683 b7.2 b7.1) ?_
                    intro v195 h196
                    refine tr_iload_n dX12_notes_193 rfl ?_
                    refine q_iaddE dX12_notes_194 (by intro j1 j2 j3 j4; exact om_1bc43282 hx2.2 hx2.1 b7.2 b7.1 h13 h15 h29 h31 h33 h35 h42 h44 h196 j1 j2) ?_
                    intro v197 h198
                    refine q_zald dX12_notes_195 (kR86 hS166.1 ta191) (ti_in (nR86 hS166.1 ta191) (by exact om_341d5661 hx2.2 hx2.1 b7.2 b7.1 h13 h15 h29 h31 h33 h35 h42 h44 h196 h198) (by exact om_b6f43ebc hx2.2 hx2.1 b7.2 b7.1 h13 h15 h29 h31 h33 h35 h42 h44 h196 h198)) ?_
                    intro v199 c200
                    have b201 := iv86 hS166.1 ta191 c200
                    refine q_if_ne 224 dX12_notes_196 (by decide) (fun h202 => ?_) (fun h202 => ?_)
                    · skip
                      exact tr_vret hZ dX12_notes_224 rfl (by decide) (by decide) ⟨rfl, rfl, rfl, rfl, rfl, rfl, hS166, trivial⟩
                    · skip
                      refine tr_aload_n dX12_notes_199 rfl ?_
                      refine tr_getR dX12_notes_200 fl12_64 (kR15 hS166.1 ta0) d25 ?_
                      refine q_sipush dX12_notes_203 (by decide +kernel) ?_
                      intro v203 h204
                      refine tr_iload_n dX12_notes_206 rfl ?_
                      refine q_imulE (c := 240) dX12_notes_207 (by exact om_0c59d38e h204) (by exact om_070681a3 hx1.2 hx1.1) ?_
                      intro v205 h206
                      refine tr_iload_n dX12_notes_208 rfl ?_
                      refine q_iaddE dX12_notes_209 (by intro j1 j2 j3 j4; exact om_38fe30b0 hx1.2 hx1.1 hx2.2 hx2.1 h13 h15 h29 h31 h33 h35 h42 h44 h196 h198 h206 j1 j2) ?_
                      intro v207 h208
                      refine q_zald dX12_notes_210 (kR93 hS166.1 ta24) (ti_in (nR93 hS166.1 ta24) (by exact om_68738bd2 hx1.2 hx1.1 hx2.2 hx2.1 h13 h15 h29 h31 h33 h35 h42 h44 h196 h198 h206 h208) (by exact om_a5acdef4 hx1.2 hx1.1 hx2.2 hx2.1 h13 h15 h29 h31 h33 h35 h42 h44 h196 h198 h206 h208)) ?_
                      intro v209 c210
                      have b211 := iv93 hS166.1 ta24 c210
                      refine q_if_eq 224 dX12_notes_211 (by decide) (fun h212 => ?_) (fun h212 => ?_)
                      · skip
                        exact tr_vret hZ dX12_notes_224 rfl (by decide) (by decide) ⟨rfl, rfl, rfl, rfl, rfl, rfl, hS166, trivial⟩
                      · skip
                        refine tr_aload_n dX12_notes_214 rfl ?_
                        obtain ⟨a213, d214, ta213⟩ := rf15_32 hW0 ta0
                        refine tr_getR dX12_notes_215 fl12_61 (kR15 hS166.1 ta0) d214 ?_
                        refine tr_iload_n dX12_notes_218 rfl ?_
                        refine tr_dup2 dX12_notes_219 rfl rfl ?_
                        refine q_iald dX12_notes_220 (kR92 hS166.1 ta213) (ti_in (nR92 hS166.1 ta213) (by exact om_2a7998d2 hx1.2 hx1.1) (by exact om_2801faaf hx1.2 hx1.1)) ?_
                        intro v215 c216
                        refine q_iconst dX12_notes_221 (by decide) ?_
                        intro v217 h218
                        refine q_iadd dX12_notes_222 ?_
                        intro v219
                        refine q_iast dX12_notes_223 (kR92 hS166.1 ta213) (ti_in (nR92 hS166.1 ta213) (by exact om_2a7998d2 hx1.2 hx1.1) (by exact om_2801faaf hx1.2 hx1.1)) hS166 ta213 (iokF rfl) rfl (by rfl) ?_
                        intro I220 hS221 e223 f222
                        exact tr_vret hZ dX12_notes_224 rfl (by decide) (by decide) ⟨rfl, rfl, rfl, rfl, rfl, rfl, hS221, trivial⟩
              · skip
                refine tr_aload_n dX12_notes_156 rfl ?_
                obtain ⟨a224, d225, ta224⟩ := rf15_30 hW0 ta0
                refine tr_getR dX12_notes_157 fl12_55 (kR15 hS166.1 ta0) d225 ?_
                refine tr_iload_n dX12_notes_160 rfl ?_
                refine tr_dup2 dX12_notes_161 rfl rfl ?_
                refine q_iald dX12_notes_162 (kR90 hS166.1 ta224) (ti_in (nR90 hS166.1 ta224) (by exact om_2a7998d2 hx1.2 hx1.1) (by exact om_2801faaf hx1.2 hx1.1)) ?_
                intro v226 c227
                refine q_iconst dX12_notes_163 (by decide) ?_
                intro v228 h229
                refine q_iadd dX12_notes_164 ?_
                intro v230
                refine q_iast dX12_notes_165 (kR90 hS166.1 ta224) (ti_in (nR90 hS166.1 ta224) (by exact om_2a7998d2 hx1.2 hx1.1) (by exact om_2801faaf hx1.2 hx1.1)) hS166 ta224 (iokF rfl) rfl (by rfl) ?_
                intro I231 hS232 e234 f233
                refine tr_aload_n dX12_notes_166 rfl ?_
                obtain ⟨a235, d236, ta235⟩ := rf15_25 hW0 ta0
                refine tr_getR dX12_notes_167 fl12_40 (kR15 hS232.1 ta0) d236 ?_
                refine tr_iload_n dX12_notes_170 rfl ?_
                refine q_zald dX12_notes_171 (kR85 hS232.1 ta235) (ti_in (nR85 hS232.1 ta235) (by exact om_4fc6f57e hx2.2 hx2.1 h13 h15 h29 h31 h33 h35 h42 h44) (by exact om_573dd651 hx2.2 hx2.1 h13 h15 h29 h31 h33 h35 h42 h44)) ?_
                intro v237 c238
                have b239 := iv85 hS232.1 ta235 c238
                refine q_if_eq 224 dX12_notes_172 (by decide) (fun h240 => ?_) (fun h240 => ?_)
                · skip
                  exact tr_vret hZ dX12_notes_224 rfl (by decide) (by decide) ⟨rfl, rfl, rfl, rfl, rfl, rfl, hS232, trivial⟩
                · skip
                  refine tr_aload_n dX12_notes_175 rfl ?_
                  obtain ⟨a241, d242, ta241⟩ := rf15_24 hW0 ta0
                  refine tr_getR dX12_notes_176 fl12_37 (kR15 hS232.1 ta0) d242 ?_
                  refine tr_iload_n dX12_notes_179 rfl ?_
                  refine q_zald dX12_notes_180 (kR84 hS232.1 ta241) (ti_in (nR84 hS232.1 ta241) (by exact om_4fc6f57e hx2.2 hx2.1 h13 h15 h29 h31 h33 h35 h42 h44) (by exact om_573dd651 hx2.2 hx2.1 h13 h15 h29 h31 h33 h35 h42 h44)) ?_
                  intro v243 c244
                  have b245 := iv84 hS232.1 ta241 c244
                  refine q_if_ne 224 dX12_notes_181 (by decide) (fun h246 => ?_) (fun h246 => ?_)
                  · skip
                    exact tr_vret hZ dX12_notes_224 rfl (by decide) (by decide) ⟨rfl, rfl, rfl, rfl, rfl, rfl, hS232, trivial⟩
                  · skip
                    refine tr_aload_n dX12_notes_184 rfl ?_
                    obtain ⟨a247, d248, ta247⟩ := rf15_26 hW0 ta0
                    refine tr_getR dX12_notes_185 fl12_43 (kR15 hS232.1 ta0) d248 ?_
                    refine q_sipush dX12_notes_188 (by decide +kernel) ?_
                    intro v249 h250
                    refine tr_iload_n dX12_notes_191 rfl ?_
                    refine q_imulE (c := 240) dX12_notes_192 (by exact om_0c59d38e h250) (by exact om_99db8683 b7.2 b7.1) ?_
                    intro v251 h252
                    refine tr_iload_n dX12_notes_193 rfl ?_
                    refine q_iaddE dX12_notes_194 (by intro j1 j2 j3 j4; exact om_1bc43282 hx2.2 hx2.1 b7.2 b7.1 h13 h15 h29 h31 h33 h35 h42 h44 h252 j1 j2) ?_
                    intro v253 h254
                    refine q_zald dX12_notes_195 (kR86 hS232.1 ta247) (ti_in (nR86 hS232.1 ta247) (by exact om_341d5661 hx2.2 hx2.1 b7.2 b7.1 h13 h15 h29 h31 h33 h35 h42 h44 h252 h254) (by exact om_b6f43ebc hx2.2 hx2.1 b7.2 b7.1 h13 h15 h29 h31 h33 h35 h42 h44 h252 h254)) ?_
                    intro v255 c256
                    have b257 := iv86 hS232.1 ta247 c256
                    refine q_if_ne 224 dX12_notes_196 (by decide) (fun h258 => ?_) (fun h258 => ?_)
                    · skip
                      exact tr_vret hZ dX12_notes_224 rfl (by decide) (by decide) ⟨rfl, rfl, rfl, rfl, rfl, rfl, hS232, trivial⟩
                    · skip
                      refine tr_aload_n dX12_notes_199 rfl ?_
                      refine tr_getR dX12_notes_200 fl12_64 (kR15 hS232.1 ta0) d25 ?_
                      refine q_sipush dX12_notes_203 (by decide +kernel) ?_
                      intro v259 h260
                      refine tr_iload_n dX12_notes_206 rfl ?_
                      refine q_imulE (c := 240) dX12_notes_207 (by exact om_0c59d38e h260) (by exact om_070681a3 hx1.2 hx1.1) ?_
                      intro v261 h262
                      refine tr_iload_n dX12_notes_208 rfl ?_
                      refine q_iaddE dX12_notes_209 (by intro j1 j2 j3 j4; exact om_38fe30b0 hx1.2 hx1.1 hx2.2 hx2.1 h13 h15 h29 h31 h33 h35 h42 h44 h252 h254 h262 j1 j2) ?_
                      intro v263 h264
                      refine q_zald dX12_notes_210 (kR93 hS232.1 ta24) (ti_in (nR93 hS232.1 ta24) (by exact om_68738bd2 hx1.2 hx1.1 hx2.2 hx2.1 h13 h15 h29 h31 h33 h35 h42 h44 h252 h254 h262 h264) (by exact om_a5acdef4 hx1.2 hx1.1 hx2.2 hx2.1 h13 h15 h29 h31 h33 h35 h42 h44 h252 h254 h262 h264)) ?_
                      intro v265 c266
                      have b267 := iv93 hS232.1 ta24 c266
                      refine q_if_eq 224 dX12_notes_211 (by decide) (fun h268 => ?_) (fun h268 => ?_)
                      · skip
                        exact tr_vret hZ dX12_notes_224 rfl (by decide) (by decide) ⟨rfl, rfl, rfl, rfl, rfl, rfl, hS232, trivial⟩
                      · skip
                        refine tr_aload_n dX12_notes_214 rfl ?_
                        obtain ⟨a269, d270, ta269⟩ := rf15_32 hW0 ta0
                        refine tr_getR dX12_notes_215 fl12_61 (kR15 hS232.1 ta0) d270 ?_
                        refine tr_iload_n dX12_notes_218 rfl ?_
                        refine tr_dup2 dX12_notes_219 rfl rfl ?_
                        refine q_iald dX12_notes_220 (kR92 hS232.1 ta269) (ti_in (nR92 hS232.1 ta269) (by exact om_2a7998d2 hx1.2 hx1.1) (by exact om_2801faaf hx1.2 hx1.1)) ?_
                        intro v271 c272
                        refine q_iconst dX12_notes_221 (by decide) ?_
                        intro v273 h274
                        refine q_iadd dX12_notes_222 ?_
                        intro v275
                        refine q_iast dX12_notes_223 (kR92 hS232.1 ta269) (ti_in (nR92 hS232.1 ta269) (by exact om_2a7998d2 hx1.2 hx1.1) (by exact om_2801faaf hx1.2 hx1.1)) hS232 ta269 (iokF rfl) rfl (by rfl) ?_
                        intro I276 hS277 e279 f278
                        exact tr_vret hZ dX12_notes_224 rfl (by decide) (by decide) ⟨rfl, rfl, rfl, rfl, rfl, rfl, hS277, trivial⟩
          · skip
            exfalso; exact om_3a97d4a5 h22 h176
        · skip
          exfalso; exact om_3a97d4a5 h22 h175
    · skip
      refine tr_aload_n dX12_notes_38 rfl ?_
      refine tr_getR dX12_notes_39 fl12_385 (kR15 hS0.1 ta0) d2 ?_
      obtain ⟨a280, d281, ta280⟩ := rf14_19 hW0 ta1
      refine tr_getR dX12_notes_42 fl12_299 (kR14 hS0.1 ta1) d281 ?_
      refine tr_iload_n dX12_notes_45 rfl ?_
      refine q_zald dX12_notes_46 (kR62 hS0.1 ta280) (ti_in (nR62 hS0.1 ta280) (by exact om_2a7998d2 hx1.2 hx1.1) (by exact om_2801faaf hx1.2 hx1.1)) ?_
      intro v282 c283
      have b284 := iv62 hS0.1 ta280 c283
      refine q_if_ne 54 dX12_notes_47 (by decide) (fun h285 => ?_) (fun h285 => ?_)
      · skip
        refine q_iconst dX12_notes_54 (by decide) ?_
        intro v286 h287
        refine tr_goto 72 dX12_notes_55 (by decide) ?_
        refine tr_istore dX12_notes_72 (by decide) (by decide) ?_
        refine tr_aload_n dX12_notes_74 rfl ?_
        obtain ⟨a288, d289, ta288⟩ := rf15_33 hW0 ta0
        refine tr_getR dX12_notes_75 fl12_64 (kR15 hS0.1 ta0) d289 ?_
        refine q_sipush dX12_notes_78 (by decide +kernel) ?_
        intro v290 h291
        refine tr_iload_n dX12_notes_81 rfl ?_
        refine q_imulE (c := 240) dX12_notes_82 (by exact om_0c59d38e h291) (by exact om_070681a3 hx1.2 hx1.1) ?_
        intro v292 h293
        refine tr_iload_n dX12_notes_83 rfl ?_
        refine q_iaddE dX12_notes_84 (by intro j1 j2 j3 j4; exact om_f37895ac h13 h15 h23 h293 j1 j2) ?_
        intro v294 h295
        refine tr_iload dX12_notes_85 rfl ?_
        refine tr_iload dX12_notes_87 rfl ?_
        refine q_icmp_eq 96 dX12_notes_89 (by decide) (fun h296 => ?_) (fun h296 => ?_)
        · skip
          refine q_iconst dX12_notes_96 (by decide) ?_
          intro v297 h298
          refine q_zast dX12_notes_97 (kR93 hS0.1 ta288) (ti_in (nR93 hS0.1 ta288) (by exact om_a1869a85 hx1.2 hx1.1 h13 h15 h23 h293 h295) (by exact om_f9734ce1 hx1.2 hx1.1 h13 h15 h23 h293 h295)) hS0 ta288 (by exact om_3b50ecb9 h298) rfl rfl (by rfl) ?_
          intro I299 hS300 f301
          refine tr_aload_n dX12_notes_98 rfl ?_
          refine tr_iload_n dX12_notes_99 rfl ?_
          refine tr_iload_n dX12_notes_100 rfl ?_
          refine q_callVi hE (M' := mX12_changesIn) (as := [_, _]) dX12_notes_101 lk12_413 inX12_changesIn seX12_changesIn myX12_changesIn (by decide) ⟨by decide, by decide⟩ rfl (kR15 hS300.1 ta0) (Nat.le_of_ble_eq_true rfl) rfl rfl (by decide) (by decide) (k_X12_changesIn hS300.1 ta0 (by exact om_6c59cd6a b7) (by exact om_87537644 hx2)) ?_
          rintro v307 cn' K' N' I303 R304 L305 ⟨rfl, rfl, rfl, rfl, rfl, rfl, h308, -⟩
          refine tr_istore dX12_notes_104 (by decide) (by decide) ?_
          refine tr_iload dX12_notes_106 rfl ?_
          refine q_if_eq 126 dX12_notes_108 (by decide) (fun h309 => ?_) (fun h309 => ?_)
          · skip
            refine tr_iload dX12_notes_126 rfl ?_
            refine q_if_eq 146 dX12_notes_128 (by decide) (fun h310 => ?_) (fun h310 => ?_)
            · skip
              refine tr_iload dX12_notes_146 rfl ?_
              refine q_if_ne 166 dX12_notes_148 (by decide) (fun h311 => ?_) (fun h311 => ?_)
              · skip
                exfalso; exact om_3a97d4a5 h22 h311
              · skip
                refine tr_iload dX12_notes_151 rfl ?_
                refine q_if_eq 166 dX12_notes_153 (by decide) (fun h312 => ?_) (fun h312 => ?_)
                · skip
                  refine tr_aload_n dX12_notes_166 rfl ?_
                  obtain ⟨a313, d314, ta313⟩ := rf15_25 hW0 ta0
                  refine tr_getR dX12_notes_167 fl12_40 (kR15 hS300.1 ta0) d314 ?_
                  refine tr_iload_n dX12_notes_170 rfl ?_
                  refine q_zald dX12_notes_171 (kR85 hS300.1 ta313) (ti_in (nR85 hS300.1 ta313) (by exact om_515a812f h13 h15 h23) (by exact om_812de82a h13 h15 h23)) ?_
                  intro v315 c316
                  have b317 := iv85 hS300.1 ta313 c316
                  refine q_if_eq 224 dX12_notes_172 (by decide) (fun h318 => ?_) (fun h318 => ?_)
                  · skip
                    exact tr_vret hZ dX12_notes_224 rfl (by decide) (by decide) ⟨rfl, rfl, rfl, rfl, rfl, rfl, hS300, trivial⟩
                  · skip
                    refine tr_aload_n dX12_notes_175 rfl ?_
                    obtain ⟨a319, d320, ta319⟩ := rf15_24 hW0 ta0
                    refine tr_getR dX12_notes_176 fl12_37 (kR15 hS300.1 ta0) d320 ?_
                    refine tr_iload_n dX12_notes_179 rfl ?_
                    refine q_zald dX12_notes_180 (kR84 hS300.1 ta319) (ti_in (nR84 hS300.1 ta319) (by exact om_515a812f h13 h15 h23) (by exact om_812de82a h13 h15 h23)) ?_
                    intro v321 c322
                    have b323 := iv84 hS300.1 ta319 c322
                    refine q_if_ne 224 dX12_notes_181 (by decide) (fun h324 => ?_) (fun h324 => ?_)
                    · skip
                      exact tr_vret hZ dX12_notes_224 rfl (by decide) (by decide) ⟨rfl, rfl, rfl, rfl, rfl, rfl, hS300, trivial⟩
                    · skip
                      refine tr_aload_n dX12_notes_184 rfl ?_
                      obtain ⟨a325, d326, ta325⟩ := rf15_26 hW0 ta0
                      refine tr_getR dX12_notes_185 fl12_43 (kR15 hS300.1 ta0) d326 ?_
                      refine q_sipush dX12_notes_188 (by decide +kernel) ?_
                      intro v327 h328
                      refine tr_iload_n dX12_notes_191 rfl ?_
                      refine q_imulE (c := 240) dX12_notes_192 (by exact om_0c59d38e h328) (by exact om_99db8683 b7.2 b7.1) ?_
                      intro v329 h330
                      refine tr_iload_n dX12_notes_193 rfl ?_
                      refine q_iaddE dX12_notes_194 (by intro j1 j2 j3 j4; exact om_8e44edf3 h13 h15 h23 h330 j1 j2) ?_
                      intro v331 h332
                      refine q_zald dX12_notes_195 (kR86 hS300.1 ta325) (ti_in (nR86 hS300.1 ta325) (by exact om_e2709e08 b7.2 b7.1 h13 h15 h23 h330 h332) (by exact om_d4ed2cba b7.2 b7.1 h13 h15 h23 h330 h332)) ?_
                      intro v333 c334
                      have b335 := iv86 hS300.1 ta325 c334
                      refine q_if_ne 224 dX12_notes_196 (by decide) (fun h336 => ?_) (fun h336 => ?_)
                      · skip
                        exact tr_vret hZ dX12_notes_224 rfl (by decide) (by decide) ⟨rfl, rfl, rfl, rfl, rfl, rfl, hS300, trivial⟩
                      · skip
                        refine tr_aload_n dX12_notes_199 rfl ?_
                        refine tr_getR dX12_notes_200 fl12_64 (kR15 hS300.1 ta0) d289 ?_
                        refine q_sipush dX12_notes_203 (by decide +kernel) ?_
                        intro v337 h338
                        refine tr_iload_n dX12_notes_206 rfl ?_
                        refine q_imulE (c := 240) dX12_notes_207 (by exact om_0c59d38e h338) (by exact om_070681a3 hx1.2 hx1.1) ?_
                        intro v339 h340
                        refine tr_iload_n dX12_notes_208 rfl ?_
                        refine q_iaddE dX12_notes_209 (by intro j1 j2 j3 j4; exact om_f37895ac h13 h15 h23 h340 j1 j2) ?_
                        intro v341 h342
                        refine q_zald dX12_notes_210 (kR93 hS300.1 ta288) (ti_in (nR93 hS300.1 ta288) (by exact om_a1869a85 hx1.2 hx1.1 h13 h15 h23 h340 h342) (by exact om_f9734ce1 hx1.2 hx1.1 h13 h15 h23 h340 h342)) ?_
                        intro v343 c344
                        have b345 := iv93 hS300.1 ta288 c344
                        refine q_if_eq 224 dX12_notes_211 (by decide) (fun h346 => ?_) (fun h346 => ?_)
                        · skip
                          exact tr_vret hZ dX12_notes_224 rfl (by decide) (by decide) ⟨rfl, rfl, rfl, rfl, rfl, rfl, hS300, trivial⟩
                        · skip
                          refine tr_aload_n dX12_notes_214 rfl ?_
                          obtain ⟨a347, d348, ta347⟩ := rf15_32 hW0 ta0
                          refine tr_getR dX12_notes_215 fl12_61 (kR15 hS300.1 ta0) d348 ?_
                          refine tr_iload_n dX12_notes_218 rfl ?_
                          refine tr_dup2 dX12_notes_219 rfl rfl ?_
                          refine q_iald dX12_notes_220 (kR92 hS300.1 ta347) (ti_in (nR92 hS300.1 ta347) (by exact om_2a7998d2 hx1.2 hx1.1) (by exact om_2801faaf hx1.2 hx1.1)) ?_
                          intro v349 c350
                          refine q_iconst dX12_notes_221 (by decide) ?_
                          intro v351 h352
                          refine q_iadd dX12_notes_222 ?_
                          intro v353
                          refine q_iast dX12_notes_223 (kR92 hS300.1 ta347) (ti_in (nR92 hS300.1 ta347) (by exact om_2a7998d2 hx1.2 hx1.1) (by exact om_2801faaf hx1.2 hx1.1)) hS300 ta347 (iokF rfl) rfl (by rfl) ?_
                          intro I354 hS355 e357 f356
                          exact tr_vret hZ dX12_notes_224 rfl (by decide) (by decide) ⟨rfl, rfl, rfl, rfl, rfl, rfl, hS355, trivial⟩
                · skip
                  refine tr_aload_n dX12_notes_156 rfl ?_
                  obtain ⟨a358, d359, ta358⟩ := rf15_30 hW0 ta0
                  refine tr_getR dX12_notes_157 fl12_55 (kR15 hS300.1 ta0) d359 ?_
                  refine tr_iload_n dX12_notes_160 rfl ?_
                  refine tr_dup2 dX12_notes_161 rfl rfl ?_
                  refine q_iald dX12_notes_162 (kR90 hS300.1 ta358) (ti_in (nR90 hS300.1 ta358) (by exact om_2a7998d2 hx1.2 hx1.1) (by exact om_2801faaf hx1.2 hx1.1)) ?_
                  intro v360 c361
                  refine q_iconst dX12_notes_163 (by decide) ?_
                  intro v362 h363
                  refine q_iadd dX12_notes_164 ?_
                  intro v364
                  refine q_iast dX12_notes_165 (kR90 hS300.1 ta358) (ti_in (nR90 hS300.1 ta358) (by exact om_2a7998d2 hx1.2 hx1.1) (by exact om_2801faaf hx1.2 hx1.1)) hS300 ta358 (iokF rfl) rfl (by rfl) ?_
                  intro I365 hS366 e368 f367
                  refine tr_aload_n dX12_notes_166 rfl ?_
                  obtain ⟨a369, d370, ta369⟩ := rf15_25 hW0 ta0
                  refine tr_getR dX12_notes_167 fl12_40 (kR15 hS366.1 ta0) d370 ?_
                  refine tr_iload_n dX12_notes_170 rfl ?_
                  refine q_zald dX12_notes_171 (kR85 hS366.1 ta369) (ti_in (nR85 hS366.1 ta369) (by exact om_515a812f h13 h15 h23) (by exact om_812de82a h13 h15 h23)) ?_
                  intro v371 c372
                  have b373 := iv85 hS366.1 ta369 c372
                  refine q_if_eq 224 dX12_notes_172 (by decide) (fun h374 => ?_) (fun h374 => ?_)
                  · skip
                    exact tr_vret hZ dX12_notes_224 rfl (by decide) (by decide) ⟨rfl, rfl, rfl, rfl, rfl, rfl, hS366, trivial⟩
                  · skip
                    refine tr_aload_n dX12_notes_175 rfl ?_
                    obtain ⟨a375, d376, ta375⟩ := rf15_24 hW0 ta0
                    refine tr_getR dX12_notes_176 fl12_37 (kR15 hS366.1 ta0) d376 ?_
                    refine tr_iload_n dX12_notes_179 rfl ?_
                    refine q_zald dX12_notes_180 (kR84 hS366.1 ta375) (ti_in (nR84 hS366.1 ta375) (by exact om_515a812f h13 h15 h23) (by exact om_812de82a h13 h15 h23)) ?_
                    intro v377 c378
                    have b379 := iv84 hS366.1 ta375 c378
                    refine q_if_ne 224 dX12_notes_181 (by decide) (fun h380 => ?_) (fun h380 => ?_)
                    · skip
                      exact tr_vret hZ dX12_notes_224 rfl (by decide) (by decide) ⟨rfl, rfl, rfl, rfl, rfl, rfl, hS366, trivial⟩
                    · skip
                      refine tr_aload_n dX12_notes_184 rfl ?_
                      obtain ⟨a381, d382, ta381⟩ := rf15_26 hW0 ta0
                      refine tr_getR dX12_notes_185 fl12_43 (kR15 hS366.1 ta0) d382 ?_
                      refine q_sipush dX12_notes_188 (by decide +kernel) ?_
                      intro v383 h384
                      refine tr_iload_n dX12_notes_191 rfl ?_
                      refine q_imulE (c := 240) dX12_notes_192 (by exact om_0c59d38e h384) (by exact om_99db8683 b7.2 b7.1) ?_
                      intro v385 h386
                      refine tr_iload_n dX12_notes_193 rfl ?_
                      refine q_iaddE dX12_notes_194 (by intro j1 j2 j3 j4; exact om_8e44edf3 h13 h15 h23 h386 j1 j2) ?_
                      intro v387 h388
                      refine q_zald dX12_notes_195 (kR86 hS366.1 ta381) (ti_in (nR86 hS366.1 ta381) (by exact om_e2709e08 b7.2 b7.1 h13 h15 h23 h386 h388) (by exact om_d4ed2cba b7.2 b7.1 h13 h15 h23 h386 h388)) ?_
                      intro v389 c390
                      have b391 := iv86 hS366.1 ta381 c390
                      refine q_if_ne 224 dX12_notes_196 (by decide) (fun h392 => ?_) (fun h392 => ?_)
                      · skip
                        exact tr_vret hZ dX12_notes_224 rfl (by decide) (by decide) ⟨rfl, rfl, rfl, rfl, rfl, rfl, hS366, trivial⟩
                      · skip
                        refine tr_aload_n dX12_notes_199 rfl ?_
                        refine tr_getR dX12_notes_200 fl12_64 (kR15 hS366.1 ta0) d289 ?_
                        refine q_sipush dX12_notes_203 (by decide +kernel) ?_
                        intro v393 h394
                        refine tr_iload_n dX12_notes_206 rfl ?_
                        refine q_imulE (c := 240) dX12_notes_207 (by exact om_0c59d38e h394) (by exact om_070681a3 hx1.2 hx1.1) ?_
                        intro v395 h396
                        refine tr_iload_n dX12_notes_208 rfl ?_
                        refine q_iaddE dX12_notes_209 (by intro j1 j2 j3 j4; exact om_f37895ac h13 h15 h23 h396 j1 j2) ?_
                        intro v397 h398
                        refine q_zald dX12_notes_210 (kR93 hS366.1 ta288) (ti_in (nR93 hS366.1 ta288) (by exact om_a1869a85 hx1.2 hx1.1 h13 h15 h23 h396 h398) (by exact om_f9734ce1 hx1.2 hx1.1 h13 h15 h23 h396 h398)) ?_
                        intro v399 c400
                        have b401 := iv93 hS366.1 ta288 c400
                        refine q_if_eq 224 dX12_notes_211 (by decide) (fun h402 => ?_) (fun h402 => ?_)
                        · skip
                          exact tr_vret hZ dX12_notes_224 rfl (by decide) (by decide) ⟨rfl, rfl, rfl, rfl, rfl, rfl, hS366, trivial⟩
                        · skip
                          refine tr_aload_n dX12_notes_214 rfl ?_
                          obtain ⟨a403, d404, ta403⟩ := rf15_32 hW0 ta0
                          refine tr_getR dX12_notes_215 fl12_61 (kR15 hS366.1 ta0) d404 ?_
                          refine tr_iload_n dX12_notes_218 rfl ?_
                          refine tr_dup2 dX12_notes_219 rfl rfl ?_
                          refine q_iald dX12_notes_220 (kR92 hS366.1 ta403) (ti_in (nR92 hS366.1 ta403) (by exact om_2a7998d2 hx1.2 hx1.1) (by exact om_2801faaf hx1.2 hx1.1)) ?_
                          intro v405 c406
                          refine q_iconst dX12_notes_221 (by decide) ?_
                          intro v407 h408
                          refine q_iadd dX12_notes_222 ?_
                          intro v409
                          refine q_iast dX12_notes_223 (kR92 hS366.1 ta403) (ti_in (nR92 hS366.1 ta403) (by exact om_2a7998d2 hx1.2 hx1.1) (by exact om_2801faaf hx1.2 hx1.1)) hS366 ta403 (iokF rfl) rfl (by rfl) ?_
                          intro I410 hS411 e413 f412
                          exact tr_vret hZ dX12_notes_224 rfl (by decide) (by decide) ⟨rfl, rfl, rfl, rfl, rfl, rfl, hS411, trivial⟩
            · skip
              exfalso; exact om_3a97d4a5 h22 h310
          · skip
            exfalso; exact om_3a97d4a5 h22 h309
        · skip
          exfalso; exact om_366345a0 h22 h287 h296
      · skip
        refine q_iconst dX12_notes_50 (by decide) ?_
        intro v414 h415
        refine tr_goto 72 dX12_notes_51 (by decide) ?_
        refine tr_istore dX12_notes_72 (by decide) (by decide) ?_
        refine tr_aload_n dX12_notes_74 rfl ?_
        obtain ⟨a416, d417, ta416⟩ := rf15_33 hW0 ta0
        refine tr_getR dX12_notes_75 fl12_64 (kR15 hS0.1 ta0) d417 ?_
        refine q_sipush dX12_notes_78 (by decide +kernel) ?_
        intro v418 h419
        refine tr_iload_n dX12_notes_81 rfl ?_
        refine q_imulE (c := 240) dX12_notes_82 (by exact om_0c59d38e h419) (by exact om_070681a3 hx1.2 hx1.1) ?_
        intro v420 h421
        refine tr_iload_n dX12_notes_83 rfl ?_
        refine q_iaddE dX12_notes_84 (by intro j1 j2 j3 j4; exact om_f37895ac h13 h15 h23 h421 j1 j2) ?_
        intro v422 h423
        refine tr_iload dX12_notes_85 rfl ?_
        refine tr_iload dX12_notes_87 rfl ?_
        refine q_icmp_eq 96 dX12_notes_89 (by decide) (fun h424 => ?_) (fun h424 => ?_)
        · skip
          exfalso; exact om_b24990b1 h22 h415 h424
        · skip
          refine q_iconst dX12_notes_92 (by decide) ?_
          intro v425 h426
          refine tr_goto 97 dX12_notes_93 (by decide) ?_
          refine q_zast dX12_notes_97 (kR93 hS0.1 ta416) (ti_in (nR93 hS0.1 ta416) (by exact om_a1869a85 hx1.2 hx1.1 h13 h15 h23 h421 h423) (by exact om_f9734ce1 hx1.2 hx1.1 h13 h15 h23 h421 h423)) hS0 ta416 (by exact om_d753bc65 h426) rfl rfl (by rfl) ?_
          intro I427 hS428 f429
          refine tr_aload_n dX12_notes_98 rfl ?_
          refine tr_iload_n dX12_notes_99 rfl ?_
          refine tr_iload_n dX12_notes_100 rfl ?_
          refine q_callVi hE (M' := mX12_changesIn) (as := [_, _]) dX12_notes_101 lk12_413 inX12_changesIn seX12_changesIn myX12_changesIn (by decide) ⟨by decide, by decide⟩ rfl (kR15 hS428.1 ta0) (Nat.le_of_ble_eq_true rfl) rfl rfl (by decide) (by decide) (k_X12_changesIn hS428.1 ta0 (by exact om_6c59cd6a b7) (by exact om_87537644 hx2)) ?_
          rintro v435 cn' K' N' I431 R432 L433 ⟨rfl, rfl, rfl, rfl, rfl, rfl, h436, -⟩
          refine tr_istore dX12_notes_104 (by decide) (by decide) ?_
          refine tr_iload dX12_notes_106 rfl ?_
          refine q_if_eq 126 dX12_notes_108 (by decide) (fun h437 => ?_) (fun h437 => ?_)
          · skip
            refine tr_iload dX12_notes_126 rfl ?_
            refine q_if_eq 146 dX12_notes_128 (by decide) (fun h438 => ?_) (fun h438 => ?_)
            · skip
              refine tr_iload dX12_notes_146 rfl ?_
              refine q_if_ne 166 dX12_notes_148 (by decide) (fun h439 => ?_) (fun h439 => ?_)
              · skip
                exfalso; exact om_3a97d4a5 h22 h439
              · skip
                refine tr_iload dX12_notes_151 rfl ?_
                refine q_if_eq 166 dX12_notes_153 (by decide) (fun h440 => ?_) (fun h440 => ?_)
                · skip
                  refine tr_aload_n dX12_notes_166 rfl ?_
                  obtain ⟨a441, d442, ta441⟩ := rf15_25 hW0 ta0
                  refine tr_getR dX12_notes_167 fl12_40 (kR15 hS428.1 ta0) d442 ?_
                  refine tr_iload_n dX12_notes_170 rfl ?_
                  refine q_zald dX12_notes_171 (kR85 hS428.1 ta441) (ti_in (nR85 hS428.1 ta441) (by exact om_515a812f h13 h15 h23) (by exact om_812de82a h13 h15 h23)) ?_
                  intro v443 c444
                  have b445 := iv85 hS428.1 ta441 c444
                  refine q_if_eq 224 dX12_notes_172 (by decide) (fun h446 => ?_) (fun h446 => ?_)
                  · skip
                    exact tr_vret hZ dX12_notes_224 rfl (by decide) (by decide) ⟨rfl, rfl, rfl, rfl, rfl, rfl, hS428, trivial⟩
                  · skip
                    refine tr_aload_n dX12_notes_175 rfl ?_
                    obtain ⟨a447, d448, ta447⟩ := rf15_24 hW0 ta0
                    refine tr_getR dX12_notes_176 fl12_37 (kR15 hS428.1 ta0) d448 ?_
                    refine tr_iload_n dX12_notes_179 rfl ?_
                    refine q_zald dX12_notes_180 (kR84 hS428.1 ta447) (ti_in (nR84 hS428.1 ta447) (by exact om_515a812f h13 h15 h23) (by exact om_812de82a h13 h15 h23)) ?_
                    intro v449 c450
                    have b451 := iv84 hS428.1 ta447 c450
                    refine q_if_ne 224 dX12_notes_181 (by decide) (fun h452 => ?_) (fun h452 => ?_)
                    · skip
                      exact tr_vret hZ dX12_notes_224 rfl (by decide) (by decide) ⟨rfl, rfl, rfl, rfl, rfl, rfl, hS428, trivial⟩
                    · skip
                      refine tr_aload_n dX12_notes_184 rfl ?_
                      obtain ⟨a453, d454, ta453⟩ := rf15_26 hW0 ta0
                      refine tr_getR dX12_notes_185 fl12_43 (kR15 hS428.1 ta0) d454 ?_
                      refine q_sipush dX12_notes_188 (by decide +kernel) ?_
                      intro v455 h456
                      refine tr_iload_n dX12_notes_191 rfl ?_
                      refine q_imulE (c := 240) dX12_notes_192 (by exact om_0c59d38e h456) (by exact om_99db8683 b7.2 b7.1) ?_
                      intro v457 h458
                      refine tr_iload_n dX12_notes_193 rfl ?_
                      refine q_iaddE dX12_notes_194 (by intro j1 j2 j3 j4; exact om_8e44edf3 h13 h15 h23 h458 j1 j2) ?_
                      intro v459 h460
                      refine q_zald dX12_notes_195 (kR86 hS428.1 ta453) (ti_in (nR86 hS428.1 ta453) (by exact om_e2709e08 b7.2 b7.1 h13 h15 h23 h458 h460) (by exact om_d4ed2cba b7.2 b7.1 h13 h15 h23 h458 h460)) ?_
                      intro v461 c462
                      have b463 := iv86 hS428.1 ta453 c462
                      refine q_if_ne 224 dX12_notes_196 (by decide) (fun h464 => ?_) (fun h464 => ?_)
                      · skip
                        exact tr_vret hZ dX12_notes_224 rfl (by decide) (by decide) ⟨rfl, rfl, rfl, rfl, rfl, rfl, hS428, trivial⟩
                      · skip
                        refine tr_aload_n dX12_notes_199 rfl ?_
                        refine tr_getR dX12_notes_200 fl12_64 (kR15 hS428.1 ta0) d417 ?_
                        refine q_sipush dX12_notes_203 (by decide +kernel) ?_
                        intro v465 h466
                        refine tr_iload_n dX12_notes_206 rfl ?_
                        refine q_imulE (c := 240) dX12_notes_207 (by exact om_0c59d38e h466) (by exact om_070681a3 hx1.2 hx1.1) ?_
                        intro v467 h468
                        refine tr_iload_n dX12_notes_208 rfl ?_
                        refine q_iaddE dX12_notes_209 (by intro j1 j2 j3 j4; exact om_f37895ac h13 h15 h23 h468 j1 j2) ?_
                        intro v469 h470
                        refine q_zald dX12_notes_210 (kR93 hS428.1 ta416) (ti_in (nR93 hS428.1 ta416) (by exact om_a1869a85 hx1.2 hx1.1 h13 h15 h23 h468 h470) (by exact om_f9734ce1 hx1.2 hx1.1 h13 h15 h23 h468 h470)) ?_
                        intro v471 c472
                        have b473 := iv93 hS428.1 ta416 c472
                        refine q_if_eq 224 dX12_notes_211 (by decide) (fun h474 => ?_) (fun h474 => ?_)
                        · skip
                          exact tr_vret hZ dX12_notes_224 rfl (by decide) (by decide) ⟨rfl, rfl, rfl, rfl, rfl, rfl, hS428, trivial⟩
                        · skip
                          refine tr_aload_n dX12_notes_214 rfl ?_
                          obtain ⟨a475, d476, ta475⟩ := rf15_32 hW0 ta0
                          refine tr_getR dX12_notes_215 fl12_61 (kR15 hS428.1 ta0) d476 ?_
                          refine tr_iload_n dX12_notes_218 rfl ?_
                          refine tr_dup2 dX12_notes_219 rfl rfl ?_
                          refine q_iald dX12_notes_220 (kR92 hS428.1 ta475) (ti_in (nR92 hS428.1 ta475) (by exact om_2a7998d2 hx1.2 hx1.1) (by exact om_2801faaf hx1.2 hx1.1)) ?_
                          intro v477 c478
                          refine q_iconst dX12_notes_221 (by decide) ?_
                          intro v479 h480
                          refine q_iadd dX12_notes_222 ?_
                          intro v481
                          refine q_iast dX12_notes_223 (kR92 hS428.1 ta475) (ti_in (nR92 hS428.1 ta475) (by exact om_2a7998d2 hx1.2 hx1.1) (by exact om_2801faaf hx1.2 hx1.1)) hS428 ta475 (iokF rfl) rfl (by rfl) ?_
                          intro I482 hS483 e485 f484
                          exact tr_vret hZ dX12_notes_224 rfl (by decide) (by decide) ⟨rfl, rfl, rfl, rfl, rfl, rfl, hS483, trivial⟩
                · skip
                  refine tr_aload_n dX12_notes_156 rfl ?_
                  obtain ⟨a486, d487, ta486⟩ := rf15_30 hW0 ta0
                  refine tr_getR dX12_notes_157 fl12_55 (kR15 hS428.1 ta0) d487 ?_
                  refine tr_iload_n dX12_notes_160 rfl ?_
                  refine tr_dup2 dX12_notes_161 rfl rfl ?_
                  refine q_iald dX12_notes_162 (kR90 hS428.1 ta486) (ti_in (nR90 hS428.1 ta486) (by exact om_2a7998d2 hx1.2 hx1.1) (by exact om_2801faaf hx1.2 hx1.1)) ?_
                  intro v488 c489
                  refine q_iconst dX12_notes_163 (by decide) ?_
                  intro v490 h491
                  refine q_iadd dX12_notes_164 ?_
                  intro v492
                  refine q_iast dX12_notes_165 (kR90 hS428.1 ta486) (ti_in (nR90 hS428.1 ta486) (by exact om_2a7998d2 hx1.2 hx1.1) (by exact om_2801faaf hx1.2 hx1.1)) hS428 ta486 (iokF rfl) rfl (by rfl) ?_
                  intro I493 hS494 e496 f495
                  refine tr_aload_n dX12_notes_166 rfl ?_
                  obtain ⟨a497, d498, ta497⟩ := rf15_25 hW0 ta0
                  refine tr_getR dX12_notes_167 fl12_40 (kR15 hS494.1 ta0) d498 ?_
                  refine tr_iload_n dX12_notes_170 rfl ?_
                  refine q_zald dX12_notes_171 (kR85 hS494.1 ta497) (ti_in (nR85 hS494.1 ta497) (by exact om_515a812f h13 h15 h23) (by exact om_812de82a h13 h15 h23)) ?_
                  intro v499 c500
                  have b501 := iv85 hS494.1 ta497 c500
                  refine q_if_eq 224 dX12_notes_172 (by decide) (fun h502 => ?_) (fun h502 => ?_)
                  · skip
                    exact tr_vret hZ dX12_notes_224 rfl (by decide) (by decide) ⟨rfl, rfl, rfl, rfl, rfl, rfl, hS494, trivial⟩
                  · skip
                    refine tr_aload_n dX12_notes_175 rfl ?_
                    obtain ⟨a503, d504, ta503⟩ := rf15_24 hW0 ta0
                    refine tr_getR dX12_notes_176 fl12_37 (kR15 hS494.1 ta0) d504 ?_
                    refine tr_iload_n dX12_notes_179 rfl ?_
                    refine q_zald dX12_notes_180 (kR84 hS494.1 ta503) (ti_in (nR84 hS494.1 ta503) (by exact om_515a812f h13 h15 h23) (by exact om_812de82a h13 h15 h23)) ?_
                    intro v505 c506
                    have b507 := iv84 hS494.1 ta503 c506
                    refine q_if_ne 224 dX12_notes_181 (by decide) (fun h508 => ?_) (fun h508 => ?_)
                    · skip
                      exact tr_vret hZ dX12_notes_224 rfl (by decide) (by decide) ⟨rfl, rfl, rfl, rfl, rfl, rfl, hS494, trivial⟩
                    · skip
                      refine tr_aload_n dX12_notes_184 rfl ?_
                      obtain ⟨a509, d510, ta509⟩ := rf15_26 hW0 ta0
                      refine tr_getR dX12_notes_185 fl12_43 (kR15 hS494.1 ta0) d510 ?_
                      refine q_sipush dX12_notes_188 (by decide +kernel) ?_
                      intro v511 h512
                      refine tr_iload_n dX12_notes_191 rfl ?_
                      refine q_imulE (c := 240) dX12_notes_192 (by exact om_0c59d38e h512) (by exact om_99db8683 b7.2 b7.1) ?_
                      intro v513 h514
                      refine tr_iload_n dX12_notes_193 rfl ?_
                      refine q_iaddE dX12_notes_194 (by intro j1 j2 j3 j4; exact om_8e44edf3 h13 h15 h23 h514 j1 j2) ?_
                      intro v515 h516
                      refine q_zald dX12_notes_195 (kR86 hS494.1 ta509) (ti_in (nR86 hS494.1 ta509) (by exact om_e2709e08 b7.2 b7.1 h13 h15 h23 h514 h516) (by exact om_d4ed2cba b7.2 b7.1 h13 h15 h23 h514 h516)) ?_
                      intro v517 c518
                      have b519 := iv86 hS494.1 ta509 c518
                      refine q_if_ne 224 dX12_notes_196 (by decide) (fun h520 => ?_) (fun h520 => ?_)
                      · skip
                        exact tr_vret hZ dX12_notes_224 rfl (by decide) (by decide) ⟨rfl, rfl, rfl, rfl, rfl, rfl, hS494, trivial⟩
                      · skip
                        refine tr_aload_n dX12_notes_199 rfl ?_
                        refine tr_getR dX12_notes_200 fl12_64 (kR15 hS494.1 ta0) d417 ?_
                        refine q_sipush dX12_notes_203 (by decide +kernel) ?_
                        intro v521 h522
                        refine tr_iload_n dX12_notes_206 rfl ?_
                        refine q_imulE (c := 240) dX12_notes_207 (by exact om_0c59d38e h522) (by exact om_070681a3 hx1.2 hx1.1) ?_
                        intro v523 h524
                        refine tr_iload_n dX12_notes_208 rfl ?_
                        refine q_iaddE dX12_notes_209 (by intro j1 j2 j3 j4; exact om_f37895ac h13 h15 h23 h524 j1 j2) ?_
                        intro v525 h526
                        refine q_zald dX12_notes_210 (kR93 hS494.1 ta416) (ti_in (nR93 hS494.1 ta416) (by exact om_a1869a85 hx1.2 hx1.1 h13 h15 h23 h524 h526) (by exact om_f9734ce1 hx1.2 hx1.1 h13 h15 h23 h524 h526)) ?_
                        intro v527 c528
                        have b529 := iv93 hS494.1 ta416 c528
                        refine q_if_eq 224 dX12_notes_211 (by decide) (fun h530 => ?_) (fun h530 => ?_)
                        · skip
                          exact tr_vret hZ dX12_notes_224 rfl (by decide) (by decide) ⟨rfl, rfl, rfl, rfl, rfl, rfl, hS494, trivial⟩
                        · skip
                          refine tr_aload_n dX12_notes_214 rfl ?_
                          obtain ⟨a531, d532, ta531⟩ := rf15_32 hW0 ta0
                          refine tr_getR dX12_notes_215 fl12_61 (kR15 hS494.1 ta0) d532 ?_
                          refine tr_iload_n dX12_notes_218 rfl ?_
                          refine tr_dup2 dX12_notes_219 rfl rfl ?_
                          refine q_iald dX12_notes_220 (kR92 hS494.1 ta531) (ti_in (nR92 hS494.1 ta531) (by exact om_2a7998d2 hx1.2 hx1.1) (by exact om_2801faaf hx1.2 hx1.1)) ?_
                          intro v533 c534
                          refine q_iconst dX12_notes_221 (by decide) ?_
                          intro v535 h536
                          refine q_iadd dX12_notes_222 ?_
                          intro v537
                          refine q_iast dX12_notes_223 (kR92 hS494.1 ta531) (ti_in (nR92 hS494.1 ta531) (by exact om_2a7998d2 hx1.2 hx1.1) (by exact om_2801faaf hx1.2 hx1.1)) hS494 ta531 (iokF rfl) rfl (by rfl) ?_
                          intro I538 hS539 e541 f540
                          exact tr_vret hZ dX12_notes_224 rfl (by decide) (by decide) ⟨rfl, rfl, rfl, rfl, rfl, rfl, hS539, trivial⟩
            · skip
              exfalso; exact om_3a97d4a5 h22 h438
          · skip
            exfalso; exact om_3a97d4a5 h22 h437
  · skip
    refine q_iconst dX12_notes_27 (by decide) ?_
    intro v542 h543
    refine tr_goto 32 dX12_notes_28 (by decide) ?_
    refine tr_istore dX12_notes_32 (by decide) (by decide) ?_
    refine tr_iload_n dX12_notes_34 rfl ?_
    refine q_if_ne 58 dX12_notes_35 (by decide) (fun h544 => ?_) (fun h544 => ?_)
    · skip
      refine tr_aload_n dX12_notes_58 rfl ?_
      obtain ⟨a545, d546, ta545⟩ := rf15_33 hW0 ta0
      refine tr_getR dX12_notes_59 fl12_64 (kR15 hS0.1 ta0) d546 ?_
      refine q_sipush dX12_notes_62 (by decide +kernel) ?_
      intro v547 h548
      refine tr_iload_n dX12_notes_65 rfl ?_
      refine q_imulE (c := 240) dX12_notes_66 (by exact om_0c59d38e h548) (by exact om_070681a3 hx1.2 hx1.1) ?_
      intro v549 h550
      refine tr_iload_n dX12_notes_67 rfl ?_
      refine q_iaddE dX12_notes_68 (by intro j1 j2 j3 j4; exact om_b19f81d3 hx1.2 hx1.1 hx2.2 hx2.1 h13 h15 h550 j1 j2) ?_
      intro v551 h552
      refine q_iconst dX12_notes_69 (by decide) ?_
      intro v553 h554
      refine q_isubE dX12_notes_70 (by intro j1 j2 j3 j4; exact om_1d3a788b hx1.2 hx1.1 hx2.2 hx2.1 h13 h15 h550 h552 h554 j1 j2) ?_
      intro v555 h556
      refine q_zald dX12_notes_71 (kR93 hS0.1 ta545) (ti_in (nR93 hS0.1 ta545) (by exact om_56172090 hx1.2 hx1.1 hx2.2 hx2.1 h13 h15 h544 h550 h552 h554 h556) (by exact om_5106e3da hx1.2 hx1.1 hx2.2 hx2.1 h13 h15 h550 h552 h554 h556)) ?_
      intro v557 c558
      have b559 := iv93 hS0.1 ta545 c558
      refine tr_istore dX12_notes_72 (by decide) (by decide) ?_
      refine tr_aload_n dX12_notes_74 rfl ?_
      refine tr_getR dX12_notes_75 fl12_64 (kR15 hS0.1 ta0) d546 ?_
      refine q_sipush dX12_notes_78 (by decide +kernel) ?_
      intro v560 h561
      refine tr_iload_n dX12_notes_81 rfl ?_
      refine q_imulE (c := 240) dX12_notes_82 (by exact om_0c59d38e h561) (by exact om_070681a3 hx1.2 hx1.1) ?_
      intro v562 h563
      refine tr_iload_n dX12_notes_83 rfl ?_
      refine q_iaddE dX12_notes_84 (by intro j1 j2 j3 j4; exact om_4f363820 hx1.2 hx1.1 hx2.2 hx2.1 h13 h15 h550 h552 h554 h556 h563 j1 j2) ?_
      intro v564 h565
      refine tr_iload dX12_notes_85 rfl ?_
      refine tr_iload dX12_notes_87 rfl ?_
      refine q_icmp_eq 96 dX12_notes_89 (by decide) (fun h566 => ?_) (fun h566 => ?_)
      · skip
        refine q_iconst dX12_notes_96 (by decide) ?_
        intro v567 h568
        refine q_zast dX12_notes_97 (kR93 hS0.1 ta545) (ti_in (nR93 hS0.1 ta545) (by exact om_281f2636 hx1.2 hx1.1 hx2.2 hx2.1 h13 h15 h550 h552 h554 h556 h563 h565) (by exact om_b1d60cf4 hx1.2 hx1.1 hx2.2 hx2.1 h13 h15 h550 h552 h554 h556 h563 h565)) hS0 ta545 (by exact om_3b50ecb9 h568) rfl rfl (by rfl) ?_
        intro I569 hS570 f571
        refine tr_aload_n dX12_notes_98 rfl ?_
        refine tr_iload_n dX12_notes_99 rfl ?_
        refine tr_iload_n dX12_notes_100 rfl ?_
        refine q_callVi hE (M' := mX12_changesIn) (as := [_, _]) dX12_notes_101 lk12_413 inX12_changesIn seX12_changesIn myX12_changesIn (by decide) ⟨by decide, by decide⟩ rfl (kR15 hS570.1 ta0) (Nat.le_of_ble_eq_true rfl) rfl rfl (by decide) (by decide) (k_X12_changesIn hS570.1 ta0 (by exact om_6c59cd6a b7) (by exact om_87537644 hx2)) ?_
        rintro v577 cn' K' N' I573 R574 L575 ⟨rfl, rfl, rfl, rfl, rfl, rfl, h578, -⟩
        refine tr_istore dX12_notes_104 (by decide) (by decide) ?_
        refine tr_iload dX12_notes_106 rfl ?_
        refine q_if_eq 126 dX12_notes_108 (by decide) (fun h579 => ?_) (fun h579 => ?_)
        · skip
          exfalso; exact om_3624102b h543 h579
        · skip
          refine tr_iload dX12_notes_111 rfl ?_
          refine q_if_eq 126 dX12_notes_113 (by decide) (fun h580 => ?_) (fun h580 => ?_)
          · skip
            refine tr_iload dX12_notes_126 rfl ?_
            refine q_if_eq 146 dX12_notes_128 (by decide) (fun h581 => ?_) (fun h581 => ?_)
            · skip
              exfalso; exact om_3624102b h543 h581
            · skip
              refine tr_iload dX12_notes_131 rfl ?_
              refine q_if_ne 146 dX12_notes_133 (by decide) (fun h582 => ?_) (fun h582 => ?_)
              · skip
                exfalso; exact om_3a97d4a5 h580 h582
              · skip
                refine tr_aload_n dX12_notes_136 rfl ?_
                obtain ⟨a583, d584, ta583⟩ := rf15_31 hW0 ta0
                refine tr_getR dX12_notes_137 fl12_58 (kR15 hS570.1 ta0) d584 ?_
                refine tr_iload_n dX12_notes_140 rfl ?_
                refine tr_dup2 dX12_notes_141 rfl rfl ?_
                refine q_iald dX12_notes_142 (kR91 hS570.1 ta583) (ti_in (nR91 hS570.1 ta583) (by exact om_2a7998d2 hx1.2 hx1.1) (by exact om_2801faaf hx1.2 hx1.1)) ?_
                intro v585 c586
                refine q_iconst dX12_notes_143 (by decide) ?_
                intro v587 h588
                refine q_iadd dX12_notes_144 ?_
                intro v589
                refine q_iast dX12_notes_145 (kR91 hS570.1 ta583) (ti_in (nR91 hS570.1 ta583) (by exact om_2a7998d2 hx1.2 hx1.1) (by exact om_2801faaf hx1.2 hx1.1)) hS570 ta583 (iokF rfl) rfl (by rfl) ?_
                intro I590 hS591 e593 f592
                refine tr_iload dX12_notes_146 rfl ?_
                refine q_if_ne 166 dX12_notes_148 (by decide) (fun h594 => ?_) (fun h594 => ?_)
                · skip
                  refine tr_aload_n dX12_notes_166 rfl ?_
                  obtain ⟨a595, d596, ta595⟩ := rf15_25 hW0 ta0
                  refine tr_getR dX12_notes_167 fl12_40 (kR15 hS591.1 ta0) d596 ?_
                  refine tr_iload_n dX12_notes_170 rfl ?_
                  refine q_zald dX12_notes_171 (kR85 hS591.1 ta595) (ti_in (nR85 hS591.1 ta595) (by exact om_4fc6f57e hx2.2 hx2.1 h13 h15 h550 h552 h554 h556 h563 h565) (by exact om_573dd651 hx2.2 hx2.1 h13 h15 h550 h552 h554 h556 h563 h565)) ?_
                  intro v597 c598
                  have b599 := iv85 hS591.1 ta595 c598
                  refine q_if_eq 224 dX12_notes_172 (by decide) (fun h600 => ?_) (fun h600 => ?_)
                  · skip
                    exact tr_vret hZ dX12_notes_224 rfl (by decide) (by decide) ⟨rfl, rfl, rfl, rfl, rfl, rfl, hS591, trivial⟩
                  · skip
                    refine tr_aload_n dX12_notes_175 rfl ?_
                    obtain ⟨a601, d602, ta601⟩ := rf15_24 hW0 ta0
                    refine tr_getR dX12_notes_176 fl12_37 (kR15 hS591.1 ta0) d602 ?_
                    refine tr_iload_n dX12_notes_179 rfl ?_
                    refine q_zald dX12_notes_180 (kR84 hS591.1 ta601) (ti_in (nR84 hS591.1 ta601) (by exact om_4fc6f57e hx2.2 hx2.1 h13 h15 h550 h552 h554 h556 h563 h565) (by exact om_573dd651 hx2.2 hx2.1 h13 h15 h550 h552 h554 h556 h563 h565)) ?_
                    intro v603 c604
                    have b605 := iv84 hS591.1 ta601 c604
                    refine q_if_ne 224 dX12_notes_181 (by decide) (fun h606 => ?_) (fun h606 => ?_)
                    · skip
                      exact tr_vret hZ dX12_notes_224 rfl (by decide) (by decide) ⟨rfl, rfl, rfl, rfl, rfl, rfl, hS591, trivial⟩
                    · skip
                      refine tr_aload_n dX12_notes_184 rfl ?_
                      obtain ⟨a607, d608, ta607⟩ := rf15_26 hW0 ta0
                      refine tr_getR dX12_notes_185 fl12_43 (kR15 hS591.1 ta0) d608 ?_
                      refine q_sipush dX12_notes_188 (by decide +kernel) ?_
                      intro v609 h610
                      refine tr_iload_n dX12_notes_191 rfl ?_
                      refine q_imulE (c := 240) dX12_notes_192 (by exact om_0c59d38e h610) (by exact om_99db8683 b7.2 b7.1) ?_
                      intro v611 h612
                      refine tr_iload_n dX12_notes_193 rfl ?_
                      refine q_iaddE dX12_notes_194 (by intro j1 j2 j3 j4; exact om_1bc43282 hx2.2 hx2.1 b7.2 b7.1 h13 h15 h550 h552 h554 h556 h563 h565 h612 j1 j2) ?_
                      intro v613 h614
                      refine q_zald dX12_notes_195 (kR86 hS591.1 ta607) (ti_in (nR86 hS591.1 ta607) (by exact om_341d5661 hx2.2 hx2.1 b7.2 b7.1 h13 h15 h550 h552 h554 h556 h563 h565 h612 h614) (by exact om_b6f43ebc hx2.2 hx2.1 b7.2 b7.1 h13 h15 h550 h552 h554 h556 h563 h565 h612 h614)) ?_
                      intro v615 c616
                      have b617 := iv86 hS591.1 ta607 c616
                      refine q_if_ne 224 dX12_notes_196 (by decide) (fun h618 => ?_) (fun h618 => ?_)
                      · skip
                        exact tr_vret hZ dX12_notes_224 rfl (by decide) (by decide) ⟨rfl, rfl, rfl, rfl, rfl, rfl, hS591, trivial⟩
                      · skip
                        refine tr_aload_n dX12_notes_199 rfl ?_
                        refine tr_getR dX12_notes_200 fl12_64 (kR15 hS591.1 ta0) d546 ?_
                        refine q_sipush dX12_notes_203 (by decide +kernel) ?_
                        intro v619 h620
                        refine tr_iload_n dX12_notes_206 rfl ?_
                        refine q_imulE (c := 240) dX12_notes_207 (by exact om_0c59d38e h620) (by exact om_070681a3 hx1.2 hx1.1) ?_
                        intro v621 h622
                        refine tr_iload_n dX12_notes_208 rfl ?_
                        refine q_iaddE dX12_notes_209 (by intro j1 j2 j3 j4; exact om_38fe30b0 hx1.2 hx1.1 hx2.2 hx2.1 h13 h15 h550 h552 h554 h556 h563 h565 h612 h614 h622 j1 j2) ?_
                        intro v623 h624
                        refine q_zald dX12_notes_210 (kR93 hS591.1 ta545) (ti_in (nR93 hS591.1 ta545) (by exact om_68738bd2 hx1.2 hx1.1 hx2.2 hx2.1 h13 h15 h550 h552 h554 h556 h563 h565 h612 h614 h622 h624) (by exact om_a5acdef4 hx1.2 hx1.1 hx2.2 hx2.1 h13 h15 h550 h552 h554 h556 h563 h565 h612 h614 h622 h624)) ?_
                        intro v625 c626
                        have b627 := iv93 hS591.1 ta545 c626
                        refine q_if_eq 224 dX12_notes_211 (by decide) (fun h628 => ?_) (fun h628 => ?_)
                        · skip
                          exact tr_vret hZ dX12_notes_224 rfl (by decide) (by decide) ⟨rfl, rfl, rfl, rfl, rfl, rfl, hS591, trivial⟩
                        · skip
                          refine tr_aload_n dX12_notes_214 rfl ?_
                          obtain ⟨a629, d630, ta629⟩ := rf15_32 hW0 ta0
                          refine tr_getR dX12_notes_215 fl12_61 (kR15 hS591.1 ta0) d630 ?_
                          refine tr_iload_n dX12_notes_218 rfl ?_
                          refine tr_dup2 dX12_notes_219 rfl rfl ?_
                          refine q_iald dX12_notes_220 (kR92 hS591.1 ta629) (ti_in (nR92 hS591.1 ta629) (by exact om_2a7998d2 hx1.2 hx1.1) (by exact om_2801faaf hx1.2 hx1.1)) ?_
                          intro v631 c632
                          refine q_iconst dX12_notes_221 (by decide) ?_
                          intro v633 h634
                          refine q_iadd dX12_notes_222 ?_
                          intro v635
                          refine q_iast dX12_notes_223 (kR92 hS591.1 ta629) (ti_in (nR92 hS591.1 ta629) (by exact om_2a7998d2 hx1.2 hx1.1) (by exact om_2801faaf hx1.2 hx1.1)) hS591 ta629 (iokF rfl) rfl (by rfl) ?_
                          intro I636 hS637 e639 f638
                          exact tr_vret hZ dX12_notes_224 rfl (by decide) (by decide) ⟨rfl, rfl, rfl, rfl, rfl, rfl, hS637, trivial⟩
                · skip
                  exfalso; exact om_3624102b h543 h594
          · skip
            refine tr_aload_n dX12_notes_116 rfl ?_
            obtain ⟨a640, d641, ta640⟩ := rf15_29 hW0 ta0
            refine tr_getR dX12_notes_117 fl12_52 (kR15 hS570.1 ta0) d641 ?_
            refine tr_iload_n dX12_notes_120 rfl ?_
            refine tr_dup2 dX12_notes_121 rfl rfl ?_
            refine q_iald dX12_notes_122 (kR89 hS570.1 ta640) (ti_in (nR89 hS570.1 ta640) (by exact om_2a7998d2 hx1.2 hx1.1) (by exact om_2801faaf hx1.2 hx1.1)) ?_
            intro v642 c643
            refine q_iconst dX12_notes_123 (by decide) ?_
            intro v644 h645
            refine q_iadd dX12_notes_124 ?_
            intro v646
            refine q_iast dX12_notes_125 (kR89 hS570.1 ta640) (ti_in (nR89 hS570.1 ta640) (by exact om_2a7998d2 hx1.2 hx1.1) (by exact om_2801faaf hx1.2 hx1.1)) hS570 ta640 (iokF rfl) rfl (by rfl) ?_
            intro I647 hS648 e650 f649
            refine tr_iload dX12_notes_126 rfl ?_
            refine q_if_eq 146 dX12_notes_128 (by decide) (fun h651 => ?_) (fun h651 => ?_)
            · skip
              exfalso; exact om_3624102b h543 h651
            · skip
              refine tr_iload dX12_notes_131 rfl ?_
              refine q_if_ne 146 dX12_notes_133 (by decide) (fun h652 => ?_) (fun h652 => ?_)
              · skip
                refine tr_iload dX12_notes_146 rfl ?_
                refine q_if_ne 166 dX12_notes_148 (by decide) (fun h653 => ?_) (fun h653 => ?_)
                · skip
                  refine tr_aload_n dX12_notes_166 rfl ?_
                  obtain ⟨a654, d655, ta654⟩ := rf15_25 hW0 ta0
                  refine tr_getR dX12_notes_167 fl12_40 (kR15 hS648.1 ta0) d655 ?_
                  refine tr_iload_n dX12_notes_170 rfl ?_
                  refine q_zald dX12_notes_171 (kR85 hS648.1 ta654) (ti_in (nR85 hS648.1 ta654) (by exact om_4fc6f57e hx2.2 hx2.1 h13 h15 h550 h552 h554 h556 h563 h565) (by exact om_573dd651 hx2.2 hx2.1 h13 h15 h550 h552 h554 h556 h563 h565)) ?_
                  intro v656 c657
                  have b658 := iv85 hS648.1 ta654 c657
                  refine q_if_eq 224 dX12_notes_172 (by decide) (fun h659 => ?_) (fun h659 => ?_)
                  · skip
                    exact tr_vret hZ dX12_notes_224 rfl (by decide) (by decide) ⟨rfl, rfl, rfl, rfl, rfl, rfl, hS648, trivial⟩
                  · skip
                    refine tr_aload_n dX12_notes_175 rfl ?_
                    obtain ⟨a660, d661, ta660⟩ := rf15_24 hW0 ta0
                    refine tr_getR dX12_notes_176 fl12_37 (kR15 hS648.1 ta0) d661 ?_
                    refine tr_iload_n dX12_notes_179 rfl ?_
                    refine q_zald dX12_notes_180 (kR84 hS648.1 ta660) (ti_in (nR84 hS648.1 ta660) (by exact om_4fc6f57e hx2.2 hx2.1 h13 h15 h550 h552 h554 h556 h563 h565) (by exact om_573dd651 hx2.2 hx2.1 h13 h15 h550 h552 h554 h556 h563 h565)) ?_
                    intro v662 c663
                    have b664 := iv84 hS648.1 ta660 c663
                    refine q_if_ne 224 dX12_notes_181 (by decide) (fun h665 => ?_) (fun h665 => ?_)
                    · skip
                      exact tr_vret hZ dX12_notes_224 rfl (by decide) (by decide) ⟨rfl, rfl, rfl, rfl, rfl, rfl, hS648, trivial⟩
                    · skip
                      refine tr_aload_n dX12_notes_184 rfl ?_
                      obtain ⟨a666, d667, ta666⟩ := rf15_26 hW0 ta0
                      refine tr_getR dX12_notes_185 fl12_43 (kR15 hS648.1 ta0) d667 ?_
                      refine q_sipush dX12_notes_188 (by decide +kernel) ?_
                      intro v668 h669
                      refine tr_iload_n dX12_notes_191 rfl ?_
                      refine q_imulE (c := 240) dX12_notes_192 (by exact om_0c59d38e h669) (by exact om_99db8683 b7.2 b7.1) ?_
                      intro v670 h671
                      refine tr_iload_n dX12_notes_193 rfl ?_
                      refine q_iaddE dX12_notes_194 (by intro j1 j2 j3 j4; exact om_1bc43282 hx2.2 hx2.1 b7.2 b7.1 h13 h15 h550 h552 h554 h556 h563 h565 h671 j1 j2) ?_
                      intro v672 h673
                      refine q_zald dX12_notes_195 (kR86 hS648.1 ta666) (ti_in (nR86 hS648.1 ta666) (by exact om_341d5661 hx2.2 hx2.1 b7.2 b7.1 h13 h15 h550 h552 h554 h556 h563 h565 h671 h673) (by exact om_b6f43ebc hx2.2 hx2.1 b7.2 b7.1 h13 h15 h550 h552 h554 h556 h563 h565 h671 h673)) ?_
                      intro v674 c675
                      have b676 := iv86 hS648.1 ta666 c675
                      refine q_if_ne 224 dX12_notes_196 (by decide) (fun h677 => ?_) (fun h677 => ?_)
                      · skip
                        exact tr_vret hZ dX12_notes_224 rfl (by decide) (by decide) ⟨rfl, rfl, rfl, rfl, rfl, rfl, hS648, trivial⟩
                      · skip
                        refine tr_aload_n dX12_notes_199 rfl ?_
                        refine tr_getR dX12_notes_200 fl12_64 (kR15 hS648.1 ta0) d546 ?_
                        refine q_sipush dX12_notes_203 (by decide +kernel) ?_
                        intro v678 h679
                        refine tr_iload_n dX12_notes_206 rfl ?_
                        refine q_imulE (c := 240) dX12_notes_207 (by exact om_0c59d38e h679) (by exact om_070681a3 hx1.2 hx1.1) ?_
                        intro v680 h681
                        refine tr_iload_n dX12_notes_208 rfl ?_
                        refine q_iaddE dX12_notes_209 (by intro j1 j2 j3 j4; exact om_38fe30b0 hx1.2 hx1.1 hx2.2 hx2.1 h13 h15 h550 h552 h554 h556 h563 h565 h671 h673 h681 j1 j2) ?_
                        intro v682 h683
                        refine q_zald dX12_notes_210 (kR93 hS648.1 ta545) (ti_in (nR93 hS648.1 ta545) (by exact om_68738bd2 hx1.2 hx1.1 hx2.2 hx2.1 h13 h15 h550 h552 h554 h556 h563 h565 h671 h673 h681 h683) (by exact om_a5acdef4 hx1.2 hx1.1 hx2.2 hx2.1 h13 h15 h550 h552 h554 h556 h563 h565 h671 h673 h681 h683)) ?_
                        intro v684 c685
                        have b686 := iv93 hS648.1 ta545 c685
                        refine q_if_eq 224 dX12_notes_211 (by decide) (fun h687 => ?_) (fun h687 => ?_)
                        · skip
                          exact tr_vret hZ dX12_notes_224 rfl (by decide) (by decide) ⟨rfl, rfl, rfl, rfl, rfl, rfl, hS648, trivial⟩
                        · skip
                          refine tr_aload_n dX12_notes_214 rfl ?_
                          obtain ⟨a688, d689, ta688⟩ := rf15_32 hW0 ta0
                          refine tr_getR dX12_notes_215 fl12_61 (kR15 hS648.1 ta0) d689 ?_
                          refine tr_iload_n dX12_notes_218 rfl ?_
                          refine tr_dup2 dX12_notes_219 rfl rfl ?_
                          refine q_iald dX12_notes_220 (kR92 hS648.1 ta688) (ti_in (nR92 hS648.1 ta688) (by exact om_2a7998d2 hx1.2 hx1.1) (by exact om_2801faaf hx1.2 hx1.1)) ?_
                          intro v690 c691
                          refine q_iconst dX12_notes_221 (by decide) ?_
                          intro v692 h693
                          refine q_iadd dX12_notes_222 ?_
                          intro v694
                          refine q_iast dX12_notes_223 (kR92 hS648.1 ta688) (ti_in (nR92 hS648.1 ta688) (by exact om_2a7998d2 hx1.2 hx1.1) (by exact om_2801faaf hx1.2 hx1.1)) hS648 ta688 (iokF rfl) rfl (by rfl) ?_
                          intro I695 hS696 e698 f697
                          exact tr_vret hZ dX12_notes_224 rfl (by decide) (by decide) ⟨rfl, rfl, rfl, rfl, rfl, rfl, hS696, trivial⟩
                · skip
                  exfalso; exact om_3624102b h543 h653
              · skip
                exfalso; exact om_6dd204d0 h543 h580 h651 h652
      · skip
        refine q_iconst dX12_notes_92 (by decide) ?_
        intro v699 h700
        refine tr_goto 97 dX12_notes_93 (by decide) ?_
        refine q_zast dX12_notes_97 (kR93 hS0.1 ta545) (ti_in (nR93 hS0.1 ta545) (by exact om_281f2636 hx1.2 hx1.1 hx2.2 hx2.1 h13 h15 h550 h552 h554 h556 h563 h565) (by exact om_b1d60cf4 hx1.2 hx1.1 hx2.2 hx2.1 h13 h15 h550 h552 h554 h556 h563 h565)) hS0 ta545 (by exact om_d753bc65 h700) rfl rfl (by rfl) ?_
        intro I701 hS702 f703
        refine tr_aload_n dX12_notes_98 rfl ?_
        refine tr_iload_n dX12_notes_99 rfl ?_
        refine tr_iload_n dX12_notes_100 rfl ?_
        refine q_callVi hE (M' := mX12_changesIn) (as := [_, _]) dX12_notes_101 lk12_413 inX12_changesIn seX12_changesIn myX12_changesIn (by decide) ⟨by decide, by decide⟩ rfl (kR15 hS702.1 ta0) (Nat.le_of_ble_eq_true rfl) rfl rfl (by decide) (by decide) (k_X12_changesIn hS702.1 ta0 (by exact om_6c59cd6a b7) (by exact om_87537644 hx2)) ?_
        rintro v709 cn' K' N' I705 R706 L707 ⟨rfl, rfl, rfl, rfl, rfl, rfl, h710, -⟩
        refine tr_istore dX12_notes_104 (by decide) (by decide) ?_
        refine tr_iload dX12_notes_106 rfl ?_
        refine q_if_eq 126 dX12_notes_108 (by decide) (fun h711 => ?_) (fun h711 => ?_)
        · skip
          exfalso; exact om_3624102b h543 h711
        · skip
          refine tr_iload dX12_notes_111 rfl ?_
          refine q_if_eq 126 dX12_notes_113 (by decide) (fun h712 => ?_) (fun h712 => ?_)
          · skip
            refine tr_iload dX12_notes_126 rfl ?_
            refine q_if_eq 146 dX12_notes_128 (by decide) (fun h713 => ?_) (fun h713 => ?_)
            · skip
              exfalso; exact om_3624102b h543 h713
            · skip
              refine tr_iload dX12_notes_131 rfl ?_
              refine q_if_ne 146 dX12_notes_133 (by decide) (fun h714 => ?_) (fun h714 => ?_)
              · skip
                exfalso; exact om_3a97d4a5 h712 h714
              · skip
                refine tr_aload_n dX12_notes_136 rfl ?_
                obtain ⟨a715, d716, ta715⟩ := rf15_31 hW0 ta0
                refine tr_getR dX12_notes_137 fl12_58 (kR15 hS702.1 ta0) d716 ?_
                refine tr_iload_n dX12_notes_140 rfl ?_
                refine tr_dup2 dX12_notes_141 rfl rfl ?_
                refine q_iald dX12_notes_142 (kR91 hS702.1 ta715) (ti_in (nR91 hS702.1 ta715) (by exact om_2a7998d2 hx1.2 hx1.1) (by exact om_2801faaf hx1.2 hx1.1)) ?_
                intro v717 c718
                refine q_iconst dX12_notes_143 (by decide) ?_
                intro v719 h720
                refine q_iadd dX12_notes_144 ?_
                intro v721
                refine q_iast dX12_notes_145 (kR91 hS702.1 ta715) (ti_in (nR91 hS702.1 ta715) (by exact om_2a7998d2 hx1.2 hx1.1) (by exact om_2801faaf hx1.2 hx1.1)) hS702 ta715 (iokF rfl) rfl (by rfl) ?_
                intro I722 hS723 e725 f724
                refine tr_iload dX12_notes_146 rfl ?_
                refine q_if_ne 166 dX12_notes_148 (by decide) (fun h726 => ?_) (fun h726 => ?_)
                · skip
                  refine tr_aload_n dX12_notes_166 rfl ?_
                  obtain ⟨a727, d728, ta727⟩ := rf15_25 hW0 ta0
                  refine tr_getR dX12_notes_167 fl12_40 (kR15 hS723.1 ta0) d728 ?_
                  refine tr_iload_n dX12_notes_170 rfl ?_
                  refine q_zald dX12_notes_171 (kR85 hS723.1 ta727) (ti_in (nR85 hS723.1 ta727) (by exact om_4fc6f57e hx2.2 hx2.1 h13 h15 h550 h552 h554 h556 h563 h565) (by exact om_573dd651 hx2.2 hx2.1 h13 h15 h550 h552 h554 h556 h563 h565)) ?_
                  intro v729 c730
                  have b731 := iv85 hS723.1 ta727 c730
                  refine q_if_eq 224 dX12_notes_172 (by decide) (fun h732 => ?_) (fun h732 => ?_)
                  · skip
                    exact tr_vret hZ dX12_notes_224 rfl (by decide) (by decide) ⟨rfl, rfl, rfl, rfl, rfl, rfl, hS723, trivial⟩
                  · skip
                    refine tr_aload_n dX12_notes_175 rfl ?_
                    obtain ⟨a733, d734, ta733⟩ := rf15_24 hW0 ta0
                    refine tr_getR dX12_notes_176 fl12_37 (kR15 hS723.1 ta0) d734 ?_
                    refine tr_iload_n dX12_notes_179 rfl ?_
                    refine q_zald dX12_notes_180 (kR84 hS723.1 ta733) (ti_in (nR84 hS723.1 ta733) (by exact om_4fc6f57e hx2.2 hx2.1 h13 h15 h550 h552 h554 h556 h563 h565) (by exact om_573dd651 hx2.2 hx2.1 h13 h15 h550 h552 h554 h556 h563 h565)) ?_
                    intro v735 c736
                    have b737 := iv84 hS723.1 ta733 c736
                    refine q_if_ne 224 dX12_notes_181 (by decide) (fun h738 => ?_) (fun h738 => ?_)
                    · skip
                      exact tr_vret hZ dX12_notes_224 rfl (by decide) (by decide) ⟨rfl, rfl, rfl, rfl, rfl, rfl, hS723, trivial⟩
                    · skip
                      refine tr_aload_n dX12_notes_184 rfl ?_
                      obtain ⟨a739, d740, ta739⟩ := rf15_26 hW0 ta0
                      refine tr_getR dX12_notes_185 fl12_43 (kR15 hS723.1 ta0) d740 ?_
                      refine q_sipush dX12_notes_188 (by decide +kernel) ?_
                      intro v741 h742
                      refine tr_iload_n dX12_notes_191 rfl ?_
                      refine q_imulE (c := 240) dX12_notes_192 (by exact om_0c59d38e h742) (by exact om_99db8683 b7.2 b7.1) ?_
                      intro v743 h744
                      refine tr_iload_n dX12_notes_193 rfl ?_
                      refine q_iaddE dX12_notes_194 (by intro j1 j2 j3 j4; exact om_1bc43282 hx2.2 hx2.1 b7.2 b7.1 h13 h15 h550 h552 h554 h556 h563 h565 h744 j1 j2) ?_
                      intro v745 h746
                      refine q_zald dX12_notes_195 (kR86 hS723.1 ta739) (ti_in (nR86 hS723.1 ta739) (by exact om_341d5661 hx2.2 hx2.1 b7.2 b7.1 h13 h15 h550 h552 h554 h556 h563 h565 h744 h746) (by exact om_b6f43ebc hx2.2 hx2.1 b7.2 b7.1 h13 h15 h550 h552 h554 h556 h563 h565 h744 h746)) ?_
                      intro v747 c748
                      have b749 := iv86 hS723.1 ta739 c748
                      refine q_if_ne 224 dX12_notes_196 (by decide) (fun h750 => ?_) (fun h750 => ?_)
                      · skip
                        exact tr_vret hZ dX12_notes_224 rfl (by decide) (by decide) ⟨rfl, rfl, rfl, rfl, rfl, rfl, hS723, trivial⟩
                      · skip
                        refine tr_aload_n dX12_notes_199 rfl ?_
                        refine tr_getR dX12_notes_200 fl12_64 (kR15 hS723.1 ta0) d546 ?_
                        refine q_sipush dX12_notes_203 (by decide +kernel) ?_
                        intro v751 h752
                        refine tr_iload_n dX12_notes_206 rfl ?_
                        refine q_imulE (c := 240) dX12_notes_207 (by exact om_0c59d38e h752) (by exact om_070681a3 hx1.2 hx1.1) ?_
                        intro v753 h754
                        refine tr_iload_n dX12_notes_208 rfl ?_
                        refine q_iaddE dX12_notes_209 (by intro j1 j2 j3 j4; exact om_38fe30b0 hx1.2 hx1.1 hx2.2 hx2.1 h13 h15 h550 h552 h554 h556 h563 h565 h744 h746 h754 j1 j2) ?_
                        intro v755 h756
                        refine q_zald dX12_notes_210 (kR93 hS723.1 ta545) (ti_in (nR93 hS723.1 ta545) (by exact om_68738bd2 hx1.2 hx1.1 hx2.2 hx2.1 h13 h15 h550 h552 h554 h556 h563 h565 h744 h746 h754 h756) (by exact om_a5acdef4 hx1.2 hx1.1 hx2.2 hx2.1 h13 h15 h550 h552 h554 h556 h563 h565 h744 h746 h754 h756)) ?_
                        intro v757 c758
                        have b759 := iv93 hS723.1 ta545 c758
                        refine q_if_eq 224 dX12_notes_211 (by decide) (fun h760 => ?_) (fun h760 => ?_)
                        · skip
                          exact tr_vret hZ dX12_notes_224 rfl (by decide) (by decide) ⟨rfl, rfl, rfl, rfl, rfl, rfl, hS723, trivial⟩
                        · skip
                          refine tr_aload_n dX12_notes_214 rfl ?_
                          obtain ⟨a761, d762, ta761⟩ := rf15_32 hW0 ta0
                          refine tr_getR dX12_notes_215 fl12_61 (kR15 hS723.1 ta0) d762 ?_
                          refine tr_iload_n dX12_notes_218 rfl ?_
                          refine tr_dup2 dX12_notes_219 rfl rfl ?_
                          refine q_iald dX12_notes_220 (kR92 hS723.1 ta761) (ti_in (nR92 hS723.1 ta761) (by exact om_2a7998d2 hx1.2 hx1.1) (by exact om_2801faaf hx1.2 hx1.1)) ?_
                          intro v763 c764
                          refine q_iconst dX12_notes_221 (by decide) ?_
                          intro v765 h766
                          refine q_iadd dX12_notes_222 ?_
                          intro v767
                          refine q_iast dX12_notes_223 (kR92 hS723.1 ta761) (ti_in (nR92 hS723.1 ta761) (by exact om_2a7998d2 hx1.2 hx1.1) (by exact om_2801faaf hx1.2 hx1.1)) hS723 ta761 (iokF rfl) rfl (by rfl) ?_
                          intro I768 hS769 e771 f770
                          exact tr_vret hZ dX12_notes_224 rfl (by decide) (by decide) ⟨rfl, rfl, rfl, rfl, rfl, rfl, hS769, trivial⟩
                · skip
                  exfalso; exact om_3624102b h543 h726
          · skip
            refine tr_aload_n dX12_notes_116 rfl ?_
            obtain ⟨a772, d773, ta772⟩ := rf15_29 hW0 ta0
            refine tr_getR dX12_notes_117 fl12_52 (kR15 hS702.1 ta0) d773 ?_
            refine tr_iload_n dX12_notes_120 rfl ?_
            refine tr_dup2 dX12_notes_121 rfl rfl ?_
            refine q_iald dX12_notes_122 (kR89 hS702.1 ta772) (ti_in (nR89 hS702.1 ta772) (by exact om_2a7998d2 hx1.2 hx1.1) (by exact om_2801faaf hx1.2 hx1.1)) ?_
            intro v774 c775
            refine q_iconst dX12_notes_123 (by decide) ?_
            intro v776 h777
            refine q_iadd dX12_notes_124 ?_
            intro v778
            refine q_iast dX12_notes_125 (kR89 hS702.1 ta772) (ti_in (nR89 hS702.1 ta772) (by exact om_2a7998d2 hx1.2 hx1.1) (by exact om_2801faaf hx1.2 hx1.1)) hS702 ta772 (iokF rfl) rfl (by rfl) ?_
            intro I779 hS780 e782 f781
            refine tr_iload dX12_notes_126 rfl ?_
            refine q_if_eq 146 dX12_notes_128 (by decide) (fun h783 => ?_) (fun h783 => ?_)
            · skip
              exfalso; exact om_3624102b h543 h783
            · skip
              refine tr_iload dX12_notes_131 rfl ?_
              refine q_if_ne 146 dX12_notes_133 (by decide) (fun h784 => ?_) (fun h784 => ?_)
              · skip
                refine tr_iload dX12_notes_146 rfl ?_
                refine q_if_ne 166 dX12_notes_148 (by decide) (fun h785 => ?_) (fun h785 => ?_)
                · skip
                  refine tr_aload_n dX12_notes_166 rfl ?_
                  obtain ⟨a786, d787, ta786⟩ := rf15_25 hW0 ta0
                  refine tr_getR dX12_notes_167 fl12_40 (kR15 hS780.1 ta0) d787 ?_
                  refine tr_iload_n dX12_notes_170 rfl ?_
                  refine q_zald dX12_notes_171 (kR85 hS780.1 ta786) (ti_in (nR85 hS780.1 ta786) (by exact om_4fc6f57e hx2.2 hx2.1 h13 h15 h550 h552 h554 h556 h563 h565) (by exact om_573dd651 hx2.2 hx2.1 h13 h15 h550 h552 h554 h556 h563 h565)) ?_
                  intro v788 c789
                  have b790 := iv85 hS780.1 ta786 c789
                  refine q_if_eq 224 dX12_notes_172 (by decide) (fun h791 => ?_) (fun h791 => ?_)
                  · skip
                    exact tr_vret hZ dX12_notes_224 rfl (by decide) (by decide) ⟨rfl, rfl, rfl, rfl, rfl, rfl, hS780, trivial⟩
                  · skip
                    refine tr_aload_n dX12_notes_175 rfl ?_
                    obtain ⟨a792, d793, ta792⟩ := rf15_24 hW0 ta0
                    refine tr_getR dX12_notes_176 fl12_37 (kR15 hS780.1 ta0) d793 ?_
                    refine tr_iload_n dX12_notes_179 rfl ?_
                    refine q_zald dX12_notes_180 (kR84 hS780.1 ta792) (ti_in (nR84 hS780.1 ta792) (by exact om_4fc6f57e hx2.2 hx2.1 h13 h15 h550 h552 h554 h556 h563 h565) (by exact om_573dd651 hx2.2 hx2.1 h13 h15 h550 h552 h554 h556 h563 h565)) ?_
                    intro v794 c795
                    have b796 := iv84 hS780.1 ta792 c795
                    refine q_if_ne 224 dX12_notes_181 (by decide) (fun h797 => ?_) (fun h797 => ?_)
                    · skip
                      exact tr_vret hZ dX12_notes_224 rfl (by decide) (by decide) ⟨rfl, rfl, rfl, rfl, rfl, rfl, hS780, trivial⟩
                    · skip
                      refine tr_aload_n dX12_notes_184 rfl ?_
                      obtain ⟨a798, d799, ta798⟩ := rf15_26 hW0 ta0
                      refine tr_getR dX12_notes_185 fl12_43 (kR15 hS780.1 ta0) d799 ?_
                      refine q_sipush dX12_notes_188 (by decide +kernel) ?_
                      intro v800 h801
                      refine tr_iload_n dX12_notes_191 rfl ?_
                      refine q_imulE (c := 240) dX12_notes_192 (by exact om_0c59d38e h801) (by exact om_99db8683 b7.2 b7.1) ?_
                      intro v802 h803
                      refine tr_iload_n dX12_notes_193 rfl ?_
                      refine q_iaddE dX12_notes_194 (by intro j1 j2 j3 j4; exact om_1bc43282 hx2.2 hx2.1 b7.2 b7.1 h13 h15 h550 h552 h554 h556 h563 h565 h803 j1 j2) ?_
                      intro v804 h805
                      refine q_zald dX12_notes_195 (kR86 hS780.1 ta798) (ti_in (nR86 hS780.1 ta798) (by exact om_341d5661 hx2.2 hx2.1 b7.2 b7.1 h13 h15 h550 h552 h554 h556 h563 h565 h803 h805) (by exact om_b6f43ebc hx2.2 hx2.1 b7.2 b7.1 h13 h15 h550 h552 h554 h556 h563 h565 h803 h805)) ?_
                      intro v806 c807
                      have b808 := iv86 hS780.1 ta798 c807
                      refine q_if_ne 224 dX12_notes_196 (by decide) (fun h809 => ?_) (fun h809 => ?_)
                      · skip
                        exact tr_vret hZ dX12_notes_224 rfl (by decide) (by decide) ⟨rfl, rfl, rfl, rfl, rfl, rfl, hS780, trivial⟩
                      · skip
                        refine tr_aload_n dX12_notes_199 rfl ?_
                        refine tr_getR dX12_notes_200 fl12_64 (kR15 hS780.1 ta0) d546 ?_
                        refine q_sipush dX12_notes_203 (by decide +kernel) ?_
                        intro v810 h811
                        refine tr_iload_n dX12_notes_206 rfl ?_
                        refine q_imulE (c := 240) dX12_notes_207 (by exact om_0c59d38e h811) (by exact om_070681a3 hx1.2 hx1.1) ?_
                        intro v812 h813
                        refine tr_iload_n dX12_notes_208 rfl ?_
                        refine q_iaddE dX12_notes_209 (by intro j1 j2 j3 j4; exact om_38fe30b0 hx1.2 hx1.1 hx2.2 hx2.1 h13 h15 h550 h552 h554 h556 h563 h565 h803 h805 h813 j1 j2) ?_
                        intro v814 h815
                        refine q_zald dX12_notes_210 (kR93 hS780.1 ta545) (ti_in (nR93 hS780.1 ta545) (by exact om_68738bd2 hx1.2 hx1.1 hx2.2 hx2.1 h13 h15 h550 h552 h554 h556 h563 h565 h803 h805 h813 h815) (by exact om_a5acdef4 hx1.2 hx1.1 hx2.2 hx2.1 h13 h15 h550 h552 h554 h556 h563 h565 h803 h805 h813 h815)) ?_
                        intro v816 c817
                        have b818 := iv93 hS780.1 ta545 c817
                        refine q_if_eq 224 dX12_notes_211 (by decide) (fun h819 => ?_) (fun h819 => ?_)
                        · skip
                          exact tr_vret hZ dX12_notes_224 rfl (by decide) (by decide) ⟨rfl, rfl, rfl, rfl, rfl, rfl, hS780, trivial⟩
                        · skip
                          refine tr_aload_n dX12_notes_214 rfl ?_
                          obtain ⟨a820, d821, ta820⟩ := rf15_32 hW0 ta0
                          refine tr_getR dX12_notes_215 fl12_61 (kR15 hS780.1 ta0) d821 ?_
                          refine tr_iload_n dX12_notes_218 rfl ?_
                          refine tr_dup2 dX12_notes_219 rfl rfl ?_
                          refine q_iald dX12_notes_220 (kR92 hS780.1 ta820) (ti_in (nR92 hS780.1 ta820) (by exact om_2a7998d2 hx1.2 hx1.1) (by exact om_2801faaf hx1.2 hx1.1)) ?_
                          intro v822 c823
                          refine q_iconst dX12_notes_221 (by decide) ?_
                          intro v824 h825
                          refine q_iadd dX12_notes_222 ?_
                          intro v826
                          refine q_iast dX12_notes_223 (kR92 hS780.1 ta820) (ti_in (nR92 hS780.1 ta820) (by exact om_2a7998d2 hx1.2 hx1.1) (by exact om_2801faaf hx1.2 hx1.1)) hS780 ta820 (iokF rfl) rfl (by rfl) ?_
                          intro I827 hS828 e830 f829
                          exact tr_vret hZ dX12_notes_224 rfl (by decide) (by decide) ⟨rfl, rfl, rfl, rfl, rfl, rfl, hS828, trivial⟩
                · skip
                  exfalso; exact om_3624102b h543 h785
              · skip
                exfalso; exact om_6dd204d0 h543 h712 h783 h784
    · skip
      refine tr_aload_n dX12_notes_38 rfl ?_
      refine tr_getR dX12_notes_39 fl12_385 (kR15 hS0.1 ta0) d2 ?_
      obtain ⟨a831, d832, ta831⟩ := rf14_19 hW0 ta1
      refine tr_getR dX12_notes_42 fl12_299 (kR14 hS0.1 ta1) d832 ?_
      refine tr_iload_n dX12_notes_45 rfl ?_
      refine q_zald dX12_notes_46 (kR62 hS0.1 ta831) (ti_in (nR62 hS0.1 ta831) (by exact om_2a7998d2 hx1.2 hx1.1) (by exact om_2801faaf hx1.2 hx1.1)) ?_
      intro v833 c834
      have b835 := iv62 hS0.1 ta831 c834
      refine q_if_ne 54 dX12_notes_47 (by decide) (fun h836 => ?_) (fun h836 => ?_)
      · skip
        refine q_iconst dX12_notes_54 (by decide) ?_
        intro v837 h838
        refine tr_goto 72 dX12_notes_55 (by decide) ?_
        refine tr_istore dX12_notes_72 (by decide) (by decide) ?_
        refine tr_aload_n dX12_notes_74 rfl ?_
        obtain ⟨a839, d840, ta839⟩ := rf15_33 hW0 ta0
        refine tr_getR dX12_notes_75 fl12_64 (kR15 hS0.1 ta0) d840 ?_
        refine q_sipush dX12_notes_78 (by decide +kernel) ?_
        intro v841 h842
        refine tr_iload_n dX12_notes_81 rfl ?_
        refine q_imulE (c := 240) dX12_notes_82 (by exact om_0c59d38e h842) (by exact om_070681a3 hx1.2 hx1.1) ?_
        intro v843 h844
        refine tr_iload_n dX12_notes_83 rfl ?_
        refine q_iaddE dX12_notes_84 (by intro j1 j2 j3 j4; exact om_f37895ac h13 h15 h544 h844 j1 j2) ?_
        intro v845 h846
        refine tr_iload dX12_notes_85 rfl ?_
        refine tr_iload dX12_notes_87 rfl ?_
        refine q_icmp_eq 96 dX12_notes_89 (by decide) (fun h847 => ?_) (fun h847 => ?_)
        · skip
          exfalso; exact om_ce050bb0 h543 h838 h847
        · skip
          refine q_iconst dX12_notes_92 (by decide) ?_
          intro v848 h849
          refine tr_goto 97 dX12_notes_93 (by decide) ?_
          refine q_zast dX12_notes_97 (kR93 hS0.1 ta839) (ti_in (nR93 hS0.1 ta839) (by exact om_a1869a85 hx1.2 hx1.1 h13 h15 h544 h844 h846) (by exact om_f9734ce1 hx1.2 hx1.1 h13 h15 h544 h844 h846)) hS0 ta839 (by exact om_d753bc65 h849) rfl rfl (by rfl) ?_
          intro I850 hS851 f852
          refine tr_aload_n dX12_notes_98 rfl ?_
          refine tr_iload_n dX12_notes_99 rfl ?_
          refine tr_iload_n dX12_notes_100 rfl ?_
          refine q_callVi hE (M' := mX12_changesIn) (as := [_, _]) dX12_notes_101 lk12_413 inX12_changesIn seX12_changesIn myX12_changesIn (by decide) ⟨by decide, by decide⟩ rfl (kR15 hS851.1 ta0) (Nat.le_of_ble_eq_true rfl) rfl rfl (by decide) (by decide) (k_X12_changesIn hS851.1 ta0 (by exact om_6c59cd6a b7) (by exact om_87537644 hx2)) ?_
          rintro v858 cn' K' N' I854 R855 L856 ⟨rfl, rfl, rfl, rfl, rfl, rfl, h859, -⟩
          refine tr_istore dX12_notes_104 (by decide) (by decide) ?_
          refine tr_iload dX12_notes_106 rfl ?_
          refine q_if_eq 126 dX12_notes_108 (by decide) (fun h860 => ?_) (fun h860 => ?_)
          · skip
            exfalso; exact om_3624102b h543 h860
          · skip
            refine tr_iload dX12_notes_111 rfl ?_
            refine q_if_eq 126 dX12_notes_113 (by decide) (fun h861 => ?_) (fun h861 => ?_)
            · skip
              refine tr_iload dX12_notes_126 rfl ?_
              refine q_if_eq 146 dX12_notes_128 (by decide) (fun h862 => ?_) (fun h862 => ?_)
              · skip
                exfalso; exact om_3624102b h543 h862
              · skip
                refine tr_iload dX12_notes_131 rfl ?_
                refine q_if_ne 146 dX12_notes_133 (by decide) (fun h863 => ?_) (fun h863 => ?_)
                · skip
                  exfalso; exact om_3a97d4a5 h861 h863
                · skip
                  refine tr_aload_n dX12_notes_136 rfl ?_
                  obtain ⟨a864, d865, ta864⟩ := rf15_31 hW0 ta0
                  refine tr_getR dX12_notes_137 fl12_58 (kR15 hS851.1 ta0) d865 ?_
                  refine tr_iload_n dX12_notes_140 rfl ?_
                  refine tr_dup2 dX12_notes_141 rfl rfl ?_
                  refine q_iald dX12_notes_142 (kR91 hS851.1 ta864) (ti_in (nR91 hS851.1 ta864) (by exact om_2a7998d2 hx1.2 hx1.1) (by exact om_2801faaf hx1.2 hx1.1)) ?_
                  intro v866 c867
                  refine q_iconst dX12_notes_143 (by decide) ?_
                  intro v868 h869
                  refine q_iadd dX12_notes_144 ?_
                  intro v870
                  refine q_iast dX12_notes_145 (kR91 hS851.1 ta864) (ti_in (nR91 hS851.1 ta864) (by exact om_2a7998d2 hx1.2 hx1.1) (by exact om_2801faaf hx1.2 hx1.1)) hS851 ta864 (iokF rfl) rfl (by rfl) ?_
                  intro I871 hS872 e874 f873
                  refine tr_iload dX12_notes_146 rfl ?_
                  refine q_if_ne 166 dX12_notes_148 (by decide) (fun h875 => ?_) (fun h875 => ?_)
                  · skip
                    refine tr_aload_n dX12_notes_166 rfl ?_
                    obtain ⟨a876, d877, ta876⟩ := rf15_25 hW0 ta0
                    refine tr_getR dX12_notes_167 fl12_40 (kR15 hS872.1 ta0) d877 ?_
                    refine tr_iload_n dX12_notes_170 rfl ?_
                    refine q_zald dX12_notes_171 (kR85 hS872.1 ta876) (ti_in (nR85 hS872.1 ta876) (by exact om_515a812f h13 h15 h544) (by exact om_812de82a h13 h15 h544)) ?_
                    intro v878 c879
                    have b880 := iv85 hS872.1 ta876 c879
                    refine q_if_eq 224 dX12_notes_172 (by decide) (fun h881 => ?_) (fun h881 => ?_)
                    · skip
                      exact tr_vret hZ dX12_notes_224 rfl (by decide) (by decide) ⟨rfl, rfl, rfl, rfl, rfl, rfl, hS872, trivial⟩
                    · skip
                      refine tr_aload_n dX12_notes_175 rfl ?_
                      obtain ⟨a882, d883, ta882⟩ := rf15_24 hW0 ta0
                      refine tr_getR dX12_notes_176 fl12_37 (kR15 hS872.1 ta0) d883 ?_
                      refine tr_iload_n dX12_notes_179 rfl ?_
                      refine q_zald dX12_notes_180 (kR84 hS872.1 ta882) (ti_in (nR84 hS872.1 ta882) (by exact om_515a812f h13 h15 h544) (by exact om_812de82a h13 h15 h544)) ?_
                      intro v884 c885
                      have b886 := iv84 hS872.1 ta882 c885
                      refine q_if_ne 224 dX12_notes_181 (by decide) (fun h887 => ?_) (fun h887 => ?_)
                      · skip
                        exact tr_vret hZ dX12_notes_224 rfl (by decide) (by decide) ⟨rfl, rfl, rfl, rfl, rfl, rfl, hS872, trivial⟩
                      · skip
                        refine tr_aload_n dX12_notes_184 rfl ?_
                        obtain ⟨a888, d889, ta888⟩ := rf15_26 hW0 ta0
                        refine tr_getR dX12_notes_185 fl12_43 (kR15 hS872.1 ta0) d889 ?_
                        refine q_sipush dX12_notes_188 (by decide +kernel) ?_
                        intro v890 h891
                        refine tr_iload_n dX12_notes_191 rfl ?_
                        refine q_imulE (c := 240) dX12_notes_192 (by exact om_0c59d38e h891) (by exact om_99db8683 b7.2 b7.1) ?_
                        intro v892 h893
                        refine tr_iload_n dX12_notes_193 rfl ?_
                        refine q_iaddE dX12_notes_194 (by intro j1 j2 j3 j4; exact om_8e44edf3 h13 h15 h544 h893 j1 j2) ?_
                        intro v894 h895
                        refine q_zald dX12_notes_195 (kR86 hS872.1 ta888) (ti_in (nR86 hS872.1 ta888) (by exact om_e2709e08 b7.2 b7.1 h13 h15 h544 h893 h895) (by exact om_d4ed2cba b7.2 b7.1 h13 h15 h544 h893 h895)) ?_
                        intro v896 c897
                        have b898 := iv86 hS872.1 ta888 c897
                        refine q_if_ne 224 dX12_notes_196 (by decide) (fun h899 => ?_) (fun h899 => ?_)
                        · skip
                          exact tr_vret hZ dX12_notes_224 rfl (by decide) (by decide) ⟨rfl, rfl, rfl, rfl, rfl, rfl, hS872, trivial⟩
                        · skip
                          refine tr_aload_n dX12_notes_199 rfl ?_
                          refine tr_getR dX12_notes_200 fl12_64 (kR15 hS872.1 ta0) d840 ?_
                          refine q_sipush dX12_notes_203 (by decide +kernel) ?_
                          intro v900 h901
                          refine tr_iload_n dX12_notes_206 rfl ?_
                          refine q_imulE (c := 240) dX12_notes_207 (by exact om_0c59d38e h901) (by exact om_070681a3 hx1.2 hx1.1) ?_
                          intro v902 h903
                          refine tr_iload_n dX12_notes_208 rfl ?_
                          refine q_iaddE dX12_notes_209 (by intro j1 j2 j3 j4; exact om_f37895ac h13 h15 h544 h903 j1 j2) ?_
                          intro v904 h905
                          refine q_zald dX12_notes_210 (kR93 hS872.1 ta839) (ti_in (nR93 hS872.1 ta839) (by exact om_a1869a85 hx1.2 hx1.1 h13 h15 h544 h903 h905) (by exact om_f9734ce1 hx1.2 hx1.1 h13 h15 h544 h903 h905)) ?_
                          intro v906 c907
                          have b908 := iv93 hS872.1 ta839 c907
                          refine q_if_eq 224 dX12_notes_211 (by decide) (fun h909 => ?_) (fun h909 => ?_)
                          · skip
                            exact tr_vret hZ dX12_notes_224 rfl (by decide) (by decide) ⟨rfl, rfl, rfl, rfl, rfl, rfl, hS872, trivial⟩
                          · skip
                            refine tr_aload_n dX12_notes_214 rfl ?_
                            obtain ⟨a910, d911, ta910⟩ := rf15_32 hW0 ta0
                            refine tr_getR dX12_notes_215 fl12_61 (kR15 hS872.1 ta0) d911 ?_
                            refine tr_iload_n dX12_notes_218 rfl ?_
                            refine tr_dup2 dX12_notes_219 rfl rfl ?_
                            refine q_iald dX12_notes_220 (kR92 hS872.1 ta910) (ti_in (nR92 hS872.1 ta910) (by exact om_2a7998d2 hx1.2 hx1.1) (by exact om_2801faaf hx1.2 hx1.1)) ?_
                            intro v912 c913
                            refine q_iconst dX12_notes_221 (by decide) ?_
                            intro v914 h915
                            refine q_iadd dX12_notes_222 ?_
                            intro v916
                            refine q_iast dX12_notes_223 (kR92 hS872.1 ta910) (ti_in (nR92 hS872.1 ta910) (by exact om_2a7998d2 hx1.2 hx1.1) (by exact om_2801faaf hx1.2 hx1.1)) hS872 ta910 (iokF rfl) rfl (by rfl) ?_
                            intro I917 hS918 e920 f919
                            exact tr_vret hZ dX12_notes_224 rfl (by decide) (by decide) ⟨rfl, rfl, rfl, rfl, rfl, rfl, hS918, trivial⟩
                  · skip
                    exfalso; exact om_3624102b h543 h875
            · skip
              refine tr_aload_n dX12_notes_116 rfl ?_
              obtain ⟨a921, d922, ta921⟩ := rf15_29 hW0 ta0
              refine tr_getR dX12_notes_117 fl12_52 (kR15 hS851.1 ta0) d922 ?_
              refine tr_iload_n dX12_notes_120 rfl ?_
              refine tr_dup2 dX12_notes_121 rfl rfl ?_
              refine q_iald dX12_notes_122 (kR89 hS851.1 ta921) (ti_in (nR89 hS851.1 ta921) (by exact om_2a7998d2 hx1.2 hx1.1) (by exact om_2801faaf hx1.2 hx1.1)) ?_
              intro v923 c924
              refine q_iconst dX12_notes_123 (by decide) ?_
              intro v925 h926
              refine q_iadd dX12_notes_124 ?_
              intro v927
              refine q_iast dX12_notes_125 (kR89 hS851.1 ta921) (ti_in (nR89 hS851.1 ta921) (by exact om_2a7998d2 hx1.2 hx1.1) (by exact om_2801faaf hx1.2 hx1.1)) hS851 ta921 (iokF rfl) rfl (by rfl) ?_
              intro I928 hS929 e931 f930
              refine tr_iload dX12_notes_126 rfl ?_
              refine q_if_eq 146 dX12_notes_128 (by decide) (fun h932 => ?_) (fun h932 => ?_)
              · skip
                exfalso; exact om_3624102b h543 h932
              · skip
                refine tr_iload dX12_notes_131 rfl ?_
                refine q_if_ne 146 dX12_notes_133 (by decide) (fun h933 => ?_) (fun h933 => ?_)
                · skip
                  refine tr_iload dX12_notes_146 rfl ?_
                  refine q_if_ne 166 dX12_notes_148 (by decide) (fun h934 => ?_) (fun h934 => ?_)
                  · skip
                    refine tr_aload_n dX12_notes_166 rfl ?_
                    obtain ⟨a935, d936, ta935⟩ := rf15_25 hW0 ta0
                    refine tr_getR dX12_notes_167 fl12_40 (kR15 hS929.1 ta0) d936 ?_
                    refine tr_iload_n dX12_notes_170 rfl ?_
                    refine q_zald dX12_notes_171 (kR85 hS929.1 ta935) (ti_in (nR85 hS929.1 ta935) (by exact om_515a812f h13 h15 h544) (by exact om_812de82a h13 h15 h544)) ?_
                    intro v937 c938
                    have b939 := iv85 hS929.1 ta935 c938
                    refine q_if_eq 224 dX12_notes_172 (by decide) (fun h940 => ?_) (fun h940 => ?_)
                    · skip
                      exact tr_vret hZ dX12_notes_224 rfl (by decide) (by decide) ⟨rfl, rfl, rfl, rfl, rfl, rfl, hS929, trivial⟩
                    · skip
                      refine tr_aload_n dX12_notes_175 rfl ?_
                      obtain ⟨a941, d942, ta941⟩ := rf15_24 hW0 ta0
                      refine tr_getR dX12_notes_176 fl12_37 (kR15 hS929.1 ta0) d942 ?_
                      refine tr_iload_n dX12_notes_179 rfl ?_
                      refine q_zald dX12_notes_180 (kR84 hS929.1 ta941) (ti_in (nR84 hS929.1 ta941) (by exact om_515a812f h13 h15 h544) (by exact om_812de82a h13 h15 h544)) ?_
                      intro v943 c944
                      have b945 := iv84 hS929.1 ta941 c944
                      refine q_if_ne 224 dX12_notes_181 (by decide) (fun h946 => ?_) (fun h946 => ?_)
                      · skip
                        exact tr_vret hZ dX12_notes_224 rfl (by decide) (by decide) ⟨rfl, rfl, rfl, rfl, rfl, rfl, hS929, trivial⟩
                      · skip
                        refine tr_aload_n dX12_notes_184 rfl ?_
                        obtain ⟨a947, d948, ta947⟩ := rf15_26 hW0 ta0
                        refine tr_getR dX12_notes_185 fl12_43 (kR15 hS929.1 ta0) d948 ?_
                        refine q_sipush dX12_notes_188 (by decide +kernel) ?_
                        intro v949 h950
                        refine tr_iload_n dX12_notes_191 rfl ?_
                        refine q_imulE (c := 240) dX12_notes_192 (by exact om_0c59d38e h950) (by exact om_99db8683 b7.2 b7.1) ?_
                        intro v951 h952
                        refine tr_iload_n dX12_notes_193 rfl ?_
                        refine q_iaddE dX12_notes_194 (by intro j1 j2 j3 j4; exact om_8e44edf3 h13 h15 h544 h952 j1 j2) ?_
                        intro v953 h954
                        refine q_zald dX12_notes_195 (kR86 hS929.1 ta947) (ti_in (nR86 hS929.1 ta947) (by exact om_e2709e08 b7.2 b7.1 h13 h15 h544 h952 h954) (by exact om_d4ed2cba b7.2 b7.1 h13 h15 h544 h952 h954)) ?_
                        intro v955 c956
                        have b957 := iv86 hS929.1 ta947 c956
                        refine q_if_ne 224 dX12_notes_196 (by decide) (fun h958 => ?_) (fun h958 => ?_)
                        · skip
                          exact tr_vret hZ dX12_notes_224 rfl (by decide) (by decide) ⟨rfl, rfl, rfl, rfl, rfl, rfl, hS929, trivial⟩
                        · skip
                          refine tr_aload_n dX12_notes_199 rfl ?_
                          refine tr_getR dX12_notes_200 fl12_64 (kR15 hS929.1 ta0) d840 ?_
                          refine q_sipush dX12_notes_203 (by decide +kernel) ?_
                          intro v959 h960
                          refine tr_iload_n dX12_notes_206 rfl ?_
                          refine q_imulE (c := 240) dX12_notes_207 (by exact om_0c59d38e h960) (by exact om_070681a3 hx1.2 hx1.1) ?_
                          intro v961 h962
                          refine tr_iload_n dX12_notes_208 rfl ?_
                          refine q_iaddE dX12_notes_209 (by intro j1 j2 j3 j4; exact om_f37895ac h13 h15 h544 h962 j1 j2) ?_
                          intro v963 h964
                          refine q_zald dX12_notes_210 (kR93 hS929.1 ta839) (ti_in (nR93 hS929.1 ta839) (by exact om_a1869a85 hx1.2 hx1.1 h13 h15 h544 h962 h964) (by exact om_f9734ce1 hx1.2 hx1.1 h13 h15 h544 h962 h964)) ?_
                          intro v965 c966
                          have b967 := iv93 hS929.1 ta839 c966
                          refine q_if_eq 224 dX12_notes_211 (by decide) (fun h968 => ?_) (fun h968 => ?_)
                          · skip
                            exact tr_vret hZ dX12_notes_224 rfl (by decide) (by decide) ⟨rfl, rfl, rfl, rfl, rfl, rfl, hS929, trivial⟩
                          · skip
                            refine tr_aload_n dX12_notes_214 rfl ?_
                            obtain ⟨a969, d970, ta969⟩ := rf15_32 hW0 ta0
                            refine tr_getR dX12_notes_215 fl12_61 (kR15 hS929.1 ta0) d970 ?_
                            refine tr_iload_n dX12_notes_218 rfl ?_
                            refine tr_dup2 dX12_notes_219 rfl rfl ?_
                            refine q_iald dX12_notes_220 (kR92 hS929.1 ta969) (ti_in (nR92 hS929.1 ta969) (by exact om_2a7998d2 hx1.2 hx1.1) (by exact om_2801faaf hx1.2 hx1.1)) ?_
                            intro v971 c972
                            refine q_iconst dX12_notes_221 (by decide) ?_
                            intro v973 h974
                            refine q_iadd dX12_notes_222 ?_
                            intro v975
                            refine q_iast dX12_notes_223 (kR92 hS929.1 ta969) (ti_in (nR92 hS929.1 ta969) (by exact om_2a7998d2 hx1.2 hx1.1) (by exact om_2801faaf hx1.2 hx1.1)) hS929 ta969 (iokF rfl) rfl (by rfl) ?_
                            intro I976 hS977 e979 f978
                            exact tr_vret hZ dX12_notes_224 rfl (by decide) (by decide) ⟨rfl, rfl, rfl, rfl, rfl, rfl, hS977, trivial⟩
                  · skip
                    exfalso; exact om_3624102b h543 h934
                · skip
                  exfalso; exact om_6dd204d0 h543 h861 h932 h933
      · skip
        refine q_iconst dX12_notes_50 (by decide) ?_
        intro v980 h981
        refine tr_goto 72 dX12_notes_51 (by decide) ?_
        refine tr_istore dX12_notes_72 (by decide) (by decide) ?_
        refine tr_aload_n dX12_notes_74 rfl ?_
        obtain ⟨a982, d983, ta982⟩ := rf15_33 hW0 ta0
        refine tr_getR dX12_notes_75 fl12_64 (kR15 hS0.1 ta0) d983 ?_
        refine q_sipush dX12_notes_78 (by decide +kernel) ?_
        intro v984 h985
        refine tr_iload_n dX12_notes_81 rfl ?_
        refine q_imulE (c := 240) dX12_notes_82 (by exact om_0c59d38e h985) (by exact om_070681a3 hx1.2 hx1.1) ?_
        intro v986 h987
        refine tr_iload_n dX12_notes_83 rfl ?_
        refine q_iaddE dX12_notes_84 (by intro j1 j2 j3 j4; exact om_f37895ac h13 h15 h544 h987 j1 j2) ?_
        intro v988 h989
        refine tr_iload dX12_notes_85 rfl ?_
        refine tr_iload dX12_notes_87 rfl ?_
        refine q_icmp_eq 96 dX12_notes_89 (by decide) (fun h990 => ?_) (fun h990 => ?_)
        · skip
          refine q_iconst dX12_notes_96 (by decide) ?_
          intro v991 h992
          refine q_zast dX12_notes_97 (kR93 hS0.1 ta982) (ti_in (nR93 hS0.1 ta982) (by exact om_a1869a85 hx1.2 hx1.1 h13 h15 h544 h987 h989) (by exact om_f9734ce1 hx1.2 hx1.1 h13 h15 h544 h987 h989)) hS0 ta982 (by exact om_3b50ecb9 h992) rfl rfl (by rfl) ?_
          intro I993 hS994 f995
          refine tr_aload_n dX12_notes_98 rfl ?_
          refine tr_iload_n dX12_notes_99 rfl ?_
          refine tr_iload_n dX12_notes_100 rfl ?_
          refine q_callVi hE (M' := mX12_changesIn) (as := [_, _]) dX12_notes_101 lk12_413 inX12_changesIn seX12_changesIn myX12_changesIn (by decide) ⟨by decide, by decide⟩ rfl (kR15 hS994.1 ta0) (Nat.le_of_ble_eq_true rfl) rfl rfl (by decide) (by decide) (k_X12_changesIn hS994.1 ta0 (by exact om_6c59cd6a b7) (by exact om_87537644 hx2)) ?_
          rintro v1001 cn' K' N' I997 R998 L999 ⟨rfl, rfl, rfl, rfl, rfl, rfl, h1002, -⟩
          refine tr_istore dX12_notes_104 (by decide) (by decide) ?_
          refine tr_iload dX12_notes_106 rfl ?_
          refine q_if_eq 126 dX12_notes_108 (by decide) (fun h1003 => ?_) (fun h1003 => ?_)
          · skip
            exfalso; exact om_3624102b h543 h1003
          · skip
            refine tr_iload dX12_notes_111 rfl ?_
            refine q_if_eq 126 dX12_notes_113 (by decide) (fun h1004 => ?_) (fun h1004 => ?_)
            · skip
              refine tr_iload dX12_notes_126 rfl ?_
              refine q_if_eq 146 dX12_notes_128 (by decide) (fun h1005 => ?_) (fun h1005 => ?_)
              · skip
                exfalso; exact om_3624102b h543 h1005
              · skip
                refine tr_iload dX12_notes_131 rfl ?_
                refine q_if_ne 146 dX12_notes_133 (by decide) (fun h1006 => ?_) (fun h1006 => ?_)
                · skip
                  exfalso; exact om_3a97d4a5 h1004 h1006
                · skip
                  refine tr_aload_n dX12_notes_136 rfl ?_
                  obtain ⟨a1007, d1008, ta1007⟩ := rf15_31 hW0 ta0
                  refine tr_getR dX12_notes_137 fl12_58 (kR15 hS994.1 ta0) d1008 ?_
                  refine tr_iload_n dX12_notes_140 rfl ?_
                  refine tr_dup2 dX12_notes_141 rfl rfl ?_
                  refine q_iald dX12_notes_142 (kR91 hS994.1 ta1007) (ti_in (nR91 hS994.1 ta1007) (by exact om_2a7998d2 hx1.2 hx1.1) (by exact om_2801faaf hx1.2 hx1.1)) ?_
                  intro v1009 c1010
                  refine q_iconst dX12_notes_143 (by decide) ?_
                  intro v1011 h1012
                  refine q_iadd dX12_notes_144 ?_
                  intro v1013
                  refine q_iast dX12_notes_145 (kR91 hS994.1 ta1007) (ti_in (nR91 hS994.1 ta1007) (by exact om_2a7998d2 hx1.2 hx1.1) (by exact om_2801faaf hx1.2 hx1.1)) hS994 ta1007 (iokF rfl) rfl (by rfl) ?_
                  intro I1014 hS1015 e1017 f1016
                  refine tr_iload dX12_notes_146 rfl ?_
                  refine q_if_ne 166 dX12_notes_148 (by decide) (fun h1018 => ?_) (fun h1018 => ?_)
                  · skip
                    refine tr_aload_n dX12_notes_166 rfl ?_
                    obtain ⟨a1019, d1020, ta1019⟩ := rf15_25 hW0 ta0
                    refine tr_getR dX12_notes_167 fl12_40 (kR15 hS1015.1 ta0) d1020 ?_
                    refine tr_iload_n dX12_notes_170 rfl ?_
                    refine q_zald dX12_notes_171 (kR85 hS1015.1 ta1019) (ti_in (nR85 hS1015.1 ta1019) (by exact om_515a812f h13 h15 h544) (by exact om_812de82a h13 h15 h544)) ?_
                    intro v1021 c1022
                    have b1023 := iv85 hS1015.1 ta1019 c1022
                    refine q_if_eq 224 dX12_notes_172 (by decide) (fun h1024 => ?_) (fun h1024 => ?_)
                    · skip
                      exact tr_vret hZ dX12_notes_224 rfl (by decide) (by decide) ⟨rfl, rfl, rfl, rfl, rfl, rfl, hS1015, trivial⟩
                    · skip
                      refine tr_aload_n dX12_notes_175 rfl ?_
                      obtain ⟨a1025, d1026, ta1025⟩ := rf15_24 hW0 ta0
                      refine tr_getR dX12_notes_176 fl12_37 (kR15 hS1015.1 ta0) d1026 ?_
                      refine tr_iload_n dX12_notes_179 rfl ?_
                      refine q_zald dX12_notes_180 (kR84 hS1015.1 ta1025) (ti_in (nR84 hS1015.1 ta1025) (by exact om_515a812f h13 h15 h544) (by exact om_812de82a h13 h15 h544)) ?_
                      intro v1027 c1028
                      have b1029 := iv84 hS1015.1 ta1025 c1028
                      refine q_if_ne 224 dX12_notes_181 (by decide) (fun h1030 => ?_) (fun h1030 => ?_)
                      · skip
                        exact tr_vret hZ dX12_notes_224 rfl (by decide) (by decide) ⟨rfl, rfl, rfl, rfl, rfl, rfl, hS1015, trivial⟩
                      · skip
                        refine tr_aload_n dX12_notes_184 rfl ?_
                        obtain ⟨a1031, d1032, ta1031⟩ := rf15_26 hW0 ta0
                        refine tr_getR dX12_notes_185 fl12_43 (kR15 hS1015.1 ta0) d1032 ?_
                        refine q_sipush dX12_notes_188 (by decide +kernel) ?_
                        intro v1033 h1034
                        refine tr_iload_n dX12_notes_191 rfl ?_
                        refine q_imulE (c := 240) dX12_notes_192 (by exact om_0c59d38e h1034) (by exact om_99db8683 b7.2 b7.1) ?_
                        intro v1035 h1036
                        refine tr_iload_n dX12_notes_193 rfl ?_
                        refine q_iaddE dX12_notes_194 (by intro j1 j2 j3 j4; exact om_8e44edf3 h13 h15 h544 h1036 j1 j2) ?_
                        intro v1037 h1038
                        refine q_zald dX12_notes_195 (kR86 hS1015.1 ta1031) (ti_in (nR86 hS1015.1 ta1031) (by exact om_e2709e08 b7.2 b7.1 h13 h15 h544 h1036 h1038) (by exact om_d4ed2cba b7.2 b7.1 h13 h15 h544 h1036 h1038)) ?_
                        intro v1039 c1040
                        have b1041 := iv86 hS1015.1 ta1031 c1040
                        refine q_if_ne 224 dX12_notes_196 (by decide) (fun h1042 => ?_) (fun h1042 => ?_)
                        · skip
                          exact tr_vret hZ dX12_notes_224 rfl (by decide) (by decide) ⟨rfl, rfl, rfl, rfl, rfl, rfl, hS1015, trivial⟩
                        · skip
                          refine tr_aload_n dX12_notes_199 rfl ?_
                          refine tr_getR dX12_notes_200 fl12_64 (kR15 hS1015.1 ta0) d983 ?_
                          refine q_sipush dX12_notes_203 (by decide +kernel) ?_
                          intro v1043 h1044
                          refine tr_iload_n dX12_notes_206 rfl ?_
                          refine q_imulE (c := 240) dX12_notes_207 (by exact om_0c59d38e h1044) (by exact om_070681a3 hx1.2 hx1.1) ?_
                          intro v1045 h1046
                          refine tr_iload_n dX12_notes_208 rfl ?_
                          refine q_iaddE dX12_notes_209 (by intro j1 j2 j3 j4; exact om_f37895ac h13 h15 h544 h1046 j1 j2) ?_
                          intro v1047 h1048
                          refine q_zald dX12_notes_210 (kR93 hS1015.1 ta982) (ti_in (nR93 hS1015.1 ta982) (by exact om_a1869a85 hx1.2 hx1.1 h13 h15 h544 h1046 h1048) (by exact om_f9734ce1 hx1.2 hx1.1 h13 h15 h544 h1046 h1048)) ?_
                          intro v1049 c1050
                          have b1051 := iv93 hS1015.1 ta982 c1050
                          refine q_if_eq 224 dX12_notes_211 (by decide) (fun h1052 => ?_) (fun h1052 => ?_)
                          · skip
                            exact tr_vret hZ dX12_notes_224 rfl (by decide) (by decide) ⟨rfl, rfl, rfl, rfl, rfl, rfl, hS1015, trivial⟩
                          · skip
                            refine tr_aload_n dX12_notes_214 rfl ?_
                            obtain ⟨a1053, d1054, ta1053⟩ := rf15_32 hW0 ta0
                            refine tr_getR dX12_notes_215 fl12_61 (kR15 hS1015.1 ta0) d1054 ?_
                            refine tr_iload_n dX12_notes_218 rfl ?_
                            refine tr_dup2 dX12_notes_219 rfl rfl ?_
                            refine q_iald dX12_notes_220 (kR92 hS1015.1 ta1053) (ti_in (nR92 hS1015.1 ta1053) (by exact om_2a7998d2 hx1.2 hx1.1) (by exact om_2801faaf hx1.2 hx1.1)) ?_
                            intro v1055 c1056
                            refine q_iconst dX12_notes_221 (by decide) ?_
                            intro v1057 h1058
                            refine q_iadd dX12_notes_222 ?_
                            intro v1059
                            refine q_iast dX12_notes_223 (kR92 hS1015.1 ta1053) (ti_in (nR92 hS1015.1 ta1053) (by exact om_2a7998d2 hx1.2 hx1.1) (by exact om_2801faaf hx1.2 hx1.1)) hS1015 ta1053 (iokF rfl) rfl (by rfl) ?_
                            intro I1060 hS1061 e1063 f1062
                            exact tr_vret hZ dX12_notes_224 rfl (by decide) (by decide) ⟨rfl, rfl, rfl, rfl, rfl, rfl, hS1061, trivial⟩
                  · skip
                    exfalso; exact om_3624102b h543 h1018
            · skip
              refine tr_aload_n dX12_notes_116 rfl ?_
              obtain ⟨a1064, d1065, ta1064⟩ := rf15_29 hW0 ta0
              refine tr_getR dX12_notes_117 fl12_52 (kR15 hS994.1 ta0) d1065 ?_
              refine tr_iload_n dX12_notes_120 rfl ?_
              refine tr_dup2 dX12_notes_121 rfl rfl ?_
              refine q_iald dX12_notes_122 (kR89 hS994.1 ta1064) (ti_in (nR89 hS994.1 ta1064) (by exact om_2a7998d2 hx1.2 hx1.1) (by exact om_2801faaf hx1.2 hx1.1)) ?_
              intro v1066 c1067
              refine q_iconst dX12_notes_123 (by decide) ?_
              intro v1068 h1069
              refine q_iadd dX12_notes_124 ?_
              intro v1070
              refine q_iast dX12_notes_125 (kR89 hS994.1 ta1064) (ti_in (nR89 hS994.1 ta1064) (by exact om_2a7998d2 hx1.2 hx1.1) (by exact om_2801faaf hx1.2 hx1.1)) hS994 ta1064 (iokF rfl) rfl (by rfl) ?_
              intro I1071 hS1072 e1074 f1073
              refine tr_iload dX12_notes_126 rfl ?_
              refine q_if_eq 146 dX12_notes_128 (by decide) (fun h1075 => ?_) (fun h1075 => ?_)
              · skip
                exfalso; exact om_3624102b h543 h1075
              · skip
                refine tr_iload dX12_notes_131 rfl ?_
                refine q_if_ne 146 dX12_notes_133 (by decide) (fun h1076 => ?_) (fun h1076 => ?_)
                · skip
                  refine tr_iload dX12_notes_146 rfl ?_
                  refine q_if_ne 166 dX12_notes_148 (by decide) (fun h1077 => ?_) (fun h1077 => ?_)
                  · skip
                    refine tr_aload_n dX12_notes_166 rfl ?_
                    obtain ⟨a1078, d1079, ta1078⟩ := rf15_25 hW0 ta0
                    refine tr_getR dX12_notes_167 fl12_40 (kR15 hS1072.1 ta0) d1079 ?_
                    refine tr_iload_n dX12_notes_170 rfl ?_
                    refine q_zald dX12_notes_171 (kR85 hS1072.1 ta1078) (ti_in (nR85 hS1072.1 ta1078) (by exact om_515a812f h13 h15 h544) (by exact om_812de82a h13 h15 h544)) ?_
                    intro v1080 c1081
                    have b1082 := iv85 hS1072.1 ta1078 c1081
                    refine q_if_eq 224 dX12_notes_172 (by decide) (fun h1083 => ?_) (fun h1083 => ?_)
                    · skip
                      exact tr_vret hZ dX12_notes_224 rfl (by decide) (by decide) ⟨rfl, rfl, rfl, rfl, rfl, rfl, hS1072, trivial⟩
                    · skip
                      refine tr_aload_n dX12_notes_175 rfl ?_
                      obtain ⟨a1084, d1085, ta1084⟩ := rf15_24 hW0 ta0
                      refine tr_getR dX12_notes_176 fl12_37 (kR15 hS1072.1 ta0) d1085 ?_
                      refine tr_iload_n dX12_notes_179 rfl ?_
                      refine q_zald dX12_notes_180 (kR84 hS1072.1 ta1084) (ti_in (nR84 hS1072.1 ta1084) (by exact om_515a812f h13 h15 h544) (by exact om_812de82a h13 h15 h544)) ?_
                      intro v1086 c1087
                      have b1088 := iv84 hS1072.1 ta1084 c1087
                      refine q_if_ne 224 dX12_notes_181 (by decide) (fun h1089 => ?_) (fun h1089 => ?_)
                      · skip
                        exact tr_vret hZ dX12_notes_224 rfl (by decide) (by decide) ⟨rfl, rfl, rfl, rfl, rfl, rfl, hS1072, trivial⟩
                      · skip
                        refine tr_aload_n dX12_notes_184 rfl ?_
                        obtain ⟨a1090, d1091, ta1090⟩ := rf15_26 hW0 ta0
                        refine tr_getR dX12_notes_185 fl12_43 (kR15 hS1072.1 ta0) d1091 ?_
                        refine q_sipush dX12_notes_188 (by decide +kernel) ?_
                        intro v1092 h1093
                        refine tr_iload_n dX12_notes_191 rfl ?_
                        refine q_imulE (c := 240) dX12_notes_192 (by exact om_0c59d38e h1093) (by exact om_99db8683 b7.2 b7.1) ?_
                        intro v1094 h1095
                        refine tr_iload_n dX12_notes_193 rfl ?_
                        refine q_iaddE dX12_notes_194 (by intro j1 j2 j3 j4; exact om_8e44edf3 h13 h15 h544 h1095 j1 j2) ?_
                        intro v1096 h1097
                        refine q_zald dX12_notes_195 (kR86 hS1072.1 ta1090) (ti_in (nR86 hS1072.1 ta1090) (by exact om_e2709e08 b7.2 b7.1 h13 h15 h544 h1095 h1097) (by exact om_d4ed2cba b7.2 b7.1 h13 h15 h544 h1095 h1097)) ?_
                        intro v1098 c1099
                        have b1100 := iv86 hS1072.1 ta1090 c1099
                        refine q_if_ne 224 dX12_notes_196 (by decide) (fun h1101 => ?_) (fun h1101 => ?_)
                        · skip
                          exact tr_vret hZ dX12_notes_224 rfl (by decide) (by decide) ⟨rfl, rfl, rfl, rfl, rfl, rfl, hS1072, trivial⟩
                        · skip
                          refine tr_aload_n dX12_notes_199 rfl ?_
                          refine tr_getR dX12_notes_200 fl12_64 (kR15 hS1072.1 ta0) d983 ?_
                          refine q_sipush dX12_notes_203 (by decide +kernel) ?_
                          intro v1102 h1103
                          refine tr_iload_n dX12_notes_206 rfl ?_
                          refine q_imulE (c := 240) dX12_notes_207 (by exact om_0c59d38e h1103) (by exact om_070681a3 hx1.2 hx1.1) ?_
                          intro v1104 h1105
                          refine tr_iload_n dX12_notes_208 rfl ?_
                          refine q_iaddE dX12_notes_209 (by intro j1 j2 j3 j4; exact om_f37895ac h13 h15 h544 h1105 j1 j2) ?_
                          intro v1106 h1107
                          refine q_zald dX12_notes_210 (kR93 hS1072.1 ta982) (ti_in (nR93 hS1072.1 ta982) (by exact om_a1869a85 hx1.2 hx1.1 h13 h15 h544 h1105 h1107) (by exact om_f9734ce1 hx1.2 hx1.1 h13 h15 h544 h1105 h1107)) ?_
                          intro v1108 c1109
                          have b1110 := iv93 hS1072.1 ta982 c1109
                          refine q_if_eq 224 dX12_notes_211 (by decide) (fun h1111 => ?_) (fun h1111 => ?_)
                          · skip
                            exact tr_vret hZ dX12_notes_224 rfl (by decide) (by decide) ⟨rfl, rfl, rfl, rfl, rfl, rfl, hS1072, trivial⟩
                          · skip
                            refine tr_aload_n dX12_notes_214 rfl ?_
                            obtain ⟨a1112, d1113, ta1112⟩ := rf15_32 hW0 ta0
                            refine tr_getR dX12_notes_215 fl12_61 (kR15 hS1072.1 ta0) d1113 ?_
                            refine tr_iload_n dX12_notes_218 rfl ?_
                            refine tr_dup2 dX12_notes_219 rfl rfl ?_
                            refine q_iald dX12_notes_220 (kR92 hS1072.1 ta1112) (ti_in (nR92 hS1072.1 ta1112) (by exact om_2a7998d2 hx1.2 hx1.1) (by exact om_2801faaf hx1.2 hx1.1)) ?_
                            intro v1114 c1115
                            refine q_iconst dX12_notes_221 (by decide) ?_
                            intro v1116 h1117
                            refine q_iadd dX12_notes_222 ?_
                            intro v1118
                            refine q_iast dX12_notes_223 (kR92 hS1072.1 ta1112) (ti_in (nR92 hS1072.1 ta1112) (by exact om_2a7998d2 hx1.2 hx1.1) (by exact om_2801faaf hx1.2 hx1.1)) hS1072 ta1112 (iokF rfl) rfl (by rfl) ?_
                            intro I1119 hS1120 e1122 f1121
                            exact tr_vret hZ dX12_notes_224 rfl (by decide) (by decide) ⟨rfl, rfl, rfl, rfl, rfl, rfl, hS1120, trivial⟩
                  · skip
                    exfalso; exact om_3624102b h543 h1077
                · skip
                  exfalso; exact om_6dd204d0 h543 h1004 h1075 h1076
        · skip
          exfalso; exact om_3b45982e h543 h981 h990
def wi_X12_turns : List Nat := [5631, 5695]
def wr_X12_turns : List Nat := []
set_option maxHeartbeats 4000000 in
theorem k_X12_turns {l : Launch} {T : Nat → Nat} {cn : Nat} {K N : Nat → Nat} {I0 : cz_I} {R0 : cz_R} {L0 : cz_L} {d : Int} (hW0 : Wf T cn K N I0 R0 d) {a0 : Nat} (ta0 : T a0 = 15) {x1 : Int32} (hx1 : 0 ≤ x1.toInt ∧ x1.toInt ≤ 4) {x2 : Int32} (hx2 : 0 ≤ x2.toInt ∧ x2.toInt ≤ 239) (nn3 : ∃ b, R0 a0 3 = some b) : ConE l mX12_turns [.ref a0, .int x1, .int x2] cn K N I0 R0 L0 (ca_v (fun cn' K' N' I' R' L' => cn = cn' ∧ K = K' ∧ N = N' ∧ R0 = R' ∧ L0 = L' ∧ St T cn K N d wi_X12_turns wr_X12_turns I0 R0 I' R0 ∧ True)) := by
  refine ConE.of (by decide +kernel) rfl (Nat.le_of_ble_eq_true rfl) rfl (fun X hX hZ hE => ?_)
  subst hX
  have hS0 : St T cn K N d wi_X12_turns wr_X12_turns I0 R0 I0 R0 := St.rf0 hW0
  obtain ⟨a1, d2⟩ := nn3
  have ta1 : T a1 = 14 := hW0.rsN ta0 rfl d2
  refine tr_aload_n dX12_turns_0 rfl ?_
  refine tr_getR dX12_turns_1 fl12_385 (kR15 hS0.1 ta0) d2 ?_
  obtain ⟨a3, d4, ta3⟩ := rf14_23 hW0 ta1
  refine tr_getR dX12_turns_4 fl12_342 (kR14 hS0.1 ta1) d4 ?_
  refine tr_iload_n dX12_turns_7 rfl ?_
  refine q_iald dX12_turns_8 (kR66 hS0.1 ta3) (ti_in (nR66 hS0.1 ta3) (by exact om_e221d927 hx1.2 hx1.1) (by exact om_55606a9c hx1.2 hx1.1)) ?_
  intro v5 c6
  refine tr_istore_n dX12_turns_9 (by decide) (by decide) ?_
  refine q_iconst dX12_turns_10 (by decide) ?_
  intro v7 h8
  refine tr_istore dX12_turns_11 (by decide) (by decide) ?_
  have lp19 : ∀ (fu : Nat) (ls : Nat → Option Value) (v9 : Int32) (v10 : Int32) (I16 : cz_I), ls 0 = some (.ref a0) → ls 1 = some (.int x1) → ls 2 = some (.int x2) → ls 3 = some (.int v9) → ls 4 = some (.int v10) → St T cn K N d wi_X12_turns wr_X12_turns I0 R0 I16 R0 → 0 ≤ v10.toInt → (-v10.toInt + 2147483647).toNat < fu → Tr X mX12_turns 13 ls [] cn K N I16 R0 L0 0 0 := by
    intro fu
    induction fu with
    | zero => intros; rename_i hz; exact absurd hz (Nat.not_lt_zero _)
    | succ fu ih19 =>
      intro ls v9 v10 I16 hl11 hl12 hl13 hl14 hl15 hS17 g18 hm19
      refine tr_iload dX12_turns_13 hl15 ?_
      refine tr_aload_n dX12_turns_15 hl11 ?_
      refine tr_getR dX12_turns_16 fl12_385 (kR15 hS17.1 ta0) d2 ?_
      obtain ⟨v21, c22⟩ : ∃ v, I0 a1 3 = v := ⟨_, rfl⟩
      have b23 := iv14_3 hW0 ta1 c22
      refine q_getI dX12_turns_19 fl12_224 (kR14 hS17.1 ta1) ((hS17.cell ta1 (by decide +kernel)).trans c22) ?_
      refine q_icmp_ge 113 dX12_turns_22 (by decide) (fun h24 => ?_) (fun h24 => ?_)
      · skip
        refine tr_iload_n dX12_turns_113 hl14 ?_
        refine tr_aload_n dX12_turns_114 hl11 ?_
        refine tr_getR dX12_turns_115 fl12_385 (kR15 hS17.1 ta0) d2 ?_
        refine tr_getR dX12_turns_118 fl12_342 (kR14 hS17.1 ta1) d4 ?_
        refine tr_iload_n dX12_turns_121 hl12 ?_
        refine q_iald dX12_turns_122 (kR66 hS17.1 ta3) (ti_in (nR66 hS17.1 ta3) (by exact om_e221d927 hx1.2 hx1.1) (by exact om_55606a9c hx1.2 hx1.1)) ?_
        intro v25 c26
        refine q_icmp_ge 143 dX12_turns_123 (by decide) (fun h27 => ?_) (fun h27 => ?_)
        · skip
          exact tr_vret hZ dX12_turns_143 rfl (by decide) (by decide) ⟨rfl, rfl, rfl, rfl, rfl, rfl, hS17, trivial⟩
        · skip
          refine tr_aload_n dX12_turns_126 hl11 ?_
          obtain ⟨a28, d29, ta28⟩ := rf15_28 hW0 ta0
          refine tr_getR dX12_turns_127 fl12_49 (kR15 hS17.1 ta0) d29 ?_
          refine tr_iload_n dX12_turns_130 hl12 ?_
          refine tr_iload_n dX12_turns_131 hl13 ?_
          refine tr_aload_n dX12_turns_132 hl11 ?_
          refine tr_getR dX12_turns_133 fl12_385 (kR15 hS17.1 ta0) d2 ?_
          obtain ⟨a30, d31, ta30⟩ := rf14_24 hW0 ta1
          refine tr_getR dX12_turns_136 fl12_344 (kR14 hS17.1 ta1) d31 ?_
          refine tr_iload_n dX12_turns_139 hl12 ?_
          refine q_iald dX12_turns_140 (kR67 hS17.1 ta30) (ti_in (nR67 hS17.1 ta30) (by exact om_e221d927 hx1.2 hx1.1) (by exact om_55606a9c hx1.2 hx1.1)) ?_
          intro v32 c33
          refine q_iadd dX12_turns_141 ?_
          intro v34
          refine q_iast dX12_turns_142 (kR88 hS17.1 ta28) (ti_in (nR88 hS17.1 ta28) (by exact om_e221d927 hx1.2 hx1.1) (by exact om_55606a9c hx1.2 hx1.1)) hS17 ta28 (iokF rfl) rfl (by rfl) ?_
          intro I35 hS36 e38 f37
          exact tr_vret hZ dX12_turns_143 rfl (by decide) (by decide) ⟨rfl, rfl, rfl, rfl, rfl, rfl, hS36, trivial⟩
      · skip
        refine tr_iload_n dX12_turns_25 hl14 ?_
        refine q_if_le 113 dX12_turns_26 (by decide) (fun h39 => ?_) (fun h39 => ?_)
        · skip
          refine tr_iload_n dX12_turns_113 hl14 ?_
          refine tr_aload_n dX12_turns_114 hl11 ?_
          refine tr_getR dX12_turns_115 fl12_385 (kR15 hS17.1 ta0) d2 ?_
          refine tr_getR dX12_turns_118 fl12_342 (kR14 hS17.1 ta1) d4 ?_
          refine tr_iload_n dX12_turns_121 hl12 ?_
          refine q_iald dX12_turns_122 (kR66 hS17.1 ta3) (ti_in (nR66 hS17.1 ta3) (by exact om_e221d927 hx1.2 hx1.1) (by exact om_55606a9c hx1.2 hx1.1)) ?_
          intro v40 c41
          refine q_icmp_ge 143 dX12_turns_123 (by decide) (fun h42 => ?_) (fun h42 => ?_)
          · skip
            exact tr_vret hZ dX12_turns_143 rfl (by decide) (by decide) ⟨rfl, rfl, rfl, rfl, rfl, rfl, hS17, trivial⟩
          · skip
            refine tr_aload_n dX12_turns_126 hl11 ?_
            obtain ⟨a43, d44, ta43⟩ := rf15_28 hW0 ta0
            refine tr_getR dX12_turns_127 fl12_49 (kR15 hS17.1 ta0) d44 ?_
            refine tr_iload_n dX12_turns_130 hl12 ?_
            refine tr_iload_n dX12_turns_131 hl13 ?_
            refine tr_aload_n dX12_turns_132 hl11 ?_
            refine tr_getR dX12_turns_133 fl12_385 (kR15 hS17.1 ta0) d2 ?_
            obtain ⟨a45, d46, ta45⟩ := rf14_24 hW0 ta1
            refine tr_getR dX12_turns_136 fl12_344 (kR14 hS17.1 ta1) d46 ?_
            refine tr_iload_n dX12_turns_139 hl12 ?_
            refine q_iald dX12_turns_140 (kR67 hS17.1 ta45) (ti_in (nR67 hS17.1 ta45) (by exact om_e221d927 hx1.2 hx1.1) (by exact om_55606a9c hx1.2 hx1.1)) ?_
            intro v47 c48
            refine q_iadd dX12_turns_141 ?_
            intro v49
            refine q_iast dX12_turns_142 (kR88 hS17.1 ta43) (ti_in (nR88 hS17.1 ta43) (by exact om_e221d927 hx1.2 hx1.1) (by exact om_55606a9c hx1.2 hx1.1)) hS17 ta43 (iokF rfl) rfl (by rfl) ?_
            intro I50 hS51 e53 f52
            exact tr_vret hZ dX12_turns_143 rfl (by decide) (by decide) ⟨rfl, rfl, rfl, rfl, rfl, rfl, hS51, trivial⟩
        · skip
          refine tr_aload_n dX12_turns_29 hl11 ?_
          refine tr_getR dX12_turns_30 fl12_385 (kR15 hS17.1 ta0) d2 ?_
          obtain ⟨a54, d55, ta54⟩ := rf14_15 hW0 ta1
          refine tr_getR dX12_turns_33 fl12_296 (kR14 hS17.1 ta1) d55 ?_
          refine tr_iload dX12_turns_36 hl15 ?_
          refine q_iald dX12_turns_38 (kR58 hS17.1 ta54) (ti_in (nR58 hS17.1 ta54) (by exact om_2cfcd5a5 g18) (by exact om_5f13cc30 b23.2 b23.1 h24)) ?_
          intro v56 c57
          have b58 := iv58 hS17.1 ta54 c57
          refine tr_istore dX12_turns_39 (by decide) (by decide) ?_
          refine tr_aload_n dX12_turns_41 hl11 ?_
          obtain ⟨a59, d60, ta59⟩ := rf15_27 hW0 ta0
          refine tr_getR dX12_turns_42 fl12_46 (kR15 hS17.1 ta0) d60 ?_
          refine q_sipush dX12_turns_45 (by decide +kernel) ?_
          intro v61 h62
          refine tr_iload dX12_turns_48 hl15 ?_
          refine q_imulE (c := 240) dX12_turns_50 (by exact om_0c59d38e h62) (by exact om_4999391c g18 b23.2 b23.1 h24) ?_
          intro v63 h64
          refine tr_iload_n dX12_turns_51 hl13 ?_
          refine q_iaddE dX12_turns_52 (by intro j1 j2 j3 j4; exact om_25bad469 hx2.2 hx2.1 b23.2 b23.1 h24 h64 j1 j2) ?_
          intro v65 h66
          refine q_iald dX12_turns_53 (kR87 hS17.1 ta59) (ti_in (nR87 hS17.1 ta59) (by exact om_ee78c1c6 hx2.2 hx2.1 g18 h64 h66) (by exact om_35065fc6 hx2.2 hx2.1 b23.2 b23.1 h24 h64 h66)) ?_
          intro v67 c68
          refine q_bipush dX12_turns_54 (by decide +kernel) ?_
          intro v69 h70
          refine q_icmp_ne 107 dX12_turns_56 (by decide) (fun h71 => ?_) (fun h71 => ?_)
          · skip
            refine q_iincE dX12_turns_107 hl15 (by decide) (by decide) (by intro j1 j2; exact om_4034714d g18 b23.2 b23.1 h24 j2) ?_
            intro v72 h73
            refine tr_goto 13 dX12_turns_110 (by decide) ?_
            exact ih19 _ v9 v72 I16 hl11 hl12 hl13 hl14 rfl hS17 (by exact om_68881c41 g18 h73) (by exact om_8ec43a4b g18 hm19 b23.2 b23.1 h24 h71 h73)
          · skip
            refine tr_aload_n dX12_turns_59 hl11 ?_
            refine tr_getR dX12_turns_60 fl12_385 (kR15 hS17.1 ta0) d2 ?_
            obtain ⟨a74, d75, ta74⟩ := rf14_25 hW0 ta1
            refine tr_getR dX12_turns_63 fl12_346 (kR14 hS17.1 ta1) d75 ?_
            refine tr_iload_n dX12_turns_66 hl12 ?_
            refine q_iald dX12_turns_67 (kR68 hS17.1 ta74) (ti_in (nR68 hS17.1 ta74) (by exact om_e221d927 hx1.2 hx1.1) (by exact om_55606a9c hx1.2 hx1.1)) ?_
            intro v76 c77
            refine tr_iload dX12_turns_68 rfl ?_
            refine q_callSi hE (M' := mX12_has) (as := [_, _]) dX12_turns_70 lk12_329 inX12_has myX12_has ⟨by decide, by decide⟩ rfl (Nat.le_of_ble_eq_true rfl) rfl rfl (by decide) (by decide) (k_X12_has hS17.1 ) ?_
            rintro v82 cn' K' N' I78 R79 L80 ⟨rfl, rfl, rfl, rfl, rfl, rfl, h83, -⟩
            refine q_if_eq 107 dX12_turns_73 (by decide) (fun h84 => ?_) (fun h84 => ?_)
            · skip
              refine q_iincE dX12_turns_107 hl15 (by decide) (by decide) (by intro j1 j2; exact om_4034714d g18 b23.2 b23.1 h24 j2) ?_
              intro v85 h86
              refine tr_goto 13 dX12_turns_110 (by decide) ?_
              exact ih19 _ v9 v85 I16 hl11 hl12 hl13 hl14 rfl hS17 (by exact om_68881c41 g18 h86) (by exact om_fc025699 g18 hm19 b23.2 b23.1 h24 h86)
            · skip
              refine tr_aload_n dX12_turns_76 hl11 ?_
              refine tr_iload_n dX12_turns_77 hl12 ?_
              refine tr_iload dX12_turns_78 rfl ?_
              refine tr_iload_n dX12_turns_80 hl13 ?_
              refine q_callVi hE (M' := mX12_noticesIn) (as := [_, _, _]) dX12_turns_81 lk12_431 inX12_noticesIn seX12_noticesIn myX12_noticesIn (by decide) ⟨by decide, by decide⟩ rfl (kR15 hS17.1 ta0) (Nat.le_of_ble_eq_true rfl) rfl rfl (by decide) (by decide) (k_X12_noticesIn hS17.1 ta0 (by exact om_153ddd29 hx1) (by exact om_6c59cd6a b58) (by exact om_87537644 hx2) ⟨_, d2⟩) ?_
              rintro v91 cn' K' N' I87 R88 L89 ⟨rfl, rfl, rfl, rfl, rfl, rfl, h92, -⟩
              refine q_if_ne 90 dX12_turns_84 (by decide) (fun h93 => ?_) (fun h93 => ?_)
              · skip
                refine tr_aload_n dX12_turns_90 hl11 ?_
                refine tr_getR dX12_turns_91 fl12_46 (kR15 hS17.1 ta0) d60 ?_
                refine q_sipush dX12_turns_94 (by decide +kernel) ?_
                intro v94 h95
                refine tr_iload dX12_turns_97 hl15 ?_
                refine q_imulE (c := 240) dX12_turns_99 (by exact om_0c59d38e h95) (by exact om_4999391c g18 b23.2 b23.1 h24) ?_
                intro v96 h97
                refine tr_iload_n dX12_turns_100 hl13 ?_
                refine q_iaddE dX12_turns_101 (by intro j1 j2 j3 j4; exact om_eec4c899 hx2.2 hx2.1 b23.2 b23.1 h24 h64 h66 h97 j1 j2) ?_
                intro v98 h99
                refine tr_iload_n dX12_turns_102 hl12 ?_
                refine q_iast dX12_turns_103 (kR87 hS17.1 ta59) (ti_in (nR87 hS17.1 ta59) (by exact om_8c2538d4 hx2.2 hx2.1 g18 h64 h66 h97 h99) (by exact om_0ca5ad6b hx2.2 hx2.1 b23.2 b23.1 h24 h64 h66 h97 h99)) hS17 ta59 (iokF rfl) rfl (by rfl) ?_
                intro I100 hS101 e103 f102
                refine q_iincE dX12_turns_104 hl14 (by decide) (by decide) (by intro j1 j2; exact om_40af76b4 h39 j2) ?_
                intro v104 h105
                refine q_iincE dX12_turns_107 hl15 (by decide) (by decide) (by intro j1 j2; exact om_4034714d g18 b23.2 b23.1 h24 j2) ?_
                intro v106 h107
                refine tr_goto 13 dX12_turns_110 (by decide) ?_
                exact ih19 _ v104 v106 I100 hl11 hl12 hl13 rfl rfl hS101 (by exact om_68881c41 g18 h107) (by exact om_02673e3e g18 hm19 b23.2 b23.1 h24 h83.2 h83.1 h84 h92.2 h92.1 h93 h107)
              · skip
                refine tr_goto 107 dX12_turns_87 (by decide) ?_
                refine q_iincE dX12_turns_107 hl15 (by decide) (by decide) (by intro j1 j2; exact om_4034714d g18 b23.2 b23.1 h24 j2) ?_
                intro v108 h109
                refine tr_goto 13 dX12_turns_110 (by decide) ?_
                exact ih19 _ v9 v108 I16 hl11 hl12 hl13 hl14 rfl hS17 (by exact om_68881c41 g18 h109) (by exact om_ed32802d g18 hm19 b23.2 b23.1 h24 h83.2 h83.1 h84 h109)
  exact lp19 _ _ v5 v7 I0 rfl rfl rfl rfl rfl hS0 (by exact om_d99fa9e4 h8) (Nat.lt_succ_self _)
