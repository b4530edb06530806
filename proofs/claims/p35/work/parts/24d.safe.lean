def wi_X10_due : List Nat := [73, 81, 768, 769, 778, 2303, 2367, 2431, 2495, 2559, 2623, 2687, 2751, 2815]
def wr_X10_due : List Nat := []
set_option maxHeartbeats 4000000 in
theorem k_X10_due {l : Launch} {T : Nat → Nat} {cn : Nat} {K N : Nat → Nat} {I0 : cz_I} {R0 : cz_R} {L0 : cz_L} {d : Int} (hW0 : Wf T cn K N I0 R0 d) {a0 : Nat} (ta0 : T a0 = 1) {x1 : Int32} : ConE l mX10_due [.ref a0, .int x1] cn K N I0 R0 L0 (ca_i (fun v cn' K' N' I' R' L' => cn = cn' ∧ K = K' ∧ N = N' ∧ R0 = R' ∧ L0 = L' ∧ St T cn K N d wi_X10_due wr_X10_due I0 R0 I' R0 ∧ True)) := by
  refine ConE.of (by decide +kernel) rfl (Nat.le_of_ble_eq_true rfl) rfl (fun X hX hZ hE => ?_)
  subst hX
  have hS0 : St T cn K N d wi_X10_due wr_X10_due I0 R0 I0 R0 := St.rf0 hW0
  refine tr_aload_n dX10_due_0 rfl ?_
  obtain ⟨v1, c2⟩ : ∃ v, I0 a0 5 = v := ⟨_, rfl⟩
  have b3 := iv1_5 hW0 ta0 c2
  refine q_getZ dX10_due_1 fl10_95 (kR1 hS0.1 ta0) c2 ?_
  refine q_if_ne 13 dX10_due_4 (by decide) (fun h4 => ?_) (fun h4 => ?_)
  · skip
    refine tr_aload_n dX10_due_13 rfl ?_
    refine tr_iload_n dX10_due_14 rfl ?_
    refine q_callVi hE (M' := mX10_isMinute) (as := [_]) dX10_due_15 lk10_115 inX10_isMinute seX10_isMinute myX10_isMinute (by decide) ⟨by decide, by decide⟩ rfl (kR1 hS0.1 ta0) (Nat.le_of_ble_eq_true rfl) rfl rfl (by decide) (by decide) (k_X10_isMinute hS0.1 ta0) ?_
    rintro v9 cn' K' N' I5 R6 L7 ⟨rfl, rfl, rfl, rfl, rfl, rfl, h10, p11, -⟩
    refine q_if_ne 27 dX10_due_18 (by decide) (fun h12 => ?_) (fun h12 => ?_)
    · skip
      refine tr_aload_n dX10_due_27 rfl ?_
      refine tr_aload_n dX10_due_28 rfl ?_
      obtain ⟨a13, d14, ta13⟩ := rf1_2 hW0 ta0
      refine tr_getR dX10_due_29 fl10_16 (kR1 hS0.1 ta0) d14 ?_
      refine tr_aload_n dX10_due_32 rfl ?_
      refine q_callVr hE (M' := mX10_presentSky) (as := []) dX10_due_33 lk10_119 inX10_presentSky seX10_presentSky myX10_presentSky (by decide) ⟨by decide, by decide⟩ rfl (kR1 hS0.1 ta0) (Nat.le_of_ble_eq_true rfl) rfl rfl (by decide) (by decide) (k_X10_presentSky hS0.1 ta0) ?_
      rintro a19 cn' K' N' I15 R16 L17 ⟨rfl, rfl, rfl, rfl, rfl, g18, ta19, -⟩
      have hS20 := hS0.tr g18 (by decide +kernel) (by decide +kernel)
      obtain ⟨a21, d22, ta21⟩ := rf12_8 hW0 ta19
      refine tr_getR dX10_due_36 fl10_143 (kR12 hS20.1 ta19) d22 ?_
      refine tr_iload_n dX10_due_39 rfl ?_
      refine q_iald dX10_due_40 (kR41 hS20.1 ta21) (ti_in (nR41 hS20.1 ta21) (by exact om_3510717c h10.2 h10.1 p11 h12) (by exact om_97a3ce2b h10.2 h10.1 p11 h12)) ?_
      intro v23 c24
      refine q_callVi hE (M' := mX0_cheesesIn) (as := [_]) dX10_due_41 lk10_149 inX0_cheesesIn seX0_cheesesIn myX0_cheesesIn (by decide) ⟨by decide, by decide⟩ rfl (kR2 hS20.1 ta13) (Nat.le_of_ble_eq_true rfl) rfl rfl (by decide) (by decide) (k_X0_cheesesIn hS20.1 ta13) ?_
      rintro v29 cn' K' N' I25 R26 L27 ⟨rfl, rfl, rfl, rfl, rfl, rfl, -⟩
      refine q_callVi hE (M' := mX10_answered) (as := [_]) dX10_due_44 lk10_109 inX10_answered seX10_answered myX10_answered (by decide) ⟨by decide, by decide⟩ rfl (kR1 hS20.1 ta0) (Nat.le_of_ble_eq_true rfl) rfl rfl (by decide) (by decide) (k_X10_answered hS20.1 ta0) ?_
      rintro v34 cn' K' N' I30 R31 L32 ⟨rfl, rfl, rfl, rfl, rfl, g33, -⟩
      have hS35 := hS20.tr g33 (by decide +kernel) (by decide +kernel)
      exact tr_iret hZ dX10_due_47 rfl (by decide) (by decide) ⟨v34, rfl, rfl, rfl, rfl, rfl, rfl, hS35, trivial⟩
    · skip
      refine tr_aload_n dX10_due_21 rfl ?_
      refine q_iconst dX10_due_22 (by decide) ?_
      intro v36 h37
      refine q_callVi hE (M' := mX10_refused) (as := [_]) dX10_due_23 lk10_79 inX10_refused seX10_refused myX10_refused (by decide) ⟨by decide, by decide⟩ rfl (kR1 hS0.1 ta0) (Nat.le_of_ble_eq_true rfl) rfl rfl (by decide) (by decide) (k_X10_refused hS0.1 ta0) ?_
      rintro v42 cn' K' N' I38 R39 L40 ⟨rfl, rfl, rfl, rfl, rfl, g41, -⟩
      have hS43 := hS0.tr g41 (by decide +kernel) (by decide +kernel)
      exact tr_iret hZ dX10_due_26 rfl (by decide) (by decide) ⟨v42, rfl, rfl, rfl, rfl, rfl, rfl, hS43, trivial⟩
  · skip
    refine tr_aload_n dX10_due_7 rfl ?_
    refine q_iconst dX10_due_8 (by decide) ?_
    intro v44 h45
    refine q_callVi hE (M' := mX10_refused) (as := [_]) dX10_due_9 lk10_79 inX10_refused seX10_refused myX10_refused (by decide) ⟨by decide, by decide⟩ rfl (kR1 hS0.1 ta0) (Nat.le_of_ble_eq_true rfl) rfl rfl (by decide) (by decide) (k_X10_refused hS0.1 ta0) ?_
    rintro v50 cn' K' N' I46 R47 L48 ⟨rfl, rfl, rfl, rfl, rfl, g49, -⟩
    have hS51 := hS0.tr g49 (by decide +kernel) (by decide +kernel)
    exact tr_iret hZ dX10_due_12 rfl (by decide) (by decide) ⟨v50, rfl, rfl, rfl, rfl, rfl, rfl, hS51, trivial⟩
set_option maxHeartbeats 4000000 in
theorem k_X10_isTurner {l : Launch} {T : Nat → Nat} {cn : Nat} {K N : Nat → Nat} {I0 : cz_I} {R0 : cz_R} {L0 : cz_L} {d : Int} (hW0 : Wf T cn K N I0 R0 d) {a0 : Nat} (ta0 : T a0 = 1) {x1 : Int32} : ConE l mX10_isTurner [.ref a0, .int x1] cn K N I0 R0 L0 (ca_i (fun v cn' K' N' I' R' L' => cn = cn' ∧ K = K' ∧ N = N' ∧ I0 = I' ∧ R0 = R' ∧ L0 = L' ∧ (0 ≤ v.toInt ∧ v.toInt ≤ 1) ∧ ((v.toInt = 1 → (0 ≤ x1.toInt ∧ x1.toInt ≤ 4))) ∧ True)) := by
  refine ConE.of (by decide +kernel) rfl (Nat.le_of_ble_eq_true rfl) rfl (fun X hX hZ hE => ?_)
  subst hX
  refine tr_iload_n dX10_isTurner_0 rfl ?_
  refine q_if_lt 19 dX10_isTurner_1 (by decide) (fun h1 => ?_) (fun h1 => ?_)
  · skip
    refine q_iconst dX10_isTurner_19 (by decide) ?_
    intro v2 h3
    exact tr_zret hZ dX10_isTurner_20 rfl (ti_b01 (by exact om_d99fa9e4 h3) (by exact om_d3de7ec9 h3)) (by decide) (by decide) ⟨v2, rfl, rfl, rfl, rfl, rfl, rfl, rfl, (by exact om_3b50ecb9 h3), (by exact om_59b4d513 h3), trivial⟩
  · skip
    refine tr_iload_n dX10_isTurner_4 rfl ?_
    refine tr_aload_n dX10_isTurner_5 rfl ?_
    obtain ⟨a4, d5, ta4⟩ := rf1_2 hW0 ta0
    refine tr_getR dX10_isTurner_6 fl10_16 (kR1 hW0 ta0) d5 ?_
    obtain ⟨v6, c7⟩ : ∃ v, I0 a4 9 = v := ⟨_, rfl⟩
    have b8 := iv2_9 hW0 ta4 c7
    refine q_getI dX10_isTurner_9 fl10_335 (kR2 hW0 ta4) c7 ?_
    refine q_icmp_ge 19 dX10_isTurner_12 (by decide) (fun h9 => ?_) (fun h9 => ?_)
    · skip
      refine q_iconst dX10_isTurner_19 (by decide) ?_
      intro v10 h11
      exact tr_zret hZ dX10_isTurner_20 rfl (ti_b01 (by exact om_d99fa9e4 h11) (by exact om_d3de7ec9 h11)) (by decide) (by decide) ⟨v10, rfl, rfl, rfl, rfl, rfl, rfl, rfl, (by exact om_3b50ecb9 h11), (by exact om_59b4d513 h11), trivial⟩
    · skip
      refine q_iconst dX10_isTurner_15 (by decide) ?_
      intro v12 h13
      refine tr_goto 20 dX10_isTurner_16 (by decide) ?_
      exact tr_zret hZ dX10_isTurner_20 rfl (ti_b01 (by exact om_f9079521 h13) (by exact om_e6632817 h13)) (by decide) (by decide) ⟨v12, rfl, rfl, rfl, rfl, rfl, rfl, rfl, (by exact om_d753bc65 h13), (by exact om_8057f38e h1 b8.2 b8.1 h9), trivial⟩
set_option maxHeartbeats 4000000 in
theorem k_X10_allTurners {l : Launch} {T : Nat → Nat} {cn : Nat} {K N : Nat → Nat} {I0 : cz_I} {R0 : cz_R} {L0 : cz_L} {d : Int} (hW0 : Wf T cn K N I0 R0 d) {a0 : Nat} (ta0 : T a0 = 1) : ConE l mX10_allTurners [.ref a0] cn K N I0 R0 L0 (ca_i (fun v cn' K' N' I' R' L' => cn = cn' ∧ K = K' ∧ N = N' ∧ I0 = I' ∧ R0 = R' ∧ L0 = L' ∧ (0 ≤ v.toInt ∧ v.toInt ≤ 63) ∧ True)) := by
  refine ConE.of (by decide +kernel) rfl (Nat.le_of_ble_eq_true rfl) rfl (fun X hX hZ hE => ?_)
  subst hX
  refine q_iconst dX10_allTurners_0 (by decide) ?_
  intro v1 h2
  refine tr_aload_n dX10_allTurners_1 rfl ?_
  obtain ⟨a3, d4, ta3⟩ := rf1_2 hW0 ta0
  refine tr_getR dX10_allTurners_2 fl10_16 (kR1 hW0 ta0) d4 ?_
  obtain ⟨v5, c6⟩ : ∃ v, I0 a3 9 = v := ⟨_, rfl⟩
  have b7 := iv2_9 hW0 ta3 c6
  refine q_getI dX10_allTurners_5 fl10_335 (kR2 hW0 ta3) c6 ?_
  refine q_ishlE dX10_allTurners_8 (by exact om_ee8a1e2d h2) (by exact om_5d3f4da2 b7.2 b7.1) ?_
  intro v8 h9
  refine q_iconst dX10_allTurners_9 (by decide) ?_
  intro v10 h11
  refine q_isubE dX10_allTurners_10 (by intro j1 j2 j3 j4; exact om_87919627 h9.2 h9.1 h11) ?_
  intro v12 h13
  exact tr_iret hZ dX10_allTurners_11 rfl (by decide) (by decide) ⟨v12, rfl, rfl, rfl, rfl, rfl, rfl, rfl, (by exact om_44eae9b2 h9.2 h9.1 h11 h13), trivial⟩
def wi_J7_fill_53178 : List Nat := [2879]
def wr_J7_fill_53178 : List Nat := []
set_option maxHeartbeats 4000000 in
theorem k_J7_fill_53178 {l : Launch} {T : Nat → Nat} {cn : Nat} {K N : Nat → Nat} {I0 : cz_I} {R0 : cz_R} {L0 : cz_L} {d : Int} (hW0 : Wf T cn K N I0 R0 d) {a0 : Nat} (ta0 : T a0 = 44) {x1 : Int32} : ConE l mJ7_fill_53178 [.ref a0, .int x1] cn K N I0 R0 L0 (ca_v (fun cn' K' N' I' R' L' => cn = cn' ∧ K = K' ∧ N = N' ∧ R0 = R' ∧ L0 = L' ∧ St T cn K N d wi_J7_fill_53178 wr_J7_fill_53178 I0 R0 I' R0 ∧ True)) := by
  refine ConE.of (by decide +kernel) rfl (Nat.le_of_ble_eq_true rfl) rfl (fun X hX hZ hE => ?_)
  subst hX
  have hS0 : St T cn K N d wi_J7_fill_53178 wr_J7_fill_53178 I0 R0 I0 R0 := St.rf0 hW0
  refine q_iconst dJ7_fill_53178_0 (by decide) ?_
  intro v1 h2
  refine tr_istore_n dJ7_fill_53178_1 (by decide) (by decide) ?_
  refine tr_aload_n dJ7_fill_53178_2 rfl ?_
  refine q_alen dJ7_fill_53178_3 (kR44 hS0.1 ta0) (by decide) (by decide) (nR44 hS0.1 ta0) (by decide +kernel) ?_
  intro v3 h4
  refine tr_istore_n dJ7_fill_53178_4 (by decide) (by decide) ?_
  have lp13 : ∀ (fu : Nat) (ls : Nat → Option Value) (v5 : Int32) (I10 : cz_I), ls 0 = some (.ref a0) → ls 1 = some (.int x1) → ls 2 = some (.int v5) → ls 3 = some (.int v3) → St T cn K N d wi_J7_fill_53178 wr_J7_fill_53178 I0 R0 I10 R0 → 0 ≤ v5.toInt → (-v5.toInt + 2147483647).toNat < fu → Tr X mJ7_fill_53178 5 ls [] cn K N I10 R0 L0 0 0 := by
    intro fu
    induction fu with
    | zero => intros; rename_i hz; exact absurd hz (Nat.not_lt_zero _)
    | succ fu ih13 =>
      intro ls v5 I10 hl6 hl7 hl8 hl9 hS11 g12 hm13
      refine tr_iload_n dJ7_fill_53178_5 hl8 ?_
      refine tr_iload_n dJ7_fill_53178_6 hl9 ?_
      refine q_icmp_ge 20 dJ7_fill_53178_7 (by decide) (fun h15 => ?_) (fun h15 => ?_)
      · skip
        exact tr_vret hZ dJ7_fill_53178_20 rfl (by decide) (by decide) ⟨rfl, rfl, rfl, rfl, rfl, rfl, hS11, trivial⟩
      · skip
        refine tr_aload_n dJ7_fill_53178_10 hl6 ?_
        refine tr_iload_n dJ7_fill_53178_11 hl8 ?_
        refine tr_iload_n dJ7_fill_53178_12 hl7 ?_
        refine q_iast dJ7_fill_53178_13 (kR44 hS11.1 ta0) (ti_in (nR44 hS11.1 ta0) (by exact om_2cfcd5a5 g12) (by exact om_959c665f h4 g12 h15)) hS11 ta0 (iokF rfl) rfl (by rfl) ?_
        intro I16 hS17 e19 f18
        refine q_iincE dJ7_fill_53178_14 hl8 (by decide) (by decide) (by intro j1 j2; exact om_85eaa018 h4 g12 h15) ?_
        intro v20 h21
        refine tr_goto 5 dJ7_fill_53178_17 (by decide) ?_
        exact ih13 _ v20 I16 hl6 hl7 rfl hl9 hS17 (by exact om_8b94ba5b h4 g12 h15 h21) (by exact om_1bb252b8 h4 g12 hm13 h15 h21)
  exact lp13 _ _ v1 I0 rfl rfl rfl rfl hS0 (by exact om_d99fa9e4 h2) (Nat.lt_succ_self _)
def wi_J7_fill_53178_1 : List Nat := [2943]
def wr_J7_fill_53178_1 : List Nat := []
set_option maxHeartbeats 4000000 in
theorem k_J7_fill_53178_1 {l : Launch} {T : Nat → Nat} {cn : Nat} {K N : Nat → Nat} {I0 : cz_I} {R0 : cz_R} {L0 : cz_L} {d : Int} (hW0 : Wf T cn K N I0 R0 d) {a0 : Nat} (ta0 : T a0 = 45) {x1 : Int32} : ConE l mJ7_fill_53178 [.ref a0, .int x1] cn K N I0 R0 L0 (ca_v (fun cn' K' N' I' R' L' => cn = cn' ∧ K = K' ∧ N = N' ∧ R0 = R' ∧ L0 = L' ∧ St T cn K N d wi_J7_fill_53178_1 wr_J7_fill_53178_1 I0 R0 I' R0 ∧ True)) := by
  refine ConE.of (by decide +kernel) rfl (Nat.le_of_ble_eq_true rfl) rfl (fun X hX hZ hE => ?_)
  subst hX
  have hS0 : St T cn K N d wi_J7_fill_53178_1 wr_J7_fill_53178_1 I0 R0 I0 R0 := St.rf0 hW0
  refine q_iconst dJ7_fill_53178_0 (by decide) ?_
  intro v1 h2
  refine tr_istore_n dJ7_fill_53178_1 (by decide) (by decide) ?_
  refine tr_aload_n dJ7_fill_53178_2 rfl ?_
  refine q_alen dJ7_fill_53178_3 (kR45 hS0.1 ta0) (by decide) (by decide) (nR45 hS0.1 ta0) (by decide +kernel) ?_
  intro v3 h4
  refine tr_istore_n dJ7_fill_53178_4 (by decide) (by decide) ?_
  have lp13 : ∀ (fu : Nat) (ls : Nat → Option Value) (v5 : Int32) (I10 : cz_I), ls 0 = some (.ref a0) → ls 1 = some (.int x1) → ls 2 = some (.int v5) → ls 3 = some (.int v3) → St T cn K N d wi_J7_fill_53178_1 wr_J7_fill_53178_1 I0 R0 I10 R0 → 0 ≤ v5.toInt → (-v5.toInt + 2147483647).toNat < fu → Tr X mJ7_fill_53178 5 ls [] cn K N I10 R0 L0 0 0 := by
    intro fu
    induction fu with
    | zero => intros; rename_i hz; exact absurd hz (Nat.not_lt_zero _)
    | succ fu ih13 =>
      intro ls v5 I10 hl6 hl7 hl8 hl9 hS11 g12 hm13
      refine tr_iload_n dJ7_fill_53178_5 hl8 ?_
      refine tr_iload_n dJ7_fill_53178_6 hl9 ?_
      refine q_icmp_ge 20 dJ7_fill_53178_7 (by decide) (fun h15 => ?_) (fun h15 => ?_)
      · skip
        exact tr_vret hZ dJ7_fill_53178_20 rfl (by decide) (by decide) ⟨rfl, rfl, rfl, rfl, rfl, rfl, hS11, trivial⟩
      · skip
        refine tr_aload_n dJ7_fill_53178_10 hl6 ?_
        refine tr_iload_n dJ7_fill_53178_11 hl8 ?_
        refine tr_iload_n dJ7_fill_53178_12 hl7 ?_
        refine q_iast dJ7_fill_53178_13 (kR45 hS11.1 ta0) (ti_in (nR45 hS11.1 ta0) (by exact om_2cfcd5a5 g12) (by exact om_522b2251 h4 g12 h15)) hS11 ta0 (iokF rfl) rfl (by rfl) ?_
        intro I16 hS17 e19 f18
        refine q_iincE dJ7_fill_53178_14 hl8 (by decide) (by decide) (by intro j1 j2; exact om_d8fba6a0 h4 g12 h15) ?_
        intro v20 h21
        refine tr_goto 5 dJ7_fill_53178_17 (by decide) ?_
        exact ih13 _ v20 I16 hl6 hl7 rfl hl9 hS17 (by exact om_f6e3cfa6 h4 g12 h15 h21) (by exact om_26a114ba h4 g12 hm13 h15 h21)
  exact lp13 _ _ v1 I0 rfl rfl rfl rfl hS0 (by exact om_d99fa9e4 h2) (Nat.lt_succ_self _)
def wi_J7_fill_53178_2 : List Nat := [3007]
def wr_J7_fill_53178_2 : List Nat := []
set_option maxHeartbeats 4000000 in
theorem k_J7_fill_53178_2 {l : Launch} {T : Nat → Nat} {cn : Nat} {K N : Nat → Nat} {I0 : cz_I} {R0 : cz_R} {L0 : cz_L} {d : Int} (hW0 : Wf T cn K N I0 R0 d) {a0 : Nat} (ta0 : T a0 = 46) {x1 : Int32} : ConE l mJ7_fill_53178 [.ref a0, .int x1] cn K N I0 R0 L0 (ca_v (fun cn' K' N' I' R' L' => cn = cn' ∧ K = K' ∧ N = N' ∧ R0 = R' ∧ L0 = L' ∧ St T cn K N d wi_J7_fill_53178_2 wr_J7_fill_53178_2 I0 R0 I' R0 ∧ True)) := by
  refine ConE.of (by decide +kernel) rfl (Nat.le_of_ble_eq_true rfl) rfl (fun X hX hZ hE => ?_)
  subst hX
  have hS0 : St T cn K N d wi_J7_fill_53178_2 wr_J7_fill_53178_2 I0 R0 I0 R0 := St.rf0 hW0
  refine q_iconst dJ7_fill_53178_0 (by decide) ?_
  intro v1 h2
  refine tr_istore_n dJ7_fill_53178_1 (by decide) (by decide) ?_
  refine tr_aload_n dJ7_fill_53178_2 rfl ?_
  refine q_alen dJ7_fill_53178_3 (kR46 hS0.1 ta0) (by decide) (by decide) (nR46 hS0.1 ta0) (by decide +kernel) ?_
  intro v3 h4
  refine tr_istore_n dJ7_fill_53178_4 (by decide) (by decide) ?_
  have lp13 : ∀ (fu : Nat) (ls : Nat → Option Value) (v5 : Int32) (I10 : cz_I), ls 0 = some (.ref a0) → ls 1 = some (.int x1) → ls 2 = some (.int v5) → ls 3 = some (.int v3) → St T cn K N d wi_J7_fill_53178_2 wr_J7_fill_53178_2 I0 R0 I10 R0 → 0 ≤ v5.toInt → (-v5.toInt + 2147483647).toNat < fu → Tr X mJ7_fill_53178 5 ls [] cn K N I10 R0 L0 0 0 := by
    intro fu
    induction fu with
    | zero => intros; rename_i hz; exact absurd hz (Nat.not_lt_zero _)
    | succ fu ih13 =>
      intro ls v5 I10 hl6 hl7 hl8 hl9 hS11 g12 hm13
      refine tr_iload_n dJ7_fill_53178_5 hl8 ?_
      refine tr_iload_n dJ7_fill_53178_6 hl9 ?_
      refine q_icmp_ge 20 dJ7_fill_53178_7 (by decide) (fun h15 => ?_) (fun h15 => ?_)
      · skip
        exact tr_vret hZ dJ7_fill_53178_20 rfl (by decide) (by decide) ⟨rfl, rfl, rfl, rfl, rfl, rfl, hS11, trivial⟩
      · skip
        refine tr_aload_n dJ7_fill_53178_10 hl6 ?_
        refine tr_iload_n dJ7_fill_53178_11 hl8 ?_
        refine tr_iload_n dJ7_fill_53178_12 hl7 ?_
        refine q_iast dJ7_fill_53178_13 (kR46 hS11.1 ta0) (ti_in (nR46 hS11.1 ta0) (by exact om_2cfcd5a5 g12) (by exact om_522b2251 h4 g12 h15)) hS11 ta0 (iokF rfl) rfl (by rfl) ?_
        intro I16 hS17 e19 f18
        refine q_iincE dJ7_fill_53178_14 hl8 (by decide) (by decide) (by intro j1 j2; exact om_d8fba6a0 h4 g12 h15) ?_
        intro v20 h21
        refine tr_goto 5 dJ7_fill_53178_17 (by decide) ?_
        exact ih13 _ v20 I16 hl6 hl7 rfl hl9 hS17 (by exact om_f6e3cfa6 h4 g12 h15 h21) (by exact om_26a114ba h4 g12 hm13 h15 h21)
  exact lp13 _ _ v1 I0 rfl rfl rfl rfl hS0 (by exact om_d99fa9e4 h2) (Nat.lt_succ_self _)
def wi_J7_fill_53178_3 : List Nat := [3071]
def wr_J7_fill_53178_3 : List Nat := []
set_option maxHeartbeats 4000000 in
theorem k_J7_fill_53178_3 {l : Launch} {T : Nat → Nat} {cn : Nat} {K N : Nat → Nat} {I0 : cz_I} {R0 : cz_R} {L0 : cz_L} {d : Int} (hW0 : Wf T cn K N I0 R0 d) {a0 : Nat} (ta0 : T a0 = 47) {x1 : Int32} : ConE l mJ7_fill_53178 [.ref a0, .int x1] cn K N I0 R0 L0 (ca_v (fun cn' K' N' I' R' L' => cn = cn' ∧ K = K' ∧ N = N' ∧ R0 = R' ∧ L0 = L' ∧ St T cn K N d wi_J7_fill_53178_3 wr_J7_fill_53178_3 I0 R0 I' R0 ∧ True)) := by
  refine ConE.of (by decide +kernel) rfl (Nat.le_of_ble_eq_true rfl) rfl (fun X hX hZ hE => ?_)
  subst hX
  have hS0 : St T cn K N d wi_J7_fill_53178_3 wr_J7_fill_53178_3 I0 R0 I0 R0 := St.rf0 hW0
  refine q_iconst dJ7_fill_53178_0 (by decide) ?_
  intro v1 h2
  refine tr_istore_n dJ7_fill_53178_1 (by decide) (by decide) ?_
  refine tr_aload_n dJ7_fill_53178_2 rfl ?_
  refine q_alen dJ7_fill_53178_3 (kR47 hS0.1 ta0) (by decide) (by decide) (nR47 hS0.1 ta0) (by decide +kernel) ?_
  intro v3 h4
  refine tr_istore_n dJ7_fill_53178_4 (by decide) (by decide) ?_
  have lp13 : ∀ (fu : Nat) (ls : Nat → Option Value) (v5 : Int32) (I10 : cz_I), ls 0 = some (.ref a0) → ls 1 = some (.int x1) → ls 2 = some (.int v5) → ls 3 = some (.int v3) → St T cn K N d wi_J7_fill_53178_3 wr_J7_fill_53178_3 I0 R0 I10 R0 → 0 ≤ v5.toInt → (-v5.toInt + 2147483647).toNat < fu → Tr X mJ7_fill_53178 5 ls [] cn K N I10 R0 L0 0 0 := by
    intro fu
    induction fu with
    | zero => intros; rename_i hz; exact absurd hz (Nat.not_lt_zero _)
    | succ fu ih13 =>
      intro ls v5 I10 hl6 hl7 hl8 hl9 hS11 g12 hm13
      refine tr_iload_n dJ7_fill_53178_5 hl8 ?_
      refine tr_iload_n dJ7_fill_53178_6 hl9 ?_
      refine q_icmp_ge 20 dJ7_fill_53178_7 (by decide) (fun h15 => ?_) (fun h15 => ?_)
      · skip
        exact tr_vret hZ dJ7_fill_53178_20 rfl (by decide) (by decide) ⟨rfl, rfl, rfl, rfl, rfl, rfl, hS11, trivial⟩
      · skip
        refine tr_aload_n dJ7_fill_53178_10 hl6 ?_
        refine tr_iload_n dJ7_fill_53178_11 hl8 ?_
        refine tr_iload_n dJ7_fill_53178_12 hl7 ?_
        refine q_iast dJ7_fill_53178_13 (kR47 hS11.1 ta0) (ti_in (nR47 hS11.1 ta0) (by exact om_2cfcd5a5 g12) (by exact om_522b2251 h4 g12 h15)) hS11 ta0 (iokF rfl) rfl (by rfl) ?_
        intro I16 hS17 e19 f18
        refine q_iincE dJ7_fill_53178_14 hl8 (by decide) (by decide) (by intro j1 j2; exact om_d8fba6a0 h4 g12 h15) ?_
        intro v20 h21
        refine tr_goto 5 dJ7_fill_53178_17 (by decide) ?_
        exact ih13 _ v20 I16 hl6 hl7 rfl hl9 hS17 (by exact om_f6e3cfa6 h4 g12 h15 h21) (by exact om_26a114ba h4 g12 hm13 h15 h21)
  exact lp13 _ _ v1 I0 rfl rfl rfl rfl hS0 (by exact om_d99fa9e4 h2) (Nat.lt_succ_self _)
def wi_J7_fill_53178_4 : List Nat := [3135]
def wr_J7_fill_53178_4 : List Nat := []
set_option maxHeartbeats 4000000 in
theorem k_J7_fill_53178_4 {l : Launch} {T : Nat → Nat} {cn : Nat} {K N : Nat → Nat} {I0 : cz_I} {R0 : cz_R} {L0 : cz_L} {d : Int} (hW0 : Wf T cn K N I0 R0 d) {a0 : Nat} (ta0 : T a0 = 48) {x1 : Int32} : ConE l mJ7_fill_53178 [.ref a0, .int x1] cn K N I0 R0 L0 (ca_v (fun cn' K' N' I' R' L' => cn = cn' ∧ K = K' ∧ N = N' ∧ R0 = R' ∧ L0 = L' ∧ St T cn K N d wi_J7_fill_53178_4 wr_J7_fill_53178_4 I0 R0 I' R0 ∧ True)) := by
  refine ConE.of (by decide +kernel) rfl (Nat.le_of_ble_eq_true rfl) rfl (fun X hX hZ hE => ?_)
  subst hX
  have hS0 : St T cn K N d wi_J7_fill_53178_4 wr_J7_fill_53178_4 I0 R0 I0 R0 := St.rf0 hW0
  refine q_iconst dJ7_fill_53178_0 (by decide) ?_
  intro v1 h2
  refine tr_istore_n dJ7_fill_53178_1 (by decide) (by decide) ?_
  refine tr_aload_n dJ7_fill_53178_2 rfl ?_
  refine q_alen dJ7_fill_53178_3 (kR48 hS0.1 ta0) (by decide) (by decide) (nR48 hS0.1 ta0) (by decide +kernel) ?_
  intro v3 h4
  refine tr_istore_n dJ7_fill_53178_4 (by decide) (by decide) ?_
  have lp13 : ∀ (fu : Nat) (ls : Nat → Option Value) (v5 : Int32) (I10 : cz_I), ls 0 = some (.ref a0) → ls 1 = some (.int x1) → ls 2 = some (.int v5) → ls 3 = some (.int v3) → St T cn K N d wi_J7_fill_53178_4 wr_J7_fill_53178_4 I0 R0 I10 R0 → 0 ≤ v5.toInt → (-v5.toInt + 2147483647).toNat < fu → Tr X mJ7_fill_53178 5 ls [] cn K N I10 R0 L0 0 0 := by
    intro fu
    induction fu with
    | zero => intros; rename_i hz; exact absurd hz (Nat.not_lt_zero _)
    | succ fu ih13 =>
      intro ls v5 I10 hl6 hl7 hl8 hl9 hS11 g12 hm13
      refine tr_iload_n dJ7_fill_53178_5 hl8 ?_
      refine tr_iload_n dJ7_fill_53178_6 hl9 ?_
      refine q_icmp_ge 20 dJ7_fill_53178_7 (by decide) (fun h15 => ?_) (fun h15 => ?_)
      · skip
        exact tr_vret hZ dJ7_fill_53178_20 rfl (by decide) (by decide) ⟨rfl, rfl, rfl, rfl, rfl, rfl, hS11, trivial⟩
      · skip
        refine tr_aload_n dJ7_fill_53178_10 hl6 ?_
        refine tr_iload_n dJ7_fill_53178_11 hl8 ?_
        refine tr_iload_n dJ7_fill_53178_12 hl7 ?_
        refine q_iast dJ7_fill_53178_13 (kR48 hS11.1 ta0) (ti_in (nR48 hS11.1 ta0) (by exact om_2cfcd5a5 g12) (by exact om_522b2251 h4 g12 h15)) hS11 ta0 (iokF rfl) rfl (by rfl) ?_
        intro I16 hS17 e19 f18
        refine q_iincE dJ7_fill_53178_14 hl8 (by decide) (by decide) (by intro j1 j2; exact om_d8fba6a0 h4 g12 h15) ?_
        intro v20 h21
        refine tr_goto 5 dJ7_fill_53178_17 (by decide) ?_
        exact ih13 _ v20 I16 hl6 hl7 rfl hl9 hS17 (by exact om_f6e3cfa6 h4 g12 h15 h21) (by exact om_26a114ba h4 g12 hm13 h15 h21)
  exact lp13 _ _ v1 I0 rfl rfl rfl rfl hS0 (by exact om_d99fa9e4 h2) (Nat.lt_succ_self _)
def wi_J7_fill_53178_5 : List Nat := [3199]
def wr_J7_fill_53178_5 : List Nat := []
set_option maxHeartbeats 4000000 in
theorem k_J7_fill_53178_5 {l : Launch} {T : Nat → Nat} {cn : Nat} {K N : Nat → Nat} {I0 : cz_I} {R0 : cz_R} {L0 : cz_L} {d : Int} (hW0 : Wf T cn K N I0 R0 d) {a0 : Nat} (ta0 : T a0 = 49) {x1 : Int32} : ConE l mJ7_fill_53178 [.ref a0, .int x1] cn K N I0 R0 L0 (ca_v (fun cn' K' N' I' R' L' => cn = cn' ∧ K = K' ∧ N = N' ∧ R0 = R' ∧ L0 = L' ∧ St T cn K N d wi_J7_fill_53178_5 wr_J7_fill_53178_5 I0 R0 I' R0 ∧ True)) := by
  refine ConE.of (by decide +kernel) rfl (Nat.le_of_ble_eq_true rfl) rfl (fun X hX hZ hE => ?_)
  subst hX
  have hS0 : St T cn K N d wi_J7_fill_53178_5 wr_J7_fill_53178_5 I0 R0 I0 R0 := St.rf0 hW0
  refine q_iconst dJ7_fill_53178_0 (by decide) ?_
  intro v1 h2
  refine tr_istore_n dJ7_fill_53178_1 (by decide) (by decide) ?_
  refine tr_aload_n dJ7_fill_53178_2 rfl ?_
  refine q_alen dJ7_fill_53178_3 (kR49 hS0.1 ta0) (by decide) (by decide) (nR49 hS0.1 ta0) (by decide +kernel) ?_
  intro v3 h4
  refine tr_istore_n dJ7_fill_53178_4 (by decide) (by decide) ?_
  have lp13 : ∀ (fu : Nat) (ls : Nat → Option Value) (v5 : Int32) (I10 : cz_I), ls 0 = some (.ref a0) → ls 1 = some (.int x1) → ls 2 = some (.int v5) → ls 3 = some (.int v3) → St T cn K N d wi_J7_fill_53178_5 wr_J7_fill_53178_5 I0 R0 I10 R0 → 0 ≤ v5.toInt → (-v5.toInt + 2147483647).toNat < fu → Tr X mJ7_fill_53178 5 ls [] cn K N I10 R0 L0 0 0 := by
    intro fu
    induction fu with
    | zero => intros; rename_i hz; exact absurd hz (Nat.not_lt_zero _)
    | succ fu ih13 =>
      intro ls v5 I10 hl6 hl7 hl8 hl9 hS11 g12 hm13
      refine tr_iload_n dJ7_fill_53178_5 hl8 ?_
      refine tr_iload_n dJ7_fill_53178_6 hl9 ?_
      refine q_icmp_ge 20 dJ7_fill_53178_7 (by decide) (fun h15 => ?_) (fun h15 => ?_)
      · skip
        exact tr_vret hZ dJ7_fill_53178_20 rfl (by decide) (by decide) ⟨rfl, rfl, rfl, rfl, rfl, rfl, hS11, trivial⟩
      · skip
        refine tr_aload_n dJ7_fill_53178_10 hl6 ?_
        refine tr_iload_n dJ7_fill_53178_11 hl8 ?_
        refine tr_iload_n dJ7_fill_53178_12 hl7 ?_
        refine q_iast dJ7_fill_53178_13 (kR49 hS11.1 ta0) (ti_in (nR49 hS11.1 ta0) (by exact om_2cfcd5a5 g12) (by exact om_d10de4f6 h4 g12 h15)) hS11 ta0 (iokF rfl) rfl (by rfl) ?_
        intro I16 hS17 e19 f18
        refine q_iincE dJ7_fill_53178_14 hl8 (by decide) (by decide) (by intro j1 j2; exact om_0ac0544f h4 g12 h15) ?_
        intro v20 h21
        refine tr_goto 5 dJ7_fill_53178_17 (by decide) ?_
        exact ih13 _ v20 I16 hl6 hl7 rfl hl9 hS17 (by exact om_53cdc58a h4 g12 h15 h21) (by exact om_466d2c50 h4 g12 hm13 h15 h21)
  exact lp13 _ _ v1 I0 rfl rfl rfl rfl hS0 (by exact om_d99fa9e4 h2) (Nat.lt_succ_self _)
def wi_J7_fill_53178_6 : List Nat := [3263]
def wr_J7_fill_53178_6 : List Nat := []
set_option maxHeartbeats 4000000 in
theorem k_J7_fill_53178_6 {l : Launch} {T : Nat → Nat} {cn : Nat} {K N : Nat → Nat} {I0 : cz_I} {R0 : cz_R} {L0 : cz_L} {d : Int} (hW0 : Wf T cn K N I0 R0 d) {a0 : Nat} (ta0 : T a0 = 50) {x1 : Int32} : ConE l mJ7_fill_53178 [.ref a0, .int x1] cn K N I0 R0 L0 (ca_v (fun cn' K' N' I' R' L' => cn = cn' ∧ K = K' ∧ N = N' ∧ R0 = R' ∧ L0 = L' ∧ St T cn K N d wi_J7_fill_53178_6 wr_J7_fill_53178_6 I0 R0 I' R0 ∧ True)) := by
  refine ConE.of (by decide +kernel) rfl (Nat.le_of_ble_eq_true rfl) rfl (fun X hX hZ hE => ?_)
  subst hX
  have hS0 : St T cn K N d wi_J7_fill_53178_6 wr_J7_fill_53178_6 I0 R0 I0 R0 := St.rf0 hW0
  refine q_iconst dJ7_fill_53178_0 (by decide) ?_
  intro v1 h2
  refine tr_istore_n dJ7_fill_53178_1 (by decide) (by decide) ?_
  refine tr_aload_n dJ7_fill_53178_2 rfl ?_
  refine q_alen dJ7_fill_53178_3 (kR50 hS0.1 ta0) (by decide) (by decide) (nR50 hS0.1 ta0) (by decide +kernel) ?_
  intro v3 h4
  refine tr_istore_n dJ7_fill_53178_4 (by decide) (by decide) ?_
  have lp13 : ∀ (fu : Nat) (ls : Nat → Option Value) (v5 : Int32) (I10 : cz_I), ls 0 = some (.ref a0) → ls 1 = some (.int x1) → ls 2 = some (.int v5) → ls 3 = some (.int v3) → St T cn K N d wi_J7_fill_53178_6 wr_J7_fill_53178_6 I0 R0 I10 R0 → 0 ≤ v5.toInt → (-v5.toInt + 2147483647).toNat < fu → Tr X mJ7_fill_53178 5 ls [] cn K N I10 R0 L0 0 0 := by
    intro fu
    induction fu with
    | zero => intros; rename_i hz; exact absurd hz (Nat.not_lt_zero _)
    | succ fu ih13 =>
      intro ls v5 I10 hl6 hl7 hl8 hl9 hS11 g12 hm13
      refine tr_iload_n dJ7_fill_53178_5 hl8 ?_
      refine tr_iload_n dJ7_fill_53178_6 hl9 ?_
      refine q_icmp_ge 20 dJ7_fill_53178_7 (by decide) (fun h15 => ?_) (fun h15 => ?_)
      · skip
        exact tr_vret hZ dJ7_fill_53178_20 rfl (by decide) (by decide) ⟨rfl, rfl, rfl, rfl, rfl, rfl, hS11, trivial⟩
      · skip
        refine tr_aload_n dJ7_fill_53178_10 hl6 ?_
        refine tr_iload_n dJ7_fill_53178_11 hl8 ?_
        refine tr_iload_n dJ7_fill_53178_12 hl7 ?_
        refine q_iast dJ7_fill_53178_13 (kR50 hS11.1 ta0) (ti_in (nR50 hS11.1 ta0) (by exact om_2cfcd5a5 g12) (by exact om_d10de4f6 h4 g12 h15)) hS11 ta0 (iokF rfl) rfl (by rfl) ?_
        intro I16 hS17 e19 f18
        refine q_iincE dJ7_fill_53178_14 hl8 (by decide) (by decide) (by intro j1 j2; exact om_0ac0544f h4 g12 h15) ?_
        intro v20 h21
        refine tr_goto 5 dJ7_fill_53178_17 (by decide) ?_
        exact ih13 _ v20 I16 hl6 hl7 rfl hl9 hS17 (by exact om_53cdc58a h4 g12 h15 h21) (by exact om_466d2c50 h4 g12 hm13 h15 h21)
  exact lp13 _ _ v1 I0 rfl rfl rfl rfl hS0 (by exact om_d99fa9e4 h2) (Nat.lt_succ_self _)
def wi_J7_fill_53178_7 : List Nat := [3327]
def wr_J7_fill_53178_7 : List Nat := []
set_option maxHeartbeats 4000000 in
theorem k_J7_fill_53178_7 {l : Launch} {T : Nat → Nat} {cn : Nat} {K N : Nat → Nat} {I0 : cz_I} {R0 : cz_R} {L0 : cz_L} {d : Int} (hW0 : Wf T cn K N I0 R0 d) {a0 : Nat} (ta0 : T a0 = 51) {x1 : Int32} : ConE l mJ7_fill_53178 [.ref a0, .int x1] cn K N I0 R0 L0 (ca_v (fun cn' K' N' I' R' L' => cn = cn' ∧ K = K' ∧ N = N' ∧ R0 = R' ∧ L0 = L' ∧ St T cn K N d wi_J7_fill_53178_7 wr_J7_fill_53178_7 I0 R0 I' R0 ∧ True)) := by
  refine ConE.of (by decide +kernel) rfl (Nat.le_of_ble_eq_true rfl) rfl (fun X hX hZ hE => ?_)
  subst hX
  have hS0 : St T cn K N d wi_J7_fill_53178_7 wr_J7_fill_53178_7 I0 R0 I0 R0 := St.rf0 hW0
  refine q_iconst dJ7_fill_53178_0 (by decide) ?_
  intro v1 h2
  refine tr_istore_n dJ7_fill_53178_1 (by decide) (by decide) ?_
  refine tr_aload_n dJ7_fill_53178_2 rfl ?_
  refine q_alen dJ7_fill_53178_3 (kR51 hS0.1 ta0) (by decide) (by decide) (nR51 hS0.1 ta0) (by decide +kernel) ?_
  intro v3 h4
  refine tr_istore_n dJ7_fill_53178_4 (by decide) (by decide) ?_
  have lp13 : ∀ (fu : Nat) (ls : Nat → Option Value) (v5 : Int32) (I10 : cz_I), ls 0 = some (.ref a0) → ls 1 = some (.int x1) → ls 2 = some (.int v5) → ls 3 = some (.int v3) → St T cn K N d wi_J7_fill_53178_7 wr_J7_fill_53178_7 I0 R0 I10 R0 → 0 ≤ v5.toInt → (-v5.toInt + 2147483647).toNat < fu → Tr X mJ7_fill_53178 5 ls [] cn K N I10 R0 L0 0 0 := by
    intro fu
    induction fu with
    | zero => intros; rename_i hz; exact absurd hz (Nat.not_lt_zero _)
    | succ fu ih13 =>
      intro ls v5 I10 hl6 hl7 hl8 hl9 hS11 g12 hm13
      refine tr_iload_n dJ7_fill_53178_5 hl8 ?_
      refine tr_iload_n dJ7_fill_53178_6 hl9 ?_
      refine q_icmp_ge 20 dJ7_fill_53178_7 (by decide) (fun h15 => ?_) (fun h15 => ?_)
      · skip
        exact tr_vret hZ dJ7_fill_53178_20 rfl (by decide) (by decide) ⟨rfl, rfl, rfl, rfl, rfl, rfl, hS11, trivial⟩
      · skip
        refine tr_aload_n dJ7_fill_53178_10 hl6 ?_
        refine tr_iload_n dJ7_fill_53178_11 hl8 ?_
        refine tr_iload_n dJ7_fill_53178_12 hl7 ?_
        refine q_iast dJ7_fill_53178_13 (kR51 hS11.1 ta0) (ti_in (nR51 hS11.1 ta0) (by exact om_2cfcd5a5 g12) (by exact om_d10de4f6 h4 g12 h15)) hS11 ta0 (iokF rfl) rfl (by rfl) ?_
        intro I16 hS17 e19 f18
        refine q_iincE dJ7_fill_53178_14 hl8 (by decide) (by decide) (by intro j1 j2; exact om_0ac0544f h4 g12 h15) ?_
        intro v20 h21
        refine tr_goto 5 dJ7_fill_53178_17 (by decide) ?_
        exact ih13 _ v20 I16 hl6 hl7 rfl hl9 hS17 (by exact om_53cdc58a h4 g12 h15 h21) (by exact om_466d2c50 h4 g12 hm13 h15 h21)
  exact lp13 _ _ v1 I0 rfl rfl rfl rfl hS0 (by exact om_d99fa9e4 h2) (Nat.lt_succ_self _)
def wi_J7_fill_53178_8 : List Nat := [3391]
def wr_J7_fill_53178_8 : List Nat := []
set_option maxHeartbeats 4000000 in
theorem k_J7_fill_53178_8 {l : Launch} {T : Nat → Nat} {cn : Nat} {K N : Nat → Nat} {I0 : cz_I} {R0 : cz_R} {L0 : cz_L} {d : Int} (hW0 : Wf T cn K N I0 R0 d) {a0 : Nat} (ta0 : T a0 = 52) {x1 : Int32} : ConE l mJ7_fill_53178 [.ref a0, .int x1] cn K N I0 R0 L0 (ca_v (fun cn' K' N' I' R' L' => cn = cn' ∧ K = K' ∧ N = N' ∧ R0 = R' ∧ L0 = L' ∧ St T cn K N d wi_J7_fill_53178_8 wr_J7_fill_53178_8 I0 R0 I' R0 ∧ True)) := by
  refine ConE.of (by decide +kernel) rfl (Nat.le_of_ble_eq_true rfl) rfl (fun X hX hZ hE => ?_)
  subst hX
  have hS0 : St T cn K N d wi_J7_fill_53178_8 wr_J7_fill_53178_8 I0 R0 I0 R0 := St.rf0 hW0
  refine q_iconst dJ7_fill_53178_0 (by decide) ?_
  intro v1 h2
  refine tr_istore_n dJ7_fill_53178_1 (by decide) (by decide) ?_
  refine tr_aload_n dJ7_fill_53178_2 rfl ?_
  refine q_alen dJ7_fill_53178_3 (kR52 hS0.1 ta0) (by decide) (by decide) (nR52 hS0.1 ta0) (by decide +kernel) ?_
  intro v3 h4
  refine tr_istore_n dJ7_fill_53178_4 (by decide) (by decide) ?_
  have lp13 : ∀ (fu : Nat) (ls : Nat → Option Value) (v5 : Int32) (I10 : cz_I), ls 0 = some (.ref a0) → ls 1 = some (.int x1) → ls 2 = some (.int v5) → ls 3 = some (.int v3) → St T cn K N d wi_J7_fill_53178_8 wr_J7_fill_53178_8 I0 R0 I10 R0 → 0 ≤ v5.toInt → (-v5.toInt + 2147483647).toNat < fu → Tr X mJ7_fill_53178 5 ls [] cn K N I10 R0 L0 0 0 := by
    intro fu
    induction fu with
    | zero => intros; rename_i hz; exact absurd hz (Nat.not_lt_zero _)
    | succ fu ih13 =>
      intro ls v5 I10 hl6 hl7 hl8 hl9 hS11 g12 hm13
      refine tr_iload_n dJ7_fill_53178_5 hl8 ?_
      refine tr_iload_n dJ7_fill_53178_6 hl9 ?_
      refine q_icmp_ge 20 dJ7_fill_53178_7 (by decide) (fun h15 => ?_) (fun h15 => ?_)
      · skip
        exact tr_vret hZ dJ7_fill_53178_20 rfl (by decide) (by decide) ⟨rfl, rfl, rfl, rfl, rfl, rfl, hS11, trivial⟩
      · skip
        refine tr_aload_n dJ7_fill_53178_10 hl6 ?_
        refine tr_iload_n dJ7_fill_53178_11 hl8 ?_
        refine tr_iload_n dJ7_fill_53178_12 hl7 ?_
        refine q_iast dJ7_fill_53178_13 (kR52 hS11.1 ta0) (ti_in (nR52 hS11.1 ta0) (by exact om_2cfcd5a5 g12) (by exact om_d10de4f6 h4 g12 h15)) hS11 ta0 (iokF rfl) rfl (by rfl) ?_
        intro I16 hS17 e19 f18
        refine q_iincE dJ7_fill_53178_14 hl8 (by decide) (by decide) (by intro j1 j2; exact om_0ac0544f h4 g12 h15) ?_
        intro v20 h21
        refine tr_goto 5 dJ7_fill_53178_17 (by decide) ?_
        exact ih13 _ v20 I16 hl6 hl7 rfl hl9 hS17 (by exact om_53cdc58a h4 g12 h15 h21) (by exact om_466d2c50 h4 g12 hm13 h15 h21)
  exact lp13 _ _ v1 I0 rfl rfl rfl rfl hS0 (by exact om_d99fa9e4 h2) (Nat.lt_succ_self _)
def wi_X5_forget : List Nat := [2879, 2943, 3007, 3071, 3135, 3199, 3263, 3327, 3391]
def wr_X5_forget : List Nat := []
set_option maxHeartbeats 4000000 in
theorem k_X5_forget {l : Launch} {T : Nat → Nat} {cn : Nat} {K N : Nat → Nat} {I0 : cz_I} {R0 : cz_R} {L0 : cz_L} {d : Int} (hW0 : Wf T cn K N I0 R0 d) {a0 : Nat} (ta0 : T a0 = 13) : ConE l mX5_forget [.ref a0] cn K N I0 R0 L0 (ca_v (fun cn' K' N' I' R' L' => cn = cn' ∧ K = K' ∧ N = N' ∧ R0 = R' ∧ L0 = L' ∧ St T cn K N d wi_X5_forget wr_X5_forget I0 R0 I' R0 ∧ True)) := by
  refine ConE.of (by decide +kernel) rfl (Nat.le_of_ble_eq_true rfl) rfl (fun X hX hZ hE => ?_)
  subst hX
  have hS0 : St T cn K N d wi_X5_forget wr_X5_forget I0 R0 I0 R0 := St.rf0 hW0
  refine tr_aload_n dX5_forget_0 rfl ?_
  obtain ⟨a1, d2, ta1⟩ := rf13_3 hW0 ta0
  refine tr_getR dX5_forget_1 fl5_9 (kR13 hS0.1 ta0) d2 ?_
  refine q_iconst dX5_forget_4 (by decide) ?_
  intro v3 h4
  refine q_callSv hE (M' := mJ7_fill_53178) (as := [_, _]) dX5_forget_5 lk5_75 inJ7_fill_53178 myJ7_fill_53178 ⟨by decide, by decide⟩ rfl (Nat.le_of_ble_eq_true rfl) rfl rfl (by decide) (by decide) (k_J7_fill_53178 hS0.1 ta1) ?_
  rintro cn' K' N' I5 R6 L7 ⟨rfl, rfl, rfl, rfl, rfl, g8, -⟩
  have hS10 := hS0.tr g8 (by decide +kernel) (by decide +kernel)
  refine tr_aload_n dX5_forget_8 rfl ?_
  obtain ⟨a11, d12, ta11⟩ := rf13_4 hW0 ta0
  refine tr_getR dX5_forget_9 fl5_15 (kR13 hS10.1 ta0) d12 ?_
  refine q_iconst dX5_forget_12 (by decide) ?_
  intro v13 h14
  refine q_callSv hE (M' := mJ7_fill_53178) (as := [_, _]) dX5_forget_13 lk5_75 inJ7_fill_53178 myJ7_fill_53178 ⟨by decide, by decide⟩ rfl (Nat.le_of_ble_eq_true rfl) rfl rfl (by decide) (by decide) (k_J7_fill_53178_1 hS10.1 ta11) ?_
  rintro cn' K' N' I15 R16 L17 ⟨rfl, rfl, rfl, rfl, rfl, g18, -⟩
  have hS20 := hS10.tr g18 (by decide +kernel) (by decide +kernel)
  refine tr_aload_n dX5_forget_16 rfl ?_
  obtain ⟨a21, d22, ta21⟩ := rf13_5 hW0 ta0
  refine tr_getR dX5_forget_17 fl5_18 (kR13 hS20.1 ta0) d22 ?_
  refine q_iconst dX5_forget_20 (by decide) ?_
  intro v23 h24
  refine q_callSv hE (M' := mJ7_fill_53178) (as := [_, _]) dX5_forget_21 lk5_75 inJ7_fill_53178 myJ7_fill_53178 ⟨by decide, by decide⟩ rfl (Nat.le_of_ble_eq_true rfl) rfl rfl (by decide) (by decide) (k_J7_fill_53178_2 hS20.1 ta21) ?_
  rintro cn' K' N' I25 R26 L27 ⟨rfl, rfl, rfl, rfl, rfl, g28, -⟩
  have hS30 := hS20.tr g28 (by decide +kernel) (by decide +kernel)
  refine tr_aload_n dX5_forget_24 rfl ?_
  obtain ⟨a31, d32, ta31⟩ := rf13_6 hW0 ta0
  refine tr_getR dX5_forget_25 fl5_21 (kR13 hS30.1 ta0) d32 ?_
  refine q_iconst dX5_forget_28 (by decide) ?_
  intro v33 h34
  refine q_callSv hE (M' := mJ7_fill_53178) (as := [_, _]) dX5_forget_29 lk5_75 inJ7_fill_53178 myJ7_fill_53178 ⟨by decide, by decide⟩ rfl (Nat.le_of_ble_eq_true rfl) rfl rfl (by decide) (by decide) (k_J7_fill_53178_3 hS30.1 ta31) ?_
  rintro cn' K' N' I35 R36 L37 ⟨rfl, rfl, rfl, rfl, rfl, g38, -⟩
  have hS40 := hS30.tr g38 (by decide +kernel) (by decide +kernel)
  refine tr_aload_n dX5_forget_32 rfl ?_
  obtain ⟨a41, d42, ta41⟩ := rf13_7 hW0 ta0
  refine tr_getR dX5_forget_33 fl5_24 (kR13 hS40.1 ta0) d42 ?_
  refine q_iconst dX5_forget_36 (by decide) ?_
  intro v43 h44
  refine q_callSv hE (M' := mJ7_fill_53178) (as := [_, _]) dX5_forget_37 lk5_75 inJ7_fill_53178 myJ7_fill_53178 ⟨by decide, by decide⟩ rfl (Nat.le_of_ble_eq_true rfl) rfl rfl (by decide) (by decide) (k_J7_fill_53178_4 hS40.1 ta41) ?_
  rintro cn' K' N' I45 R46 L47 ⟨rfl, rfl, rfl, rfl, rfl, g48, -⟩
  have hS50 := hS40.tr g48 (by decide +kernel) (by decide +kernel)
  refine tr_aload_n dX5_forget_40 rfl ?_
  obtain ⟨a51, d52, ta51⟩ := rf13_8 hW0 ta0
  refine tr_getR dX5_forget_41 fl5_27 (kR13 hS50.1 ta0) d52 ?_
  refine q_iconst dX5_forget_44 (by decide) ?_
  intro v53 h54
  refine q_callSv hE (M' := mJ7_fill_53178) (as := [_, _]) dX5_forget_45 lk5_75 inJ7_fill_53178 myJ7_fill_53178 ⟨by decide, by decide⟩ rfl (Nat.le_of_ble_eq_true rfl) rfl rfl (by decide) (by decide) (k_J7_fill_53178_5 hS50.1 ta51) ?_
  rintro cn' K' N' I55 R56 L57 ⟨rfl, rfl, rfl, rfl, rfl, g58, -⟩
  have hS60 := hS50.tr g58 (by decide +kernel) (by decide +kernel)
  refine tr_aload_n dX5_forget_48 rfl ?_
  obtain ⟨a61, d62, ta61⟩ := rf13_9 hW0 ta0
  refine tr_getR dX5_forget_49 fl5_30 (kR13 hS60.1 ta0) d62 ?_
  refine q_iconst dX5_forget_52 (by decide) ?_
  intro v63 h64
  refine q_callSv hE (M' := mJ7_fill_53178) (as := [_, _]) dX5_forget_53 lk5_75 inJ7_fill_53178 myJ7_fill_53178 ⟨by decide, by decide⟩ rfl (Nat.le_of_ble_eq_true rfl) rfl rfl (by decide) (by decide) (k_J7_fill_53178_6 hS60.1 ta61) ?_
  rintro cn' K' N' I65 R66 L67 ⟨rfl, rfl, rfl, rfl, rfl, g68, -⟩
  have hS70 := hS60.tr g68 (by decide +kernel) (by decide +kernel)
  refine tr_aload_n dX5_forget_56 rfl ?_
  obtain ⟨a71, d72, ta71⟩ := rf13_10 hW0 ta0
  refine tr_getR dX5_forget_57 fl5_33 (kR13 hS70.1 ta0) d72 ?_
  refine q_iconst dX5_forget_60 (by decide) ?_
  intro v73 h74
  refine q_callSv hE (M' := mJ7_fill_53178) (as := [_, _]) dX5_forget_61 lk5_75 inJ7_fill_53178 myJ7_fill_53178 ⟨by decide, by decide⟩ rfl (Nat.le_of_ble_eq_true rfl) rfl rfl (by decide) (by decide) (k_J7_fill_53178_7 hS70.1 ta71) ?_
  rintro cn' K' N' I75 R76 L77 ⟨rfl, rfl, rfl, rfl, rfl, g78, -⟩
  have hS80 := hS70.tr g78 (by decide +kernel) (by decide +kernel)
  refine tr_aload_n dX5_forget_64 rfl ?_
  obtain ⟨a81, d82, ta81⟩ := rf13_11 hW0 ta0
  refine tr_getR dX5_forget_65 fl5_36 (kR13 hS80.1 ta0) d82 ?_
  refine q_iconst dX5_forget_68 (by decide) ?_
  intro v83 h84
  refine q_callSv hE (M' := mJ7_fill_53178) (as := [_, _]) dX5_forget_69 lk5_75 inJ7_fill_53178 myJ7_fill_53178 ⟨by decide, by decide⟩ rfl (Nat.le_of_ble_eq_true rfl) rfl rfl (by decide) (by decide) (k_J7_fill_53178_8 hS80.1 ta81) ?_
  rintro cn' K' N' I85 R86 L87 ⟨rfl, rfl, rfl, rfl, rfl, g88, -⟩
  have hS90 := hS80.tr g88 (by decide +kernel) (by decide +kernel)
  exact tr_vret hZ dX5_forget_72 rfl (by decide) (by decide) ⟨rfl, rfl, rfl, rfl, rfl, rfl, hS90, trivial⟩
set_option maxHeartbeats 4000000 in
theorem k_X5_noticedHuts {l : Launch} {T : Nat → Nat} {cn : Nat} {K N : Nat → Nat} {I0 : cz_I} {R0 : cz_R} {L0 : cz_L} {d : Int} (hW0 : Wf T cn K N I0 R0 d) {a0 : Nat} (ta0 : T a0 = 13) {x1 : Int32} (hx1 : 0 ≤ x1.toInt ∧ x1.toInt ≤ 4) {x2 : Int32} (hx2 : 0 ≤ x2.toInt ∧ x2.toInt ≤ 239) : ConE l mX5_noticedHuts [.ref a0, .int x1, .int x2] cn K N I0 R0 L0 (ca_i (fun v cn' K' N' I' R' L' => cn = cn' ∧ K = K' ∧ N = N' ∧ I0 = I' ∧ R0 = R' ∧ L0 = L' ∧ True)) := by
  refine ConE.of (by decide +kernel) rfl (Nat.le_of_ble_eq_true rfl) rfl (fun X hX hZ hE => ?_)
  subst hX
  refine tr_aload_n dX5_noticedHuts_0 rfl ?_
  obtain ⟨a1, d2, ta1⟩ := rf13_0 hW0 ta0
  refine tr_getR dX5_noticedHuts_1 fl5_39 (kR13 hW0 ta0) d2 ?_
  obtain ⟨a3, d4, ta3⟩ := rf2_10 hW0 ta1
  refine tr_getR dX5_noticedHuts_4 fl5_90 (kR2 hW0 ta1) d4 ?_
  refine tr_iload_n dX5_noticedHuts_7 rfl ?_
  obtain ⟨a5, d6, ta5⟩ := rf21 hW0 ta3 (j := x1.toNatClampNeg) (ti_lt (by exact om_e221d927 hx1.2 hx1.1) (by exact om_55606a9c hx1.2 hx1.1))
  refine tr_aald dX5_noticedHuts_8 (kR21 hW0 ta3) (by decide) (by decide) (ti_in (nR21 hW0 ta3) (by exact om_e221d927 hx1.2 hx1.1) (by exact om_55606a9c hx1.2 hx1.1)) d6 ?_
  obtain ⟨v7, c8⟩ : ∃ v, I0 a5 0 = v := ⟨_, rfl⟩
  refine q_getI dX5_noticedHuts_9 fl5_131 (kR4 hW0 ta5) c8 ?_
  by_cases h9 : v7.toInt = 1
  · skip
    refine tr_lookup (off := 28) 40 dX5_noticedHuts_12 (by decide +kernel) (by rw [h9]; decide +kernel) (by decide) ?_
    refine tr_aload_n dX5_noticedHuts_40 rfl ?_
    obtain ⟨a10, d11, ta10⟩ := rf13_1 hW0 ta0
    refine tr_getR dX5_noticedHuts_41 fl5_43 (kR13 hW0 ta0) d11 ?_
    obtain ⟨a12, d13, ta12⟩ := rf12_8 hW0 ta10
    refine tr_getR dX5_noticedHuts_44 fl5_115 (kR12 hW0 ta10) d13 ?_
    refine tr_iload_n dX5_noticedHuts_47 rfl ?_
    refine q_iald dX5_noticedHuts_48 (kR41 hW0 ta12) (ti_in (nR41 hW0 ta12) (by exact om_2ab23ca2 hx2.2 hx2.1) (by exact om_c695125b hx2.2 hx2.1)) ?_
    intro v14 c15
    exact tr_iret hZ dX5_noticedHuts_49 rfl (by decide) (by decide) ⟨v14, rfl, rfl, rfl, rfl, rfl, rfl, rfl, trivial⟩
  · skip
    by_cases h16 : v7.toInt = 3
    · skip
      refine tr_lookup (off := 38) 50 dX5_noticedHuts_12 (by decide +kernel) (by rw [h16]; decide +kernel) (by decide) ?_
      refine tr_aload_n dX5_noticedHuts_50 rfl ?_
      refine tr_getR dX5_noticedHuts_51 fl5_39 (kR13 hW0 ta0) d2 ?_
      obtain ⟨a17, d18, ta17⟩ := rf2_8 hW0 ta1
      refine tr_getR dX5_noticedHuts_54 fl5_158 (kR2 hW0 ta1) d18 ?_
      refine tr_iload_n dX5_noticedHuts_57 rfl ?_
      refine q_callVi hE (M' := mX4_holds) (as := [_]) dX5_noticedHuts_58 lk5_162 inX4_holds seX4_holds myX4_holds (by decide) ⟨by decide, by decide⟩ rfl (kR6 hW0 ta17) (Nat.le_of_ble_eq_true rfl) rfl rfl (by decide) (by decide) (k_X4_holds hW0 ta17) ?_
      rintro v23 cn' K' N' I19 R20 L21 ⟨rfl, rfl, rfl, rfl, rfl, rfl, h24, -⟩
      refine q_if_eq 74 dX5_noticedHuts_61 (by decide) (fun h25 => ?_) (fun h25 => ?_)
      · skip
        refine q_iconst dX5_noticedHuts_74 (by decide) ?_
        intro v26 h27
        exact tr_iret hZ dX5_noticedHuts_75 rfl (by decide) (by decide) ⟨v26, rfl, rfl, rfl, rfl, rfl, rfl, rfl, trivial⟩
      · skip
        refine tr_aload_n dX5_noticedHuts_64 rfl ?_
        obtain ⟨a28, d29, ta28⟩ := rf13_1 hW0 ta0
        refine tr_getR dX5_noticedHuts_65 fl5_43 (kR13 hW0 ta0) d29 ?_
        obtain ⟨v30, c31⟩ : ∃ v, I0 a28 1 = v := ⟨_, rfl⟩
        refine q_getI dX5_noticedHuts_68 fl5_168 (kR12 hW0 ta28) c31 ?_
        refine tr_goto 75 dX5_noticedHuts_71 (by decide) ?_
        exact tr_iret hZ dX5_noticedHuts_75 rfl (by decide) (by decide) ⟨v30, rfl, rfl, rfl, rfl, rfl, rfl, rfl, trivial⟩
    · skip
      refine tr_lookup (off := 64) 76 dX5_noticedHuts_12 (by decide +kernel) (by show Op.lookupswitch.offset [(1, 28), (3, 38)] 64 _ = 64; rw [Op.lookupswitch.offset_cons, if_neg (by exact om_758c1cd7 h9 h16), Op.lookupswitch.offset_cons, if_neg (by exact om_0498a0ae h16)]; rfl) (by decide) ?_
      refine tr_aload_n dX5_noticedHuts_76 rfl ?_
      obtain ⟨a32, d33, ta32⟩ := rf13_1 hW0 ta0
      refine tr_getR dX5_noticedHuts_77 fl5_43 (kR13 hW0 ta0) d33 ?_
      obtain ⟨a34, d35, ta34⟩ := rf12_9 hW0 ta32
      refine tr_getR dX5_noticedHuts_80 fl5_171 (kR12 hW0 ta32) d35 ?_
      refine tr_iload_n dX5_noticedHuts_83 rfl ?_
      refine q_iald dX5_noticedHuts_84 (kR42 hW0 ta34) (ti_in (nR42 hW0 ta34) (by exact om_2ab23ca2 hx2.2 hx2.1) (by exact om_c695125b hx2.2 hx2.1)) ?_
      intro v36 c37
      exact tr_iret hZ dX5_noticedHuts_85 rfl (by decide) (by decide) ⟨v36, rfl, rfl, rfl, rfl, rfl, rfl, rfl, trivial⟩
set_option maxHeartbeats 4000000 in
theorem k_X5_isCalled {l : Launch} {T : Nat → Nat} {cn : Nat} {K N : Nat → Nat} {I0 : cz_I} {R0 : cz_R} {L0 : cz_L} {d : Int} (hW0 : Wf T cn K N I0 R0 d) {a0 : Nat} (ta0 : T a0 = 13) {x1 : Int32} {x2 : Int32} : ConE l mX5_isCalled [.ref a0, .int x1, .int x2] cn K N I0 R0 L0 (ca_i (fun v cn' K' N' I' R' L' => cn = cn' ∧ K = K' ∧ N = N' ∧ I0 = I' ∧ R0 = R' ∧ L0 = L' ∧ (0 ≤ v.toInt ∧ v.toInt ≤ 1) ∧ True)) := by
  refine ConE.of (by decide +kernel) rfl (Nat.le_of_ble_eq_true rfl) rfl (fun X hX hZ hE => ?_)
  subst hX
  refine q_iconst dX5_isCalled_0 (by decide) ?_
  intro v1 h2
  refine tr_istore_n dX5_isCalled_1 (by decide) (by decide) ?_
  have lp9 : ∀ (fu : Nat) (ls : Nat → Option Value) (v3 : Int32), ls 0 = some (.ref a0) → ls 1 = some (.int x1) → ls 2 = some (.int x2) → ls 3 = some (.int v3) → 0 ≤ v3.toInt → (-v3.toInt + 2147483647).toNat < fu → Tr X mX5_isCalled 2 ls [] cn K N I0 R0 L0 0 0 := by
    intro fu
    induction fu with
    | zero => intros; rename_i hz; exact absurd hz (Nat.not_lt_zero _)
    | succ fu ih9 =>
      intro ls v3 hl4 hl5 hl6 hl7 g8 hm9
      refine tr_iload_n dX5_isCalled_2 hl7 ?_
      refine tr_aload_n dX5_isCalled_3 hl4 ?_
      obtain ⟨a11, d12, ta11⟩ := rf13_0 hW0 ta0
      refine tr_getR dX5_isCalled_4 fl5_39 (kR13 hW0 ta0) d12 ?_
      obtain ⟨v13, c14⟩ : ∃ v, I0 a11 11 = v := ⟨_, rfl⟩
      have b15 := iv2_11 hW0 ta11 c14
      refine q_getI dX5_isCalled_7 fl5_141 (kR2 hW0 ta11) c14 ?_
      refine q_icmp_ge 77 dX5_isCalled_10 (by decide) (fun h16 => ?_) (fun h16 => ?_)
      · skip
        refine q_iconst dX5_isCalled_77 (by decide) ?_
        intro v17 h18
        exact tr_zret hZ dX5_isCalled_78 rfl (ti_b01 (by exact om_d99fa9e4 h18) (by exact om_d3de7ec9 h18)) (by decide) (by decide) ⟨v17, rfl, rfl, rfl, rfl, rfl, rfl, rfl, (by exact om_3b50ecb9 h18), trivial⟩
      · skip
        refine tr_aload_n dX5_isCalled_13 hl4 ?_
        refine tr_getR dX5_isCalled_14 fl5_39 (kR13 hW0 ta0) d12 ?_
        obtain ⟨a19, d20, ta19⟩ := rf2_12 hW0 ta11
        refine tr_getR dX5_isCalled_17 fl5_144 (kR2 hW0 ta11) d20 ?_
        refine tr_iload_n dX5_isCalled_20 hl7 ?_
        obtain ⟨a21, d22, ta21⟩ := rf22 hW0 ta19 (j := v3.toNatClampNeg) (ti_lt (by exact om_2cfcd5a5 g8) (by exact om_2b874313 b15.2 b15.1 h16))
        refine tr_aald dX5_isCalled_21 (kR22 hW0 ta19) (by decide) (by decide) (ti_in (nR22 hW0 ta19) (by exact om_2cfcd5a5 g8) (by exact om_2b874313 b15.2 b15.1 h16)) d22 ?_
        refine tr_astore dX5_isCalled_22 (by decide) (by decide) ?_
        refine tr_aload_n dX5_isCalled_24 hl4 ?_
        obtain ⟨v23, c24⟩ : ∃ v, I0 a0 2 = v := ⟨_, rfl⟩
        refine q_getI dX5_isCalled_25 fl5_47 (kR13 hW0 ta0) c24 ?_
        refine tr_iload_n dX5_isCalled_28 hl7 ?_
        refine q_callSNi hE (M' := mX10_bit) (as := [_, _]) dX5_isCalled_29 lk5_84 inX10_bit myX10_bit ⟨by decide, by decide⟩ rfl (Nat.le_of_ble_eq_true rfl) rfl rfl (by decide) (by decide) (k_X10_bit hW0 ) ?_
        rintro v29 cn' K' N' I25 R26 L27 ⟨rfl, rfl, rfl, rfl, rfl, rfl, -⟩
        refine q_iconst dX5_isCalled_32 (by decide) ?_
        intro v30 h31
        refine q_icmp_ne 71 dX5_isCalled_33 (by decide) (fun h32 => ?_) (fun h32 => ?_)
        · skip
          refine q_iincE dX5_isCalled_71 hl7 (by decide) (by decide) (by intro j1 j2; exact om_1c62f9ff g8 b15.2 b15.1 h16 j2) ?_
          intro v33 h34
          refine tr_goto 2 dX5_isCalled_74 (by decide) ?_
          exact ih9 _ v33 hl4 hl5 hl6 rfl (by exact om_68881c41 g8 h34) (by exact om_cf5afe83 g8 hm9 b15.2 b15.1 h16 h32 h34)
        · skip
          refine tr_aload dX5_isCalled_36 rfl ?_
          obtain ⟨v35, c36⟩ : ∃ v, I0 a21 0 = v := ⟨_, rfl⟩
          refine q_getI dX5_isCalled_38 fl5_147 (kR5 hW0 ta21) c36 ?_
          refine tr_iload_n dX5_isCalled_41 hl5 ?_
          refine q_icmp_ne 71 dX5_isCalled_42 (by decide) (fun h37 => ?_) (fun h37 => ?_)
          · skip
            refine q_iincE dX5_isCalled_71 hl7 (by decide) (by decide) (by intro j1 j2; exact om_1c62f9ff g8 b15.2 b15.1 h16 j2) ?_
            intro v38 h39
            refine tr_goto 2 dX5_isCalled_74 (by decide) ?_
            exact ih9 _ v38 hl4 hl5 hl6 rfl (by exact om_68881c41 g8 h39) (by exact om_cf5afe83 g8 hm9 b15.2 b15.1 h16 h37 h39)
          · skip
            refine tr_iload_n dX5_isCalled_45 hl6 ?_
            refine tr_aload dX5_isCalled_46 rfl ?_
            obtain ⟨v40, c41⟩ : ∃ v, I0 a21 1 = v := ⟨_, rfl⟩
            refine q_getI dX5_isCalled_48 fl5_152 (kR5 hW0 ta21) c41 ?_
            refine q_icmp_lt 71 dX5_isCalled_51 (by decide) (fun h42 => ?_) (fun h42 => ?_)
            · skip
              refine q_iincE dX5_isCalled_71 hl7 (by decide) (by decide) (by intro j1 j2; exact om_1c62f9ff g8 b15.2 b15.1 h16 j2) ?_
              intro v43 h44
              refine tr_goto 2 dX5_isCalled_74 (by decide) ?_
              exact ih9 _ v43 hl4 hl5 hl6 rfl (by exact om_68881c41 g8 h44) (by exact om_78718bb6 g8 hm9 b15.2 b15.1 h16 h44)
            · skip
              refine tr_iload_n dX5_isCalled_54 hl6 ?_
              refine tr_aload dX5_isCalled_55 rfl ?_
              refine q_getI dX5_isCalled_57 fl5_152 (kR5 hW0 ta21) c41 ?_
              refine tr_aload dX5_isCalled_60 rfl ?_
              obtain ⟨v45, c46⟩ : ∃ v, I0 a21 2 = v := ⟨_, rfl⟩
              refine q_getI dX5_isCalled_62 fl5_155 (kR5 hW0 ta21) c46 ?_
              refine q_iadd dX5_isCalled_65 ?_
              intro v47
              refine q_icmp_ge 71 dX5_isCalled_66 (by decide) (fun h48 => ?_) (fun h48 => ?_)
              · skip
                refine q_iincE dX5_isCalled_71 hl7 (by decide) (by decide) (by intro j1 j2; exact om_1c62f9ff g8 b15.2 b15.1 h16 j2) ?_
                intro v49 h50
                refine tr_goto 2 dX5_isCalled_74 (by decide) ?_
                exact ih9 _ v49 hl4 hl5 hl6 rfl (by exact om_68881c41 g8 h50) (by exact om_78718bb6 g8 hm9 b15.2 b15.1 h16 h50)
              · skip
                refine q_iconst dX5_isCalled_69 (by decide) ?_
                intro v51 h52
                exact tr_zret hZ dX5_isCalled_70 rfl (ti_b01 (by exact om_f9079521 h52) (by exact om_e6632817 h52)) (by decide) (by decide) ⟨v51, rfl, rfl, rfl, rfl, rfl, rfl, rfl, (by exact om_d753bc65 h52), trivial⟩
  exact lp9 _ _ v1 rfl rfl rfl rfl (by exact om_d99fa9e4 h2) (Nat.lt_succ_self _)
set_option maxHeartbeats 4000000 in
theorem k_X5_isAwake {l : Launch} {T : Nat → Nat} {cn : Nat} {K N : Nat → Nat} {I0 : cz_I} {R0 : cz_R} {L0 : cz_L} {d : Int} (hW0 : Wf T cn K N I0 R0 d) {a0 : Nat} (ta0 : T a0 = 13) {x1 : Int32} (hx1 : 0 ≤ x1.toInt ∧ x1.toInt ≤ 4) {x2 : Int32} (hx2 : 0 ≤ x2.toInt ∧ x2.toInt ≤ 239) : ConE l mX5_isAwake [.ref a0, .int x1, .int x2] cn K N I0 R0 L0 (ca_i (fun v cn' K' N' I' R' L' => cn = cn' ∧ K = K' ∧ N = N' ∧ I0 = I' ∧ R0 = R' ∧ L0 = L' ∧ (0 ≤ v.toInt ∧ v.toInt ≤ 1) ∧ True)) := by
  refine ConE.of (by decide +kernel) rfl (Nat.le_of_ble_eq_true rfl) rfl (fun X hX hZ hE => ?_)
  subst hX
  refine tr_aload_n dX5_isAwake_0 rfl ?_
  obtain ⟨a1, d2, ta1⟩ := rf13_0 hW0 ta0
  refine tr_getR dX5_isAwake_1 fl5_39 (kR13 hW0 ta0) d2 ?_
  obtain ⟨a3, d4, ta3⟩ := rf2_10 hW0 ta1
  refine tr_getR dX5_isAwake_4 fl5_90 (kR2 hW0 ta1) d4 ?_
  refine tr_iload_n dX5_isAwake_7 rfl ?_
  obtain ⟨a5, d6, ta5⟩ := rf21 hW0 ta3 (j := x1.toNatClampNeg) (ti_lt (by exact om_e221d927 hx1.2 hx1.1) (by exact om_55606a9c hx1.2 hx1.1))
  refine tr_aald dX5_isAwake_8 (kR21 hW0 ta3) (by decide) (by decide) (ti_in (nR21 hW0 ta3) (by exact om_e221d927 hx1.2 hx1.1) (by exact om_55606a9c hx1.2 hx1.1)) d6 ?_
  refine tr_astore_n dX5_isAwake_9 (by decide) (by decide) ?_
  refine tr_iload_n dX5_isAwake_10 rfl ?_
  refine tr_aload_n dX5_isAwake_11 rfl ?_
  obtain ⟨v7, c8⟩ : ∃ v, I0 a5 1 = v := ⟨_, rfl⟩
  refine q_getI dX5_isAwake_12 fl5_125 (kR4 hW0 ta5) c8 ?_
  refine q_icmp_lt 28 dX5_isAwake_15 (by decide) (fun h9 => ?_) (fun h9 => ?_)
  · skip
    refine tr_aload_n dX5_isAwake_28 rfl ?_
    obtain ⟨v10, c11⟩ : ∃ v, I0 a5 0 = v := ⟨_, rfl⟩
    refine q_getI dX5_isAwake_29 fl5_131 (kR4 hW0 ta5) c11 ?_
    refine q_iconst dX5_isAwake_32 (by decide) ?_
    intro v12 h13
    refine q_icmp_ne 38 dX5_isAwake_33 (by decide) (fun h14 => ?_) (fun h14 => ?_)
    · skip
      refine tr_aload_n dX5_isAwake_38 rfl ?_
      obtain ⟨a15, d16, ta15⟩ := rf13_1 hW0 ta0
      refine tr_getR dX5_isAwake_39 fl5_43 (kR13 hW0 ta0) d16 ?_
      obtain ⟨a17, d18, ta17⟩ := rf12_2 hW0 ta15
      refine tr_getR dX5_isAwake_42 fl5_134 (kR12 hW0 ta15) d18 ?_
      refine tr_iload_n dX5_isAwake_45 rfl ?_
      refine q_zald dX5_isAwake_46 (kR35 hW0 ta17) (ti_in (nR35 hW0 ta17) (by exact om_2ab23ca2 hx2.2 hx2.1) (by exact om_c695125b hx2.2 hx2.1)) ?_
      intro v19 c20
      have b21 := iv35 hW0 ta17 c20
      refine q_if_ne 59 dX5_isAwake_47 (by decide) (fun h22 => ?_) (fun h22 => ?_)
      · skip
        refine q_iconst dX5_isAwake_59 (by decide) ?_
        intro v23 h24
        refine tr_goto 64 dX5_isAwake_60 (by decide) ?_
        exact tr_zret hZ dX5_isAwake_64 rfl (ti_b01 (by exact om_f9079521 h24) (by exact om_e6632817 h24)) (by decide) (by decide) ⟨v23, rfl, rfl, rfl, rfl, rfl, rfl, rfl, (by exact om_d753bc65 h24), trivial⟩
      · skip
        refine tr_aload_n dX5_isAwake_50 rfl ?_
        refine tr_iload_n dX5_isAwake_51 rfl ?_
        refine tr_iload_n dX5_isAwake_52 rfl ?_
        refine q_callVi hE (M' := mX5_isCalled) (as := [_, _]) dX5_isAwake_53 lk5_138 inX5_isCalled seX5_isCalled myX5_isCalled (by decide) ⟨by decide, by decide⟩ rfl (kR13 hW0 ta0) (Nat.le_of_ble_eq_true rfl) rfl rfl (by decide) (by decide) (k_X5_isCalled hW0 ta0) ?_
        rintro v29 cn' K' N' I25 R26 L27 ⟨rfl, rfl, rfl, rfl, rfl, rfl, h30, -⟩
        refine q_if_eq 63 dX5_isAwake_56 (by decide) (fun h31 => ?_) (fun h31 => ?_)
        · skip
          refine q_iconst dX5_isAwake_63 (by decide) ?_
          intro v32 h33
          exact tr_zret hZ dX5_isAwake_64 rfl (ti_b01 (by exact om_d99fa9e4 h33) (by exact om_d3de7ec9 h33)) (by decide) (by decide) ⟨v32, rfl, rfl, rfl, rfl, rfl, rfl, rfl, (by exact om_3b50ecb9 h33), trivial⟩
        · skip
          refine q_iconst dX5_isAwake_59 (by decide) ?_
          intro v34 h35
          refine tr_goto 64 dX5_isAwake_60 (by decide) ?_
          exact tr_zret hZ dX5_isAwake_64 rfl (ti_b01 (by exact om_f9079521 h35) (by exact om_e6632817 h35)) (by decide) (by decide) ⟨v34, rfl, rfl, rfl, rfl, rfl, rfl, rfl, (by exact om_d753bc65 h35), trivial⟩
    · skip
      refine q_iconst dX5_isAwake_36 (by decide) ?_
      intro v36 h37
      exact tr_zret hZ dX5_isAwake_37 rfl (ti_b01 (by exact om_d99fa9e4 h37) (by exact om_d3de7ec9 h37)) (by decide) (by decide) ⟨v36, rfl, rfl, rfl, rfl, rfl, rfl, rfl, (by exact om_3b50ecb9 h37), trivial⟩
  · skip
    refine tr_iload_n dX5_isAwake_18 rfl ?_
    refine tr_aload_n dX5_isAwake_19 rfl ?_
    obtain ⟨v38, c39⟩ : ∃ v, I0 a5 2 = v := ⟨_, rfl⟩
    refine q_getI dX5_isAwake_20 fl5_128 (kR4 hW0 ta5) c39 ?_
    refine q_icmp_ge 28 dX5_isAwake_23 (by decide) (fun h40 => ?_) (fun h40 => ?_)
    · skip
      refine tr_aload_n dX5_isAwake_28 rfl ?_
      obtain ⟨v41, c42⟩ : ∃ v, I0 a5 0 = v := ⟨_, rfl⟩
      refine q_getI dX5_isAwake_29 fl5_131 (kR4 hW0 ta5) c42 ?_
      refine q_iconst dX5_isAwake_32 (by decide) ?_
      intro v43 h44
      refine q_icmp_ne 38 dX5_isAwake_33 (by decide) (fun h45 => ?_) (fun h45 => ?_)
      · skip
        refine tr_aload_n dX5_isAwake_38 rfl ?_
        obtain ⟨a46, d47, ta46⟩ := rf13_1 hW0 ta0
        refine tr_getR dX5_isAwake_39 fl5_43 (kR13 hW0 ta0) d47 ?_
        obtain ⟨a48, d49, ta48⟩ := rf12_2 hW0 ta46
        refine tr_getR dX5_isAwake_42 fl5_134 (kR12 hW0 ta46) d49 ?_
        refine tr_iload_n dX5_isAwake_45 rfl ?_
        refine q_zald dX5_isAwake_46 (kR35 hW0 ta48) (ti_in (nR35 hW0 ta48) (by exact om_2ab23ca2 hx2.2 hx2.1) (by exact om_c695125b hx2.2 hx2.1)) ?_
        intro v50 c51
        have b52 := iv35 hW0 ta48 c51
        refine q_if_ne 59 dX5_isAwake_47 (by decide) (fun h53 => ?_) (fun h53 => ?_)
        · skip
          refine q_iconst dX5_isAwake_59 (by decide) ?_
          intro v54 h55
          refine tr_goto 64 dX5_isAwake_60 (by decide) ?_
          exact tr_zret hZ dX5_isAwake_64 rfl (ti_b01 (by exact om_f9079521 h55) (by exact om_e6632817 h55)) (by decide) (by decide) ⟨v54, rfl, rfl, rfl, rfl, rfl, rfl, rfl, (by exact om_d753bc65 h55), trivial⟩
        · skip
          refine tr_aload_n dX5_isAwake_50 rfl ?_
          refine tr_iload_n dX5_isAwake_51 rfl ?_
          refine tr_iload_n dX5_isAwake_52 rfl ?_
          refine q_callVi hE (M' := mX5_isCalled) (as := [_, _]) dX5_isAwake_53 lk5_138 inX5_isCalled seX5_isCalled myX5_isCalled (by decide) ⟨by decide, by decide⟩ rfl (kR13 hW0 ta0) (Nat.le_of_ble_eq_true rfl) rfl rfl (by decide) (by decide) (k_X5_isCalled hW0 ta0) ?_
          rintro v60 cn' K' N' I56 R57 L58 ⟨rfl, rfl, rfl, rfl, rfl, rfl, h61, -⟩
          refine q_if_eq 63 dX5_isAwake_56 (by decide) (fun h62 => ?_) (fun h62 => ?_)
          · skip
            refine q_iconst dX5_isAwake_63 (by decide) ?_
            intro v63 h64
            exact tr_zret hZ dX5_isAwake_64 rfl (ti_b01 (by exact om_d99fa9e4 h64) (by exact om_d3de7ec9 h64)) (by decide) (by decide) ⟨v63, rfl, rfl, rfl, rfl, rfl, rfl, rfl, (by exact om_3b50ecb9 h64), trivial⟩
          · skip
            refine q_iconst dX5_isAwake_59 (by decide) ?_
            intro v65 h66
            refine tr_goto 64 dX5_isAwake_60 (by decide) ?_
            exact tr_zret hZ dX5_isAwake_64 rfl (ti_b01 (by exact om_f9079521 h66) (by exact om_e6632817 h66)) (by decide) (by decide) ⟨v65, rfl, rfl, rfl, rfl, rfl, rfl, rfl, (by exact om_d753bc65 h66), trivial⟩
      · skip
        refine q_iconst dX5_isAwake_36 (by decide) ?_
        intro v67 h68
        exact tr_zret hZ dX5_isAwake_37 rfl (ti_b01 (by exact om_d99fa9e4 h68) (by exact om_d3de7ec9 h68)) (by decide) (by decide) ⟨v67, rfl, rfl, rfl, rfl, rfl, rfl, rfl, (by exact om_3b50ecb9 h68), trivial⟩
    · skip
      refine q_iconst dX5_isAwake_26 (by decide) ?_
      intro v69 h70
      exact tr_zret hZ dX5_isAwake_27 rfl (ti_b01 (by exact om_f9079521 h70) (by exact om_e6632817 h70)) (by decide) (by decide) ⟨v69, rfl, rfl, rfl, rfl, rfl, rfl, rfl, (by exact om_d753bc65 h70), trivial⟩
def wi_X5_turnSome : List Nat := [2879, 3199, 3263, 3327, 3391]
def wr_X5_turnSome : List Nat := []
set_option maxHeartbeats 4000000 in
theorem k_X5_turnSome {l : Launch} {T : Nat → Nat} {cn : Nat} {K N : Nat → Nat} {I0 : cz_I} {R0 : cz_R} {L0 : cz_L} {d : Int} (hW0 : Wf T cn K N I0 R0 d) {a0 : Nat} (ta0 : T a0 = 13) {x1 : Int32} (hx1 : 0 ≤ x1.toInt ∧ x1.toInt ≤ 4) {x2 : Int32} (hx2 : 0 ≤ x2.toInt ∧ x2.toInt ≤ 239) {x3 : Int32} {x4 : Int32} : ConE l mX5_turnSome [.ref a0, .int x1, .int x2, .int x3, .int x4] cn K N I0 R0 L0 (ca_i (fun v cn' K' N' I' R' L' => cn = cn' ∧ K = K' ∧ N = N' ∧ R0 = R' ∧ L0 = L' ∧ St T cn K N d wi_X5_turnSome wr_X5_turnSome I0 R0 I' R0 ∧ True)) := by
  refine ConE.of (by decide +kernel) rfl (Nat.le_of_ble_eq_true rfl) rfl (fun X hX hZ hE => ?_)
  subst hX
  have hS0 : St T cn K N d wi_X5_turnSome wr_X5_turnSome I0 R0 I0 R0 := St.rf0 hW0
  refine tr_aload_n dX5_turnSome_0 rfl ?_
  obtain ⟨a1, d2, ta1⟩ := rf13_0 hW0 ta0
  refine tr_getR dX5_turnSome_1 fl5_39 (kR13 hS0.1 ta0) d2 ?_
  obtain ⟨a3, d4, ta3⟩ := rf2_10 hW0 ta1
  refine tr_getR dX5_turnSome_4 fl5_90 (kR2 hS0.1 ta1) d4 ?_
  refine tr_iload_n dX5_turnSome_7 rfl ?_
  obtain ⟨a5, d6, ta5⟩ := rf21 hS0.1 ta3 (j := x1.toNatClampNeg) (ti_lt (by exact om_e221d927 hx1.2 hx1.1) (by exact om_55606a9c hx1.2 hx1.1))
  refine tr_aald dX5_turnSome_8 (kR21 hS0.1 ta3) (by decide) (by decide) (ti_in (nR21 hS0.1 ta3) (by exact om_e221d927 hx1.2 hx1.1) (by exact om_55606a9c hx1.2 hx1.1)) d6 ?_
  refine tr_astore dX5_turnSome_9 (by decide) (by decide) ?_
  refine q_iconst dX5_turnSome_11 (by decide) ?_
  intro v7 h8
  refine tr_istore dX5_turnSome_12 (by decide) (by decide) ?_
  refine q_iconst dX5_turnSome_14 (by decide) ?_
  intro v9 h10
  refine tr_istore dX5_turnSome_15 (by decide) (by decide) ?_
  refine q_iconst dX5_turnSome_17 (by decide) ?_
  intro v11 h12
  refine tr_istore dX5_turnSome_18 (by decide) (by decide) ?_
  have lp28 : ∀ (fu : Nat) (ls : Nat → Option Value) (v13 : Int32) (v14 : Int32) (v15 : Int32) (I25 : cz_I), ls 0 = some (.ref a0) → ls 1 = some (.int x1) → ls 2 = some (.int x2) → ls 3 = some (.int x3) → ls 4 = some (.int x4) → ls 5 = some (.ref a5) → ls 6 = some (.int v13) → ls 7 = some (.int v14) → ls 8 = some (.int v15) → St T cn K N d wi_X5_turnSome wr_X5_turnSome I0 R0 I25 R0 → 0 ≤ v15.toInt → (-v15.toInt + 2147483647).toNat < fu → Tr X mX5_turnSome 20 ls [] cn K N I25 R0 L0 0 0 := by
    intro fu
    induction fu with
    | zero => intros; rename_i hz; exact absurd hz (Nat.not_lt_zero _)
    | succ fu ih28 =>
      intro ls v13 v14 v15 I25 hl16 hl17 hl18 hl19 hl20 hl21 hl22 hl23 hl24 hS26 g27 hm28
      refine tr_iload dX5_turnSome_20 hl24 ?_
      refine tr_aload_n dX5_turnSome_22 hl16 ?_
      refine tr_getR dX5_turnSome_23 fl5_39 (kR13 hS26.1 ta0) d2 ?_
      obtain ⟨v30, c31⟩ : ∃ v, I0 a1 5 = v := ⟨_, rfl⟩
      have b32 := iv2_5 hW0 ta1 c31
      refine q_getI dX5_turnSome_26 fl5_107 (kR2 hS26.1 ta1) ((hS26.cell ta1 (by decide +kernel)).trans c31) ?_
      refine q_icmp_ge 136 dX5_turnSome_29 (by decide) (fun h33 => ?_) (fun h33 => ?_)
      · skip
        refine tr_iload dX5_turnSome_136 hl23 ?_
        refine q_if_le 175 dX5_turnSome_138 (by decide) (fun h34 => ?_) (fun h34 => ?_)
        · skip
          refine tr_iload dX5_turnSome_175 hl22 ?_
          exact tr_iret hZ dX5_turnSome_177 rfl (by decide) (by decide) ⟨v13, rfl, rfl, rfl, rfl, rfl, rfl, hS26, trivial⟩
        · skip
          refine tr_aload_n dX5_turnSome_141 hl16 ?_
          obtain ⟨a35, d36, ta35⟩ := rf13_8 hW0 ta0
          refine tr_getR dX5_turnSome_142 fl5_27 (kR13 hS26.1 ta0) d36 ?_
          refine tr_iload_n dX5_turnSome_145 hl17 ?_
          refine tr_dup2 dX5_turnSome_146 rfl rfl ?_
          refine q_iald dX5_turnSome_147 (kR49 hS26.1 ta35) (ti_in (nR49 hS26.1 ta35) (by exact om_e221d927 hx1.2 hx1.1) (by exact om_55606a9c hx1.2 hx1.1)) ?_
          intro v37 c38
          refine tr_iload dX5_turnSome_148 hl23 ?_
          refine q_iadd dX5_turnSome_150 ?_
          intro v39
          refine q_iast dX5_turnSome_151 (kR49 hS26.1 ta35) (ti_in (nR49 hS26.1 ta35) (by exact om_e221d927 hx1.2 hx1.1) (by exact om_55606a9c hx1.2 hx1.1)) hS26 ta35 (iokF rfl) rfl (by rfl) ?_
          intro I40 hS41 e43 f42
          refine tr_aload_n dX5_turnSome_152 hl16 ?_
          obtain ⟨a44, d45, ta44⟩ := rf13_10 hW0 ta0
          refine tr_getR dX5_turnSome_153 fl5_33 (kR13 hS41.1 ta0) d45 ?_
          refine tr_iload_n dX5_turnSome_156 hl17 ?_
          refine tr_dup2 dX5_turnSome_157 rfl rfl ?_
          refine q_iald dX5_turnSome_158 (kR51 hS41.1 ta44) (ti_in (nR51 hS41.1 ta44) (by exact om_e221d927 hx1.2 hx1.1) (by exact om_55606a9c hx1.2 hx1.1)) ?_
          intro v46 c47
          refine q_iconst dX5_turnSome_159 (by decide) ?_
          intro v48 h49
          refine q_iadd dX5_turnSome_160 ?_
          intro v50
          refine q_iast dX5_turnSome_161 (kR51 hS41.1 ta44) (ti_in (nR51 hS41.1 ta44) (by exact om_e221d927 hx1.2 hx1.1) (by exact om_55606a9c hx1.2 hx1.1)) hS41 ta44 (iokF rfl) rfl (by rfl) ?_
          intro I51 hS52 e54 f53
          refine tr_aload_n dX5_turnSome_162 hl16 ?_
          obtain ⟨a55, d56, ta55⟩ := rf13_11 hW0 ta0
          refine tr_getR dX5_turnSome_163 fl5_36 (kR13 hS52.1 ta0) d56 ?_
          refine tr_iload_n dX5_turnSome_166 hl17 ?_
          refine tr_iload_n dX5_turnSome_167 hl18 ?_
          refine tr_aload dX5_turnSome_168 hl21 ?_
          obtain ⟨v57, c58⟩ : ∃ v, I0 a5 4 = v := ⟨_, rfl⟩
          refine q_getI dX5_turnSome_170 fl5_118 (kR4 hS52.1 ta5) ((hS52.cell ta5 (by decide +kernel)).trans c58) ?_
          refine q_iadd dX5_turnSome_173 ?_
          intro v59
          refine q_iast dX5_turnSome_174 (kR52 hS52.1 ta55) (ti_in (nR52 hS52.1 ta55) (by exact om_e221d927 hx1.2 hx1.1) (by exact om_55606a9c hx1.2 hx1.1)) hS52 ta55 (iokF rfl) rfl (by rfl) ?_
          intro I60 hS61 e63 f62
          refine tr_iload dX5_turnSome_175 hl22 ?_
          exact tr_iret hZ dX5_turnSome_177 rfl (by decide) (by decide) ⟨v13, rfl, rfl, rfl, rfl, rfl, rfl, hS61, trivial⟩
      · skip
        refine tr_iload dX5_turnSome_32 hl23 ?_
        refine tr_aload dX5_turnSome_34 hl21 ?_
        obtain ⟨v64, c65⟩ : ∃ v, I0 a5 3 = v := ⟨_, rfl⟩
        refine q_getI dX5_turnSome_36 fl5_110 (kR4 hS26.1 ta5) ((hS26.cell ta5 (by decide +kernel)).trans c65) ?_
        refine q_icmp_ge 136 dX5_turnSome_39 (by decide) (fun h66 => ?_) (fun h66 => ?_)
        · skip
          refine tr_iload dX5_turnSome_136 hl23 ?_
          refine q_if_le 175 dX5_turnSome_138 (by decide) (fun h67 => ?_) (fun h67 => ?_)
          · skip
            refine tr_iload dX5_turnSome_175 hl22 ?_
            exact tr_iret hZ dX5_turnSome_177 rfl (by decide) (by decide) ⟨v13, rfl, rfl, rfl, rfl, rfl, rfl, hS26, trivial⟩
          · skip
            refine tr_aload_n dX5_turnSome_141 hl16 ?_
            obtain ⟨a68, d69, ta68⟩ := rf13_8 hW0 ta0
            refine tr_getR dX5_turnSome_142 fl5_27 (kR13 hS26.1 ta0) d69 ?_
            refine tr_iload_n dX5_turnSome_145 hl17 ?_
            refine tr_dup2 dX5_turnSome_146 rfl rfl ?_
            refine q_iald dX5_turnSome_147 (kR49 hS26.1 ta68) (ti_in (nR49 hS26.1 ta68) (by exact om_e221d927 hx1.2 hx1.1) (by exact om_55606a9c hx1.2 hx1.1)) ?_
            intro v70 c71
            refine tr_iload dX5_turnSome_148 hl23 ?_
            refine q_iadd dX5_turnSome_150 ?_
            intro v72
            refine q_iast dX5_turnSome_151 (kR49 hS26.1 ta68) (ti_in (nR49 hS26.1 ta68) (by exact om_e221d927 hx1.2 hx1.1) (by exact om_55606a9c hx1.2 hx1.1)) hS26 ta68 (iokF rfl) rfl (by rfl) ?_
            intro I73 hS74 e76 f75
            refine tr_aload_n dX5_turnSome_152 hl16 ?_
            obtain ⟨a77, d78, ta77⟩ := rf13_10 hW0 ta0
            refine tr_getR dX5_turnSome_153 fl5_33 (kR13 hS74.1 ta0) d78 ?_
            refine tr_iload_n dX5_turnSome_156 hl17 ?_
            refine tr_dup2 dX5_turnSome_157 rfl rfl ?_
            refine q_iald dX5_turnSome_158 (kR51 hS74.1 ta77) (ti_in (nR51 hS74.1 ta77) (by exact om_e221d927 hx1.2 hx1.1) (by exact om_55606a9c hx1.2 hx1.1)) ?_
            intro v79 c80
            refine q_iconst dX5_turnSome_159 (by decide) ?_
            intro v81 h82
            refine q_iadd dX5_turnSome_160 ?_
            intro v83
            refine q_iast dX5_turnSome_161 (kR51 hS74.1 ta77) (ti_in (nR51 hS74.1 ta77) (by exact om_e221d927 hx1.2 hx1.1) (by exact om_55606a9c hx1.2 hx1.1)) hS74 ta77 (iokF rfl) rfl (by rfl) ?_
            intro I84 hS85 e87 f86
            refine tr_aload_n dX5_turnSome_162 hl16 ?_
            obtain ⟨a88, d89, ta88⟩ := rf13_11 hW0 ta0
            refine tr_getR dX5_turnSome_163 fl5_36 (kR13 hS85.1 ta0) d89 ?_
            refine tr_iload_n dX5_turnSome_166 hl17 ?_
            refine tr_iload_n dX5_turnSome_167 hl18 ?_
            refine tr_aload dX5_turnSome_168 hl21 ?_
            obtain ⟨v90, c91⟩ : ∃ v, I0 a5 4 = v := ⟨_, rfl⟩
            refine q_getI dX5_turnSome_170 fl5_118 (kR4 hS85.1 ta5) ((hS85.cell ta5 (by decide +kernel)).trans c91) ?_
            refine q_iadd dX5_turnSome_173 ?_
            intro v92
            refine q_iast dX5_turnSome_174 (kR52 hS85.1 ta88) (ti_in (nR52 hS85.1 ta88) (by exact om_e221d927 hx1.2 hx1.1) (by exact om_55606a9c hx1.2 hx1.1)) hS85 ta88 (iokF rfl) rfl (by rfl) ?_
            intro I93 hS94 e96 f95
            refine tr_iload dX5_turnSome_175 hl22 ?_
            exact tr_iret hZ dX5_turnSome_177 rfl (by decide) (by decide) ⟨v13, rfl, rfl, rfl, rfl, rfl, rfl, hS94, trivial⟩
        · skip
          refine tr_iload dX5_turnSome_42 hl20 ?_
          refine tr_iload dX5_turnSome_44 hl24 ?_
          refine q_callSNi hE (M' := mX10_bit) (as := [_, _]) dX5_turnSome_46 lk5_84 inX10_bit myX10_bit ⟨by decide, by decide⟩ rfl (Nat.le_of_ble_eq_true rfl) rfl rfl (by decide) (by decide) (k_X10_bit hS26.1 ) ?_
          rintro v101 cn' K' N' I97 R98 L99 ⟨rfl, rfl, rfl, rfl, rfl, rfl, -⟩
          refine q_if_ne 130 dX5_turnSome_49 (by decide) (fun h102 => ?_) (fun h102 => ?_)
          · skip
            refine q_iincE dX5_turnSome_130 hl24 (by decide) (by decide) (by intro j1 j2; exact om_4034714d g27 b32.2 b32.1 h33 j2) ?_
            intro v103 h104
            refine tr_goto 20 dX5_turnSome_133 (by decide) ?_
            exact ih28 _ v13 v14 v103 I25 hl16 hl17 hl18 hl19 hl20 hl21 hl22 hl23 rfl hS26 (by exact om_68881c41 g27 h104) (by exact om_ad1f7e25 g27 hm28 b32.2 b32.1 h33 h102 h104)
          · skip
            refine tr_iload_n dX5_turnSome_52 hl19 ?_
            refine tr_aload_n dX5_turnSome_53 hl16 ?_
            refine tr_getR dX5_turnSome_54 fl5_39 (kR13 hS26.1 ta0) d2 ?_
            obtain ⟨a105, d106, ta105⟩ := rf2_6 hW0 ta1
            refine tr_getR dX5_turnSome_57 fl5_112 (kR2 hS26.1 ta1) d106 ?_
            refine tr_iload dX5_turnSome_60 hl24 ?_
            refine q_iald dX5_turnSome_62 (kR20 hS26.1 ta105) (ti_in (nR20 hS26.1 ta105) (by exact om_2cfcd5a5 g27) (by exact om_5f13cc30 b32.2 b32.1 h33)) ?_
            intro v107 c108
            refine q_callSNi hE (M' := mX10_bit) (as := [_, _]) dX5_turnSome_63 lk5_84 inX10_bit myX10_bit ⟨by decide, by decide⟩ rfl (Nat.le_of_ble_eq_true rfl) rfl rfl (by decide) (by decide) (k_X10_bit hS26.1 ) ?_
            rintro v113 cn' K' N' I109 R110 L111 ⟨rfl, rfl, rfl, rfl, rfl, rfl, -⟩
            refine q_iconst dX5_turnSome_66 (by decide) ?_
            intro v114 h115
            refine q_icmp_ne 130 dX5_turnSome_67 (by decide) (fun h116 => ?_) (fun h116 => ?_)
            · skip
              refine q_iincE dX5_turnSome_130 hl24 (by decide) (by decide) (by intro j1 j2; exact om_4034714d g27 b32.2 b32.1 h33 j2) ?_
              intro v117 h118
              refine tr_goto 20 dX5_turnSome_133 (by decide) ?_
              exact ih28 _ v13 v14 v117 I25 hl16 hl17 hl18 hl19 hl20 hl21 hl22 hl23 rfl hS26 (by exact om_68881c41 g27 h118) (by exact om_8ec43a4b g27 hm28 b32.2 b32.1 h33 h116 h118)
            · skip
              refine tr_iload dX5_turnSome_70 hl22 ?_
              refine q_iconst dX5_turnSome_72 (by decide) ?_
              intro v119 h120
              refine tr_iload dX5_turnSome_73 hl24 ?_
              refine q_ishl dX5_turnSome_75 ?_
              intro v121
              refine q_ior dX5_turnSome_76 ?_
              intro v122
              refine tr_istore dX5_turnSome_77 (by decide) (by decide) ?_
              refine q_iincE dX5_turnSome_79 hl23 (by decide) (by decide) (by have z0 := v64.toInt_lt; have y0 := v64.le_toInt; intros; omega) ?_
              intro v123 h124
              refine tr_aload_n dX5_turnSome_82 hl16 ?_
              obtain ⟨a125, d126, ta125⟩ := rf13_3 hW0 ta0
              refine tr_getR dX5_turnSome_83 fl5_9 (kR13 hS26.1 ta0) d126 ?_
              refine tr_iload_n dX5_turnSome_86 hl18 ?_
              refine tr_dup2 dX5_turnSome_87 rfl rfl ?_
              refine q_iald dX5_turnSome_88 (kR44 hS26.1 ta125) (ti_in (nR44 hS26.1 ta125) (by exact om_2ab23ca2 hx2.2 hx2.1) (by exact om_c695125b hx2.2 hx2.1)) ?_
              intro v127 c128
              refine tr_iload_n dX5_turnSome_89 hl17 ?_
              refine q_iconst dX5_turnSome_90 (by decide) ?_
              intro v129 h130
              refine q_iaddE dX5_turnSome_91 (by intro j1 j2 j3 j4; exact om_34f8ba48 hx1.2 hx1.1 h130) ?_
              intro v131 h132
              refine q_iconst dX5_turnSome_92 (by decide) ?_
              intro v133 h134
              refine tr_iload dX5_turnSome_93 hl24 ?_
              refine q_imulE (c := 4) dX5_turnSome_95 (by exact om_668bd13a h134) (by exact om_8e3a0b0f g27 b32.2 b32.1 h33) ?_
              intro v135 h136
              refine q_ishl dX5_turnSome_96 ?_
              intro v137
              refine q_ior dX5_turnSome_97 ?_
              intro v138
              refine q_iast dX5_turnSome_98 (kR44 hS26.1 ta125) (ti_in (nR44 hS26.1 ta125) (by exact om_2ab23ca2 hx2.2 hx2.1) (by exact om_c695125b hx2.2 hx2.1)) hS26 ta125 (iokF rfl) rfl (by rfl) ?_
              intro I139 hS140 e142 f141
              refine tr_aload_n dX5_turnSome_99 hl16 ?_
              obtain ⟨a143, d144, ta143⟩ := rf13_9 hW0 ta0
              refine tr_getR dX5_turnSome_100 fl5_30 (kR13 hS140.1 ta0) d144 ?_
              refine tr_iload_n dX5_turnSome_103 hl17 ?_
              refine tr_dup2 dX5_turnSome_104 rfl rfl ?_
              refine q_iald dX5_turnSome_105 (kR50 hS140.1 ta143) (ti_in (nR50 hS140.1 ta143) (by exact om_881d2d09 hx1.2 hx1.1 h130 h132) (by exact om_7f1c1a38 hx1.2 hx1.1 h130 h132)) ?_
              intro v145 c146
              refine tr_aload_n dX5_turnSome_106 hl16 ?_
              obtain ⟨a147, d148, ta147⟩ := rf13_1 hW0 ta0
              refine tr_getR dX5_turnSome_107 fl5_43 (kR13 hS140.1 ta0) d148 ?_
              obtain ⟨a149, d150, ta149⟩ := rf12_8 hW0 ta147
              refine tr_getR dX5_turnSome_110 fl5_115 (kR12 hS140.1 ta147) d150 ?_
              refine tr_iload_n dX5_turnSome_113 hl18 ?_
              refine q_iald dX5_turnSome_114 (kR41 hS140.1 ta149) (ti_in (nR41 hS140.1 ta149) (by exact om_2ab23ca2 hx2.2 hx2.1) (by exact om_c695125b hx2.2 hx2.1)) ?_
              intro v151 c152
              refine tr_aload_n dX5_turnSome_115 hl16 ?_
              refine tr_getR dX5_turnSome_116 fl5_39 (kR13 hS140.1 ta0) d2 ?_
              refine tr_getR dX5_turnSome_119 fl5_112 (kR2 hS140.1 ta1) d106 ?_
              refine tr_iload dX5_turnSome_122 hl24 ?_
              refine q_iald dX5_turnSome_124 (kR20 hS140.1 ta105) (ti_in (nR20 hS140.1 ta105) (by exact om_2cfcd5a5 g27) (by exact om_5f13cc30 b32.2 b32.1 h33)) ?_
              intro v153 c154
              refine q_callSNi hE (M' := mX10_bit) (as := [_, _]) dX5_turnSome_125 lk5_84 inX10_bit myX10_bit ⟨by decide, by decide⟩ rfl (Nat.le_of_ble_eq_true rfl) rfl rfl (by decide) (by decide) (k_X10_bit hS140.1 ) ?_
              rintro v159 cn' K' N' I155 R156 L157 ⟨rfl, rfl, rfl, rfl, rfl, rfl, -⟩
              refine q_iadd dX5_turnSome_128 ?_
              intro v160
              refine q_iast dX5_turnSome_129 (kR50 hS140.1 ta143) (ti_in (nR50 hS140.1 ta143) (by exact om_881d2d09 hx1.2 hx1.1 h130 h132) (by exact om_7f1c1a38 hx1.2 hx1.1 h130 h132)) hS140 ta143 (iokF rfl) rfl (by rfl) ?_
              intro I161 hS162 e164 f163
              refine q_iincE dX5_turnSome_130 hl24 (by decide) (by decide) (by intro j1 j2; exact om_4034714d g27 b32.2 b32.1 h33 j2) ?_
              intro v165 h166
              refine tr_goto 20 dX5_turnSome_133 (by decide) ?_
              exact ih28 _ v122 v123 v165 I161 hl16 hl17 hl18 hl19 hl20 hl21 rfl rfl rfl hS162 (by exact om_68881c41 g27 h166) (by exact om_fc025699 g27 hm28 b32.2 b32.1 h33 h166)
  exact lp28 _ _ v7 v9 v11 I0 rfl rfl rfl rfl rfl rfl rfl rfl rfl hS0 (by exact om_d99fa9e4 h12) (Nat.lt_succ_self _)
def wi_X5_turnAll : List Nat := [2879, 3199, 3263, 3327, 3391]
def wr_X5_turnAll : List Nat := []
set_option maxHeartbeats 4000000 in
theorem k_X5_turnAll {l : Launch} {T : Nat → Nat} {cn : Nat} {K N : Nat → Nat} {I0 : cz_I} {R0 : cz_R} {L0 : cz_L} {d : Int} (hW0 : Wf T cn K N I0 R0 d) {a0 : Nat} (ta0 : T a0 = 13) {x1 : Int32} (hx1 : 0 ≤ x1.toInt ∧ x1.toInt ≤ 239) {x2 : Int32} : ConE l mX5_turnAll [.ref a0, .int x1, .int x2] cn K N I0 R0 L0 (ca_i (fun v cn' K' N' I' R' L' => cn = cn' ∧ K = K' ∧ N = N' ∧ R0 = R' ∧ L0 = L' ∧ St T cn K N d wi_X5_turnAll wr_X5_turnAll I0 R0 I' R0 ∧ True)) := by
  refine ConE.of (by decide +kernel) rfl (Nat.le_of_ble_eq_true rfl) rfl (fun X hX hZ hE => ?_)
  subst hX
  have hS0 : St T cn K N d wi_X5_turnAll wr_X5_turnAll I0 R0 I0 R0 := St.rf0 hW0
  refine q_iconst dX5_turnAll_0 (by decide) ?_
  intro v1 h2
  refine tr_istore_n dX5_turnAll_1 (by decide) (by decide) ?_
  refine q_iconst dX5_turnAll_2 (by decide) ?_
  intro v3 h4
  refine tr_istore dX5_turnAll_3 (by decide) (by decide) ?_
  have lp15 : ∀ (fu : Nat) (ls : Nat → Option Value) (v5 : Int32) (v6 : Int32) (I12 : cz_I), ls 0 = some (.ref a0) → ls 1 = some (.int x1) → ls 2 = some (.int x2) → ls 3 = some (.int v5) → ls 4 = some (.int v6) → St T cn K N d wi_X5_turnAll wr_X5_turnAll I0 R0 I12 R0 → 0 ≤ v6.toInt → (-v6.toInt + 2147483647).toNat < fu → Tr X mX5_turnAll 5 ls [] cn K N I12 R0 L0 0 0 := by
    intro fu
    induction fu with
    | zero => intros; rename_i hz; exact absurd hz (Nat.not_lt_zero _)
    | succ fu ih15 =>
      intro ls v5 v6 I12 hl7 hl8 hl9 hl10 hl11 hS13 g14 hm15
      refine tr_iload dX5_turnAll_5 hl11 ?_
      refine tr_aload_n dX5_turnAll_7 hl7 ?_
      obtain ⟨a17, d18, ta17⟩ := rf13_0 hW0 ta0
      refine tr_getR dX5_turnAll_8 fl5_39 (kR13 hS13.1 ta0) d18 ?_
      obtain ⟨v19, c20⟩ : ∃ v, I0 a17 9 = v := ⟨_, rfl⟩
      have b21 := iv2_9 hW0 ta17 c20
      refine q_getI dX5_turnAll_11 fl5_81 (kR2 hS13.1 ta17) ((hS13.cell ta17 (by decide +kernel)).trans c20) ?_
      refine q_icmp_ge 95 dX5_turnAll_14 (by decide) (fun h22 => ?_) (fun h22 => ?_)
      · skip
        refine tr_iload_n dX5_turnAll_95 hl10 ?_
        exact tr_iret hZ dX5_turnAll_96 rfl (by decide) (by decide) ⟨v5, rfl, rfl, rfl, rfl, rfl, rfl, hS13, trivial⟩
      · skip
        refine tr_iload_n dX5_turnAll_17 hl9 ?_
        refine tr_iload dX5_turnAll_18 hl11 ?_
        refine q_callSNi hE (M' := mX10_bit) (as := [_, _]) dX5_turnAll_20 lk5_84 inX10_bit myX10_bit ⟨by decide, by decide⟩ rfl (Nat.le_of_ble_eq_true rfl) rfl rfl (by decide) (by decide) (k_X10_bit hS13.1 ) ?_
        rintro v27 cn' K' N' I23 R24 L25 ⟨rfl, rfl, rfl, rfl, rfl, rfl, -⟩
        refine q_iconst dX5_turnAll_23 (by decide) ?_
        intro v28 h29
        refine q_icmp_ne 89 dX5_turnAll_24 (by decide) (fun h30 => ?_) (fun h30 => ?_)
        · skip
          refine q_iincE dX5_turnAll_89 hl11 (by decide) (by decide) (by intro j1 j2; exact om_c1b4185f g14 b21.2 b21.1 h22 j2) ?_
          intro v31 h32
          refine tr_goto 5 dX5_turnAll_92 (by decide) ?_
          exact ih15 _ v5 v31 I12 hl7 hl8 hl9 hl10 rfl hS13 (by exact om_68881c41 g14 h32) (by exact om_067ae66e g14 hm15 b21.2 b21.1 h22 h30 h32)
        · skip
          refine tr_aload_n dX5_turnAll_27 hl7 ?_
          obtain ⟨a33, d34, ta33⟩ := rf13_11 hW0 ta0
          refine tr_getR dX5_turnAll_28 fl5_36 (kR13 hS13.1 ta0) d34 ?_
          refine tr_iload dX5_turnAll_31 hl11 ?_
          refine q_iald dX5_turnAll_33 (kR52 hS13.1 ta33) (ti_in (nR52 hS13.1 ta33) (by exact om_2cfcd5a5 g14) (by exact om_6a9b8aca b21.2 b21.1 h22)) ?_
          intro v35 c36
          refine tr_iload_n dX5_turnAll_34 hl8 ?_
          refine q_icmp_gt 89 dX5_turnAll_35 (by decide) (fun h37 => ?_) (fun h37 => ?_)
          · skip
            refine q_iincE dX5_turnAll_89 hl11 (by decide) (by decide) (by intro j1 j2; exact om_c1b4185f g14 b21.2 b21.1 h22 j2) ?_
            intro v38 h39
            refine tr_goto 5 dX5_turnAll_92 (by decide) ?_
            exact ih15 _ v5 v38 I12 hl7 hl8 hl9 hl10 rfl hS13 (by exact om_68881c41 g14 h39) (by exact om_834a4d47 g14 hm15 b21.2 b21.1 h22 h39)
          · skip
            refine tr_aload_n dX5_turnAll_38 hl7 ?_
            refine tr_iload dX5_turnAll_39 hl11 ?_
            refine tr_iload_n dX5_turnAll_41 hl8 ?_
            refine q_callVi hE (M' := mX5_noticedHuts) (as := [_, _]) dX5_turnAll_42 lk5_87 inX5_noticedHuts seX5_noticedHuts myX5_noticedHuts (by decide) ⟨by decide, by decide⟩ rfl (kR13 hS13.1 ta0) (Nat.le_of_ble_eq_true rfl) rfl rfl (by decide) (by decide) (k_X5_noticedHuts hS13.1 ta0 (by exact om_270ffb5e g14 b21.2 b21.1 h22) (by exact om_87537644 hx1)) ?_
            rintro v44 cn' K' N' I40 R41 L42 ⟨rfl, rfl, rfl, rfl, rfl, rfl, -⟩
            refine tr_aload_n dX5_turnAll_45 hl7 ?_
            refine tr_getR dX5_turnAll_46 fl5_39 (kR13 hS13.1 ta0) d18 ?_
            obtain ⟨a45, d46, ta45⟩ := rf2_10 hW0 ta17
            refine tr_getR dX5_turnAll_49 fl5_90 (kR2 hS13.1 ta17) d46 ?_
            refine tr_iload dX5_turnAll_52 hl11 ?_
            obtain ⟨a47, d48, ta47⟩ := rf21 hS13.1 ta45 (j := v6.toNatClampNeg) (ti_lt (by exact om_2cfcd5a5 g14) (by exact om_6a9b8aca b21.2 b21.1 h22))
            refine tr_aald dX5_turnAll_54 (kR21 hS13.1 ta45) (by decide) (by decide) (ti_in (nR21 hS13.1 ta45) (by exact om_2cfcd5a5 g14) (by exact om_6a9b8aca b21.2 b21.1 h22)) d48 ?_
            obtain ⟨v49, c50⟩ : ∃ v, I0 a47 5 = v := ⟨_, rfl⟩
            refine q_getI dX5_turnAll_55 fl5_94 (kR4 hS13.1 ta47) ((hS13.cell ta47 (by decide +kernel)).trans c50) ?_
            refine q_iand dX5_turnAll_58 ?_
            intro v51
            refine tr_istore dX5_turnAll_59 (by decide) (by decide) ?_
            refine tr_iload dX5_turnAll_61 rfl ?_
            refine q_if_eq 89 dX5_turnAll_63 (by decide) (fun h52 => ?_) (fun h52 => ?_)
            · skip
              refine q_iincE dX5_turnAll_89 hl11 (by decide) (by decide) (by intro j1 j2; exact om_c1b4185f g14 b21.2 b21.1 h22 j2) ?_
              intro v53 h54
              refine tr_goto 5 dX5_turnAll_92 (by decide) ?_
              exact ih15 _ v5 v53 I12 hl7 hl8 hl9 hl10 rfl hS13 (by exact om_68881c41 g14 h54) (by exact om_834a4d47 g14 hm15 b21.2 b21.1 h22 h54)
            · skip
              refine tr_aload_n dX5_turnAll_66 hl7 ?_
              refine tr_iload dX5_turnAll_67 hl11 ?_
              refine tr_iload_n dX5_turnAll_69 hl8 ?_
              refine q_callVi hE (M' := mX5_isAwake) (as := [_, _]) dX5_turnAll_70 lk5_99 inX5_isAwake seX5_isAwake myX5_isAwake (by decide) ⟨by decide, by decide⟩ rfl (kR13 hS13.1 ta0) (Nat.le_of_ble_eq_true rfl) rfl rfl (by decide) (by decide) (k_X5_isAwake hS13.1 ta0 (by exact om_270ffb5e g14 b21.2 b21.1 h22) (by exact om_87537644 hx1)) ?_
              rintro v59 cn' K' N' I55 R56 L57 ⟨rfl, rfl, rfl, rfl, rfl, rfl, h60, -⟩
              refine q_if_eq 89 dX5_turnAll_73 (by decide) (fun h61 => ?_) (fun h61 => ?_)
              · skip
                refine q_iincE dX5_turnAll_89 hl11 (by decide) (by decide) (by intro j1 j2; exact om_c1b4185f g14 b21.2 b21.1 h22 j2) ?_
                intro v62 h63
                refine tr_goto 5 dX5_turnAll_92 (by decide) ?_
                exact ih15 _ v5 v62 I12 hl7 hl8 hl9 hl10 rfl hS13 (by exact om_68881c41 g14 h63) (by exact om_031a9b52 g14 hm15 b21.2 b21.1 h22 h52 h63)
              · skip
                refine tr_iload_n dX5_turnAll_76 hl10 ?_
                refine tr_aload_n dX5_turnAll_77 hl7 ?_
                refine tr_iload dX5_turnAll_78 hl11 ?_
                refine tr_iload_n dX5_turnAll_80 hl8 ?_
                refine tr_iload dX5_turnAll_81 rfl ?_
                refine tr_iload_n dX5_turnAll_83 hl10 ?_
                refine q_callVi hE (M' := mX5_turnSome) (as := [_, _, _, _]) dX5_turnAll_84 lk5_103 inX5_turnSome seX5_turnSome myX5_turnSome (by decide) ⟨by decide, by decide⟩ rfl (kR13 hS13.1 ta0) (Nat.le_of_ble_eq_true rfl) rfl rfl (by decide) (by decide) (k_X5_turnSome hS13.1 ta0 (by exact om_270ffb5e g14 b21.2 b21.1 h22) (by exact om_87537644 hx1)) ?_
                rintro v68 cn' K' N' I64 R65 L66 ⟨rfl, rfl, rfl, rfl, rfl, g67, -⟩
                have hS69 := hS13.tr g67 (by decide +kernel) (by decide +kernel)
                refine q_ior dX5_turnAll_87 ?_
                intro v70
                refine tr_istore_n dX5_turnAll_88 (by decide) (by decide) ?_
                refine q_iincE dX5_turnAll_89 hl11 (by decide) (by decide) (by intro j1 j2; exact om_c1b4185f g14 b21.2 b21.1 h22 j2) ?_
                intro v71 h72
                refine tr_goto 5 dX5_turnAll_92 (by decide) ?_
                exact ih15 _ v70 v71 I64 hl7 hl8 hl9 rfl rfl hS69 (by exact om_68881c41 g14 h72) (by exact om_e4b7948c g14 hm15 b21.2 b21.1 h22 h52 h60.2 h60.1 h61 h72)
  exact lp15 _ _ v1 v3 I0 rfl rfl rfl rfl rfl hS0 (by exact om_d99fa9e4 h4) (Nat.lt_succ_self _)
set_option maxHeartbeats 4000000 in
theorem k_X8_crackingHuts {l : Launch} {T : Nat → Nat} {cn : Nat} {K N : Nat → Nat} {I0 : cz_I} {R0 : cz_R} {L0 : cz_L} {d : Int} (hW0 : Wf T cn K N I0 R0 d) {a0 : Nat} (ta0 : T a0 = 12) {x1 : Int32} (hx1 : 0 ≤ x1.toInt ∧ x1.toInt ≤ 239) : ConE l mX8_crackingHuts [.ref a0, .int x1] cn K N I0 R0 L0 (ca_i (fun v cn' K' N' I' R' L' => cn = cn' ∧ K = K' ∧ N = N' ∧ I0 = I' ∧ R0 = R' ∧ L0 = L' ∧ True)) := by
  refine ConE.of (by decide +kernel) rfl (Nat.le_of_ble_eq_true rfl) rfl (fun X hX hZ hE => ?_)
  subst hX
  refine tr_aload_n dX8_crackingHuts_0 rfl ?_
  obtain ⟨a1, d2, ta1⟩ := rf12_3 hW0 ta0
  refine tr_getR dX8_crackingHuts_1 fl8_15 (kR12 hW0 ta0) d2 ?_
  refine tr_iload_n dX8_crackingHuts_4 rfl ?_
  refine q_zald dX8_crackingHuts_5 (kR36 hW0 ta1) (ti_in (nR36 hW0 ta1) (by exact om_2ab23ca2 hx1.2 hx1.1) (by exact om_c695125b hx1.2 hx1.1)) ?_
  intro v3 c4
  have b5 := iv36 hW0 ta1 c4
  refine q_if_eq 34 dX8_crackingHuts_6 (by decide) (fun h6 => ?_) (fun h6 => ?_)
  · skip
    refine q_iconst dX8_crackingHuts_34 (by decide) ?_
    intro v7 h8
    exact tr_iret hZ dX8_crackingHuts_35 rfl (by decide) (by decide) ⟨v7, rfl, rfl, rfl, rfl, rfl, rfl, rfl, trivial⟩
  · skip
    refine tr_aload_n dX8_crackingHuts_9 rfl ?_
    obtain ⟨a9, d10, ta9⟩ := rf12_2 hW0 ta0
    refine tr_getR dX8_crackingHuts_10 fl8_9 (kR12 hW0 ta0) d10 ?_
    refine tr_iload_n dX8_crackingHuts_13 rfl ?_
    refine q_zald dX8_crackingHuts_14 (kR35 hW0 ta9) (ti_in (nR35 hW0 ta9) (by exact om_2ab23ca2 hx1.2 hx1.1) (by exact om_c695125b hx1.2 hx1.1)) ?_
    intro v11 c12
    have b13 := iv35 hW0 ta9 c12
    refine q_if_ne 34 dX8_crackingHuts_15 (by decide) (fun h14 => ?_) (fun h14 => ?_)
    · skip
      refine q_iconst dX8_crackingHuts_34 (by decide) ?_
      intro v15 h16
      exact tr_iret hZ dX8_crackingHuts_35 rfl (by decide) (by decide) ⟨v15, rfl, rfl, rfl, rfl, rfl, rfl, rfl, trivial⟩
    · skip
      refine tr_aload_n dX8_crackingHuts_18 rfl ?_
      obtain ⟨v17, c18⟩ : ∃ v, I0 a0 1 = v := ⟨_, rfl⟩
      refine q_getI dX8_crackingHuts_19 fl8_50 (kR12 hW0 ta0) c18 ?_
      refine tr_aload_n dX8_crackingHuts_22 rfl ?_
      obtain ⟨a19, d20, ta19⟩ := rf12_5 hW0 ta0
      refine tr_getR dX8_crackingHuts_23 fl8_21 (kR12 hW0 ta0) d20 ?_
      refine tr_iload_n dX8_crackingHuts_26 rfl ?_
      refine q_iald dX8_crackingHuts_27 (kR38 hW0 ta19) (ti_in (nR38 hW0 ta19) (by exact om_2ab23ca2 hx1.2 hx1.1) (by exact om_c695125b hx1.2 hx1.1)) ?_
      intro v21 c22
      refine q_iconst dX8_crackingHuts_28 (by decide) ?_
      intro v23 h24
      refine q_ixor dX8_crackingHuts_29 ?_
      intro v25
      refine q_iand dX8_crackingHuts_30 ?_
      intro v26
      refine tr_goto 35 dX8_crackingHuts_31 (by decide) ?_
      exact tr_iret hZ dX8_crackingHuts_35 rfl (by decide) (by decide) ⟨v26, rfl, rfl, rfl, rfl, rfl, rfl, rfl, trivial⟩
def wi_X5_judge : List Nat := [2943, 3007, 3071, 3135]
def wr_X5_judge : List Nat := []
set_option maxHeartbeats 4000000 in
theorem k_X5_judge {l : Launch} {T : Nat → Nat} {cn : Nat} {K N : Nat → Nat} {I0 : cz_I} {R0 : cz_R} {L0 : cz_L} {d : Int} (hW0 : Wf T cn K N I0 R0 d) {a0 : Nat} (ta0 : T a0 = 13) {x1 : Int32} (hx1 : 0 ≤ x1.toInt ∧ x1.toInt ≤ 239) {x2 : Int32} {x3 : Int32} : ConE l mX5_judge [.ref a0, .int x1, .int x2, .int x3] cn K N I0 R0 L0 (ca_v (fun cn' K' N' I' R' L' => cn = cn' ∧ K = K' ∧ N = N' ∧ R0 = R' ∧ L0 = L' ∧ St T cn K N d wi_X5_judge wr_X5_judge I0 R0 I' R0 ∧ True)) := by
  refine ConE.of (by decide +kernel) rfl (Nat.le_of_ble_eq_true rfl) rfl (fun X hX hZ hE => ?_)
  subst hX
  have hS0 : St T cn K N d wi_X5_judge wr_X5_judge I0 R0 I0 R0 := St.rf0 hW0
  refine tr_aload_n dX5_judge_0 rfl ?_
  obtain ⟨a1, d2, ta1⟩ := rf13_1 hW0 ta0
  refine tr_getR dX5_judge_1 fl5_43 (kR13 hS0.1 ta0) d2 ?_
  refine tr_iload_n dX5_judge_4 rfl ?_
  refine q_callVi hE (M' := mX8_crackingHuts) (as := [_]) dX5_judge_5 lk5_121 inX8_crackingHuts seX8_crackingHuts myX8_crackingHuts (by decide) ⟨by decide, by decide⟩ rfl (kR12 hS0.1 ta1) (Nat.le_of_ble_eq_true rfl) rfl rfl (by decide) (by decide) (k_X8_crackingHuts hS0.1 ta1 (by exact om_87537644 hx1)) ?_
  rintro v7 cn' K' N' I3 R4 L5 ⟨rfl, rfl, rfl, rfl, rfl, rfl, -⟩
  refine tr_istore dX5_judge_8 (by decide) (by decide) ?_
  refine q_iconst dX5_judge_10 (by decide) ?_
  intro v8 h9
  refine tr_istore dX5_judge_11 (by decide) (by decide) ?_
  have lp20 : ∀ (fu : Nat) (ls : Nat → Option Value) (v10 : Int32) (I17 : cz_I), ls 0 = some (.ref a0) → ls 1 = some (.int x1) → ls 2 = some (.int x2) → ls 3 = some (.int x3) → ls 4 = some (.int v7) → ls 5 = some (.int v10) → St T cn K N d wi_X5_judge wr_X5_judge I0 R0 I17 R0 → 0 ≤ v10.toInt → (-v10.toInt + 2147483647).toNat < fu → Tr X mX5_judge 13 ls [] cn K N I17 R0 L0 0 0 := by
    intro fu
    induction fu with
    | zero => intros; rename_i hz; exact absurd hz (Nat.not_lt_zero _)
    | succ fu ih20 =>
      intro ls v10 I17 hl11 hl12 hl13 hl14 hl15 hl16 hS18 g19 hm20
      refine tr_iload dX5_judge_13 hl16 ?_
      refine tr_aload_n dX5_judge_15 hl11 ?_
      obtain ⟨a22, d23, ta22⟩ := rf13_0 hW0 ta0
      refine tr_getR dX5_judge_16 fl5_39 (kR13 hS18.1 ta0) d23 ?_
      obtain ⟨v24, c25⟩ : ∃ v, I0 a22 5 = v := ⟨_, rfl⟩
      have b26 := iv2_5 hW0 ta22 c25
      refine q_getI dX5_judge_19 fl5_107 (kR2 hS18.1 ta22) ((hS18.cell ta22 (by decide +kernel)).trans c25) ?_
      refine q_icmp_ge 140 dX5_judge_22 (by decide) (fun h27 => ?_) (fun h27 => ?_)
      · skip
        exact tr_vret hZ dX5_judge_140 rfl (by decide) (by decide) ⟨rfl, rfl, rfl, rfl, rfl, rfl, hS18, trivial⟩
      · skip
        refine tr_aload_n dX5_judge_25 hl11 ?_
        refine tr_getR dX5_judge_26 fl5_39 (kR13 hS18.1 ta0) d23 ?_
        obtain ⟨a28, d29, ta28⟩ := rf2_6 hW0 ta22
        refine tr_getR dX5_judge_29 fl5_112 (kR2 hS18.1 ta22) d29 ?_
        refine tr_iload dX5_judge_32 hl16 ?_
        refine q_iald dX5_judge_34 (kR20 hS18.1 ta28) (ti_in (nR20 hS18.1 ta28) (by exact om_2cfcd5a5 g19) (by exact om_5f13cc30 b26.2 b26.1 h27)) ?_
        intro v30 c31
        refine tr_istore dX5_judge_35 (by decide) (by decide) ?_
        refine tr_aload_n dX5_judge_37 hl11 ?_
        refine tr_getR dX5_judge_38 fl5_43 (kR13 hS18.1 ta0) d2 ?_
        obtain ⟨a32, d33, ta32⟩ := rf12_8 hW0 ta1
        refine tr_getR dX5_judge_41 fl5_115 (kR12 hS18.1 ta1) d33 ?_
        refine tr_iload_n dX5_judge_44 hl12 ?_
        refine q_iald dX5_judge_45 (kR41 hS18.1 ta32) (ti_in (nR41 hS18.1 ta32) (by exact om_2ab23ca2 hx1.2 hx1.1) (by exact om_c695125b hx1.2 hx1.1)) ?_
        intro v34 c35
        refine tr_iload dX5_judge_46 rfl ?_
        refine q_callSNi hE (M' := mX10_bit) (as := [_, _]) dX5_judge_48 lk5_84 inX10_bit myX10_bit ⟨by decide, by decide⟩ rfl (Nat.le_of_ble_eq_true rfl) rfl rfl (by decide) (by decide) (k_X10_bit hS18.1 ) ?_
        rintro v40 cn' K' N' I36 R37 L38 ⟨rfl, rfl, rfl, rfl, rfl, rfl, -⟩
        refine tr_istore dX5_judge_51 (by decide) (by decide) ?_
        refine tr_iload_n dX5_judge_53 hl13 ?_
        refine tr_iload dX5_judge_54 hl16 ?_
        refine q_callSNi hE (M' := mX10_bit) (as := [_, _]) dX5_judge_56 lk5_84 inX10_bit myX10_bit ⟨by decide, by decide⟩ rfl (Nat.le_of_ble_eq_true rfl) rfl rfl (by decide) (by decide) (k_X10_bit hS18.1 ) ?_
        rintro v45 cn' K' N' I41 R42 L43 ⟨rfl, rfl, rfl, rfl, rfl, rfl, -⟩
        refine tr_istore dX5_judge_59 (by decide) (by decide) ?_
        refine tr_aload_n dX5_judge_61 hl11 ?_
        obtain ⟨a46, d47, ta46⟩ := rf13_4 hW0 ta0
        refine tr_getR dX5_judge_62 fl5_15 (kR13 hS18.1 ta0) d47 ?_
        refine tr_iload dX5_judge_65 hl16 ?_
        refine tr_dup2 dX5_judge_67 rfl rfl ?_
        refine q_iald dX5_judge_68 (kR45 hS18.1 ta46) (ti_in (nR45 hS18.1 ta46) (by exact om_2cfcd5a5 g19) (by exact om_5f13cc30 b26.2 b26.1 h27)) ?_
        intro v48 c49
        refine tr_iload dX5_judge_69 rfl ?_
        refine tr_iload dX5_judge_71 rfl ?_
        refine q_iand dX5_judge_73 ?_
        intro v50
        refine q_iadd dX5_judge_74 ?_
        intro v51
        refine q_iast dX5_judge_75 (kR45 hS18.1 ta46) (ti_in (nR45 hS18.1 ta46) (by exact om_2cfcd5a5 g19) (by exact om_5f13cc30 b26.2 b26.1 h27)) hS18 ta46 (iokF rfl) rfl (by rfl) ?_
        intro I52 hS53 e55 f54
        refine tr_aload_n dX5_judge_76 hl11 ?_
        obtain ⟨a56, d57, ta56⟩ := rf13_5 hW0 ta0
        refine tr_getR dX5_judge_77 fl5_18 (kR13 hS53.1 ta0) d57 ?_
        refine tr_iload dX5_judge_80 hl16 ?_
        refine tr_dup2 dX5_judge_82 rfl rfl ?_
        refine q_iald dX5_judge_83 (kR46 hS53.1 ta56) (ti_in (nR46 hS53.1 ta56) (by exact om_2cfcd5a5 g19) (by exact om_5f13cc30 b26.2 b26.1 h27)) ?_
        intro v58 c59
        refine tr_iload dX5_judge_84 rfl ?_
        refine tr_iload dX5_judge_86 rfl ?_
        refine q_iconst dX5_judge_88 (by decide) ?_
        intro v60 h61
        refine q_ixor dX5_judge_89 ?_
        intro v62
        refine q_iand dX5_judge_90 ?_
        intro v63
        refine q_iadd dX5_judge_91 ?_
        intro v64
        refine q_iast dX5_judge_92 (kR46 hS53.1 ta56) (ti_in (nR46 hS53.1 ta56) (by exact om_2cfcd5a5 g19) (by exact om_5f13cc30 b26.2 b26.1 h27)) hS53 ta56 (iokF rfl) rfl (by rfl) ?_
        intro I65 hS66 e68 f67
        refine tr_aload_n dX5_judge_93 hl11 ?_
        obtain ⟨a69, d70, ta69⟩ := rf13_6 hW0 ta0
        refine tr_getR dX5_judge_94 fl5_21 (kR13 hS66.1 ta0) d70 ?_
        refine tr_iload dX5_judge_97 hl16 ?_
        refine tr_dup2 dX5_judge_99 rfl rfl ?_
        refine q_iald dX5_judge_100 (kR47 hS66.1 ta69) (ti_in (nR47 hS66.1 ta69) (by exact om_2cfcd5a5 g19) (by exact om_5f13cc30 b26.2 b26.1 h27)) ?_
        intro v71 c72
        refine tr_iload dX5_judge_101 rfl ?_
        refine tr_iload dX5_judge_103 rfl ?_
        refine q_iconst dX5_judge_105 (by decide) ?_
        intro v73 h74
        refine q_ixor dX5_judge_106 ?_
        intro v75
        refine q_iand dX5_judge_107 ?_
        intro v76
        refine q_iadd dX5_judge_108 ?_
        intro v77
        refine q_iast dX5_judge_109 (kR47 hS66.1 ta69) (ti_in (nR47 hS66.1 ta69) (by exact om_2cfcd5a5 g19) (by exact om_5f13cc30 b26.2 b26.1 h27)) hS66 ta69 (iokF rfl) rfl (by rfl) ?_
        intro I78 hS79 e81 f80
        refine tr_aload_n dX5_judge_110 hl11 ?_
        obtain ⟨a82, d83, ta82⟩ := rf13_7 hW0 ta0
        refine tr_getR dX5_judge_111 fl5_24 (kR13 hS79.1 ta0) d83 ?_
        refine tr_iload dX5_judge_114 hl16 ?_
        refine tr_dup2 dX5_judge_116 rfl rfl ?_
        refine q_iald dX5_judge_117 (kR48 hS79.1 ta82) (ti_in (nR48 hS79.1 ta82) (by exact om_2cfcd5a5 g19) (by exact om_5f13cc30 b26.2 b26.1 h27)) ?_
        intro v84 c85
        refine tr_iload_n dX5_judge_118 hl14 ?_
        refine tr_iload dX5_judge_119 hl16 ?_
        refine q_callSNi hE (M' := mX10_bit) (as := [_, _]) dX5_judge_121 lk5_84 inX10_bit myX10_bit ⟨by decide, by decide⟩ rfl (Nat.le_of_ble_eq_true rfl) rfl rfl (by decide) (by decide) (k_X10_bit hS79.1 ) ?_
        rintro v90 cn' K' N' I86 R87 L88 ⟨rfl, rfl, rfl, rfl, rfl, rfl, -⟩
        refine tr_iload dX5_judge_124 hl15 ?_
        refine tr_iload dX5_judge_126 rfl ?_
        refine q_callSNi hE (M' := mX10_bit) (as := [_, _]) dX5_judge_128 lk5_84 inX10_bit myX10_bit ⟨by decide, by decide⟩ rfl (Nat.le_of_ble_eq_true rfl) rfl rfl (by decide) (by decide) (k_X10_bit hS79.1 ) ?_
        rintro v95 cn' K' N' I91 R92 L93 ⟨rfl, rfl, rfl, rfl, rfl, rfl, -⟩
        refine q_iand dX5_judge_131 ?_
        intro v96
        refine q_iadd dX5_judge_132 ?_
        intro v97
        refine q_iast dX5_judge_133 (kR48 hS79.1 ta82) (ti_in (nR48 hS79.1 ta82) (by exact om_2cfcd5a5 g19) (by exact om_5f13cc30 b26.2 b26.1 h27)) hS79 ta82 (iokF rfl) rfl (by rfl) ?_
        intro I98 hS99 e101 f100
        refine q_iincE dX5_judge_134 hl16 (by decide) (by decide) (by intro j1 j2; exact om_4034714d g19 b26.2 b26.1 h27 j2) ?_
        intro v102 h103
        refine tr_goto 13 dX5_judge_137 (by decide) ?_
        exact ih20 _ v102 I98 hl11 hl12 hl13 hl14 hl15 rfl hS99 (by exact om_68881c41 g19 h103) (by exact om_fc025699 g19 hm20 b26.2 b26.1 h27 h103)
  exact lp20 _ _ v8 I0 rfl rfl rfl rfl rfl rfl hS0 (by exact om_d99fa9e4 h9) (Nat.lt_succ_self _)
def wi_X5_play : List Nat := [834, 2879, 2943, 3007, 3071, 3135, 3199, 3263, 3327, 3391]
def wr_X5_play : List Nat := [832, 833]
set_option maxHeartbeats 4000000 in
theorem k_X5_play {l : Launch} {T : Nat → Nat} {cn : Nat} {K N : Nat → Nat} {I0 : cz_I} {R0 : cz_R} {L0 : cz_L} {d : Int} (hW0 : Wf T cn K N I0 R0 d) {a0 : Nat} (ta0 : T a0 = 13) {a1 : Nat} (ta1 : T a1 = 2) {a2 : Nat} (ta2 : T a2 = 12) {x3 : Int32} {x4 : Int32} : ConE l mX5_play [.ref a0, .ref a1, .ref a2, .int x3, .int x4] cn K N I0 R0 L0 (ca_v (fun cn' K' N' I' R' L' => cn = cn' ∧ K = K' ∧ N = N' ∧ L0 = L' ∧ St T cn K N d wi_X5_play wr_X5_play I0 R0 I' R' ∧ True)) := by
  refine ConE.of (by decide +kernel) rfl (Nat.le_of_ble_eq_true rfl) rfl (fun X hX hZ hE => ?_)
  subst hX
  have hS0 : St T cn K N d wi_X5_play wr_X5_play I0 R0 I0 R0 := St.rf0 hW0
  refine tr_aload_n dX5_play_0 rfl ?_
  refine tr_aload_n dX5_play_1 rfl ?_
  refine q_putR dX5_play_2 fl5_39 (kR13 hS0.1 ta0) (Or.inl rfl) hS0 ta0 (okR_in rfl rfl ta1) rfl (by decide +kernel) ?_
  intro R1 hS2 e3 f4
  refine tr_aload_n dX5_play_5 rfl ?_
  refine tr_aload_n dX5_play_6 rfl ?_
  refine q_putR dX5_play_7 fl5_43 (kR13 hS2.1 ta0) (Or.inl rfl) hS2 ta0 (okR_in rfl rfl ta2) rfl (by decide +kernel) ?_
  intro R5 hS6 e7 f8
  have d9 : R5 a0 0 = some a1 := (f8 _ _ (fun q => absurd q.2 (by decide))).trans e3
  refine tr_aload_n dX5_play_10 rfl ?_
  refine tr_iload_n dX5_play_11 rfl ?_
  refine q_putI dX5_play_12 fl5_47 (kR13 hS6.1 ta0) (Or.inl rfl) hS6 ta0 (iokF rfl) rfl (by decide +kernel) ?_
  intro I10 hS11 e12 f13
  refine tr_aload_n dX5_play_15 rfl ?_
  refine q_callVv hE (M' := mX5_forget) (as := []) dX5_play_16 lk5_51 inX5_forget seX5_forget myX5_forget (by decide) ⟨by decide, by decide⟩ rfl (kR13 hS11.1 ta0) (Nat.le_of_ble_eq_true rfl) rfl rfl (by decide) (by decide) (k_X5_forget hS11.1 ta0) ?_
  rintro cn' K' N' I14 R15 L16 ⟨rfl, rfl, rfl, rfl, rfl, g17, -⟩
  have hS19 := hS11.tr g17 (by decide +kernel) (by decide +kernel)
  have c20 : I14 a0 2 = x3 := (g17.cell ta0 (by decide +kernel)).trans e12
  refine tr_aload_n dX5_play_19 rfl ?_
  refine tr_getR dX5_play_20 fl5_39 (kR13 hS19.1 ta0) d9 ?_
  obtain ⟨v21, c22⟩ : ∃ v, I0 a1 7 = v := ⟨_, rfl⟩
  refine q_getI dX5_play_23 fl5_54 (kR2 hS19.1 ta1) ((hS19.cell ta1 (by decide +kernel)).trans c22) ?_
  refine tr_istore dX5_play_26 (by decide) (by decide) ?_
  refine q_iconst dX5_play_28 (by decide) ?_
  intro v23 h24
  refine tr_istore dX5_play_29 (by decide) (by decide) ?_
  have lp38 : ∀ (fu : Nat) (ls : Nat → Option Value) (v25 : Int32) (v26 : Int32) (I34 : cz_I) (R35 : cz_R), ls 0 = some (.ref a0) → ls 1 = some (.ref a1) → ls 2 = some (.ref a2) → ls 3 = some (.int x3) → ls 4 = some (.int x4) → ls 5 = some (.int v25) → ls 6 = some (.int v26) → St T cn K N d wi_X5_play wr_X5_play I0 R0 I34 R35 → 0 ≤ v26.toInt → (-v26.toInt + 2147483647).toNat < fu → Tr X mX5_play 31 ls [] cn K N I34 R35 L0 0 0 := by
    intro fu
    induction fu with
    | zero => intros; rename_i hz; exact absurd hz (Nat.not_lt_zero _)
    | succ fu ih38 =>
      intro ls v25 v26 I34 R35 hl27 hl28 hl29 hl30 hl31 hl32 hl33 hS36 g37 hm38
      refine tr_iload dX5_play_31 hl33 ?_
      refine tr_aload_n dX5_play_33 hl27 ?_
      obtain ⟨a40, d41, ta40⟩ := rf13_1 hS36.1 ta0
      refine tr_getR dX5_play_34 fl5_43 (kR13 hS36.1 ta0) d41 ?_
      obtain ⟨v42, c43⟩ : ∃ v, I0 a40 10 = v := ⟨_, rfl⟩
      have b44 := iv12_10 hW0 ta40 c43
      refine q_getI dX5_play_37 fl5_59 (kR12 hS36.1 ta40) ((hS36.cell ta40 (by decide +kernel)).trans c43) ?_
      refine q_icmp_ge 97 dX5_play_40 (by decide) (fun h45 => ?_) (fun h45 => ?_)
      · skip
        exact tr_vret hZ dX5_play_97 rfl (by decide) (by decide) ⟨rfl, rfl, rfl, rfl, rfl, hS36, trivial⟩
      · skip
        refine tr_aload_n dX5_play_43 hl27 ?_
        refine tr_getR dX5_play_44 fl5_43 (kR13 hS36.1 ta0) d41 ?_
        obtain ⟨a46, d47, ta46⟩ := rf12_11 hW0 ta40
        refine tr_getR dX5_play_47 fl5_64 (kR12 hS36.1 ta40) ((hS36.rcell ta40 (by decide +kernel)).trans d47) ?_
        refine tr_iload dX5_play_50 hl33 ?_
        refine q_iald dX5_play_52 (kR43 hS36.1 ta46) (ti_in (nR43 hS36.1 ta46) (by exact om_2cfcd5a5 g37) (by exact om_6fd76572 b44.2 b44.1 h45)) ?_
        intro v48 c49
        have b50 := iv43 hS36.1 ta46 c49
        refine tr_istore dX5_play_53 (by decide) (by decide) ?_
        refine tr_iload dX5_play_55 rfl ?_
        refine q_if_ne 64 dX5_play_57 (by decide) (fun h51 => ?_) (fun h51 => ?_)
        · skip
          refine tr_aload_n dX5_play_64 hl27 ?_
          refine tr_iload dX5_play_65 rfl ?_
          refine tr_iload dX5_play_67 hl31 ?_
          refine q_callVi hE (M' := mX5_turnAll) (as := [_, _]) dX5_play_69 lk5_67 inX5_turnAll seX5_turnAll myX5_turnAll (by decide) ⟨by decide, by decide⟩ rfl (kR13 hS36.1 ta0) (Nat.le_of_ble_eq_true rfl) rfl rfl (by decide) (by decide) (k_X5_turnAll hS36.1 ta0 (by exact om_87537644 b50)) ?_
          rintro v56 cn' K' N' I52 R53 L54 ⟨rfl, rfl, rfl, rfl, rfl, g55, -⟩
          have hS57 := hS36.tr g55 (by decide +kernel) (by decide +kernel)
          refine tr_istore dX5_play_72 (by decide) (by decide) ?_
          refine tr_iload dX5_play_74 hl32 ?_
          refine tr_iload dX5_play_76 rfl ?_
          refine q_ixor dX5_play_78 ?_
          intro v58
          refine tr_istore dX5_play_79 (by decide) (by decide) ?_
          refine tr_aload_n dX5_play_81 hl27 ?_
          refine tr_iload dX5_play_82 rfl ?_
          refine tr_iload dX5_play_84 rfl ?_
          refine tr_iload dX5_play_86 rfl ?_
          refine q_callVv hE (M' := mX5_judge) (as := [_, _, _]) dX5_play_88 lk5_71 inX5_judge seX5_judge myX5_judge (by decide) ⟨by decide, by decide⟩ rfl (kR13 hS57.1 ta0) (Nat.le_of_ble_eq_true rfl) rfl rfl (by decide) (by decide) (k_X5_judge hS57.1 ta0 (by exact om_87537644 b50)) ?_
          rintro cn' K' N' I59 R60 L61 ⟨rfl, rfl, rfl, rfl, rfl, g62, -⟩
          have hS64 := hS57.tr g62 (by decide +kernel) (by decide +kernel)
          refine q_iincE dX5_play_91 hl33 (by decide) (by decide) (by intro j1 j2; exact om_c21242c3 g37 b44.2 b44.1 h45 j2) ?_
          intro v65 h66
          refine tr_goto 31 dX5_play_94 (by decide) ?_
          exact ih38 _ v58 v65 I59 R35 hl27 hl28 hl29 hl30 hl31 rfl rfl hS64 (by exact om_68881c41 g37 h66) (by exact om_18f4c37a g37 hm38 b44.2 b44.1 h45 b50.2 b50.1 h51 h66)
        · skip
          refine q_iconst dX5_play_60 (by decide) ?_
          intro v67 h68
          refine tr_goto 72 dX5_play_61 (by decide) ?_
          refine tr_istore dX5_play_72 (by decide) (by decide) ?_
          refine tr_iload dX5_play_74 hl32 ?_
          refine tr_iload dX5_play_76 rfl ?_
          refine q_ixor dX5_play_78 ?_
          intro v69
          refine tr_istore dX5_play_79 (by decide) (by decide) ?_
          refine tr_aload_n dX5_play_81 hl27 ?_
          refine tr_iload dX5_play_82 rfl ?_
          refine tr_iload dX5_play_84 rfl ?_
          refine tr_iload dX5_play_86 rfl ?_
          refine q_callVv hE (M' := mX5_judge) (as := [_, _, _]) dX5_play_88 lk5_71 inX5_judge seX5_judge myX5_judge (by decide) ⟨by decide, by decide⟩ rfl (kR13 hS36.1 ta0) (Nat.le_of_ble_eq_true rfl) rfl rfl (by decide) (by decide) (k_X5_judge hS36.1 ta0 (by exact om_87537644 b50)) ?_
          rintro cn' K' N' I70 R71 L72 ⟨rfl, rfl, rfl, rfl, rfl, g73, -⟩
          have hS75 := hS36.tr g73 (by decide +kernel) (by decide +kernel)
          refine q_iincE dX5_play_91 hl33 (by decide) (by decide) (by intro j1 j2; exact om_c21242c3 g37 b44.2 b44.1 h45 j2) ?_
          intro v76 h77
          refine tr_goto 31 dX5_play_94 (by decide) ?_
          exact ih38 _ v69 v76 I70 R35 hl27 hl28 hl29 hl30 hl31 rfl rfl hS75 (by exact om_68881c41 g37 h77) (by exact om_c0b231d9 g37 hm38 b44.2 b44.1 h45 h77)
  exact lp38 _ _ v21 v23 I14 R5 rfl rfl rfl rfl rfl rfl rfl hS19 (by exact om_d99fa9e4 h24) (Nat.lt_succ_self _)
def wi_X10_presentNight : List Nat := [73, 75, 768, 769, 778, 834, 2303, 2367, 2431, 2495, 2559, 2623, 2687, 2751, 2815, 2879, 2943, 3007, 3071, 3135, 3199, 3263, 3327, 3391]
def wr_X10_presentNight : List Nat := [832, 833]
set_option maxHeartbeats 4000000 in
theorem k_X10_presentNight {l : Launch} {T : Nat → Nat} {cn : Nat} {K N : Nat → Nat} {I0 : cz_I} {R0 : cz_R} {L0 : cz_L} {d : Int} (hW0 : Wf T cn K N I0 R0 d) {a0 : Nat} (ta0 : T a0 = 1) : ConE l mX10_presentNight [.ref a0] cn K N I0 R0 L0 (ca_r (fun v cn' K' N' I' R' L' => cn = cn' ∧ K = K' ∧ N = N' ∧ L0 = L' ∧ St T cn K N d wi_X10_presentNight wr_X10_presentNight I0 R0 I' R' ∧ T v = 13 ∧ True)) := by
  refine ConE.of (by decide +kernel) rfl (Nat.le_of_ble_eq_true rfl) rfl (fun X hX hZ hE => ?_)
  subst hX
  have hS0 : St T cn K N d wi_X10_presentNight wr_X10_presentNight I0 R0 I0 R0 := St.rf0 hW0
  refine tr_aload_n dX10_presentNight_0 rfl ?_
  obtain ⟨v1, c2⟩ : ∃ v, I0 a0 11 = v := ⟨_, rfl⟩
  have b3 := iv1_11 hS0.1 ta0 c2
  refine q_getZ dX10_presentNight_1 fl10_288 (kR1 hS0.1 ta0) c2 ?_
  refine q_if_ne 38 dX10_presentNight_4 (by decide) (fun h4 => ?_) (fun h4 => ?_)
  · skip
    refine tr_aload_n dX10_presentNight_38 rfl ?_
    obtain ⟨a5, d6, ta5⟩ := rf1_10 hW0 ta0
    refine tr_getR dX10_presentNight_39 fl10_58 (kR1 hS0.1 ta0) d6 ?_
    exact tr_aret hZ dX10_presentNight_42 rfl (by decide) (by decide) ⟨a5, rfl, rfl, rfl, rfl, rfl, hS0, ta5, trivial⟩
  · skip
    refine tr_aload_n dX10_presentNight_7 rfl ?_
    obtain ⟨a7, d8, ta7⟩ := rf1_10 hW0 ta0
    refine tr_getR dX10_presentNight_8 fl10_58 (kR1 hS0.1 ta0) d8 ?_
    refine tr_aload_n dX10_presentNight_11 rfl ?_
    obtain ⟨a9, d10, ta9⟩ := rf1_2 hW0 ta0
    refine tr_getR dX10_presentNight_12 fl10_16 (kR1 hS0.1 ta0) d10 ?_
    refine tr_aload_n dX10_presentNight_15 rfl ?_
    refine q_callVr hE (M' := mX10_presentSky) (as := []) dX10_presentNight_16 lk10_119 inX10_presentSky seX10_presentSky myX10_presentSky (by decide) ⟨by decide, by decide⟩ rfl (kR1 hS0.1 ta0) (Nat.le_of_ble_eq_true rfl) rfl rfl (by decide) (by decide) (k_X10_presentSky hS0.1 ta0) ?_
    rintro a15 cn' K' N' I11 R12 L13 ⟨rfl, rfl, rfl, rfl, rfl, g14, ta15, -⟩
    have hS16 := hS0.tr g14 (by decide +kernel) (by decide +kernel)
    have c17 : I11 a0 11 = v1 := (g14.cell ta0 (by decide +kernel)).trans c2
    refine tr_aload_n dX10_presentNight_19 rfl ?_
    obtain ⟨a18, d19, ta18⟩ := rf1_6 hW0 ta0
    refine tr_getR dX10_presentNight_20 fl10_35 (kR1 hS16.1 ta0) d19 ?_
    obtain ⟨v20, c21⟩ : ∃ v, I0 a18 0 = v := ⟨_, rfl⟩
    refine q_getI dX10_presentNight_23 fl10_181 (kR8 hS16.1 ta18) ((hS16.cell ta18 (by decide +kernel)).trans c21) ?_
    refine tr_aload_n dX10_presentNight_26 rfl ?_
    refine q_callVi hE (M' := mX10_allTurners) (as := []) dX10_presentNight_27 lk10_184 inX10_allTurners seX10_allTurners myX10_allTurners (by decide) ⟨by decide, by decide⟩ rfl (kR1 hS16.1 ta0) (Nat.le_of_ble_eq_true rfl) rfl rfl (by decide) (by decide) (k_X10_allTurners hS16.1 ta0) ?_
    rintro v26 cn' K' N' I22 R23 L24 ⟨rfl, rfl, rfl, rfl, rfl, rfl, h27, -⟩
    refine q_callVv hE (M' := mX5_play) (as := [_, _, _, _]) dX10_presentNight_30 lk10_188 inX5_play seX5_play myX5_play (by decide) ⟨by decide, by decide⟩ rfl (kR13 hS16.1 ta7) (Nat.le_of_ble_eq_true rfl) rfl rfl (by decide) (by decide) (k_X5_play hS16.1 ta7 ta9 ta15) ?_
    rintro cn' K' N' I28 R29 L30 ⟨rfl, rfl, rfl, rfl, g31, -⟩
    have hS33 := hS16.tr g31 (by decide +kernel) (by decide +kernel)
    have c34 : I28 a0 11 = v1 := (g31.cell ta0 (by decide +kernel)).trans c17
    refine tr_aload_n dX10_presentNight_33 rfl ?_
    refine q_iconst dX10_presentNight_34 (by decide) ?_
    intro v35 h36
    refine q_putZ dX10_presentNight_35 fl10_288 (kR1 hS33.1 ta0) (Or.inl rfl) hS33 ta0 (by exact om_d753bc65 h36) (by show (0 : Int) ≤ v35.toInt ∧ v35.toInt ≤ (1 : Int); exact om_d753bc65 h36) rfl (by decide +kernel) ?_
    intro I37 hS38 e39 f40
    refine tr_aload_n dX10_presentNight_38 rfl ?_
    refine tr_getR dX10_presentNight_39 fl10_58 (kR1 hS38.1 ta0) ((hS38.rcell ta0 (by decide +kernel)).trans d8) ?_
    exact tr_aret hZ dX10_presentNight_42 rfl (by decide) (by decide) ⟨a7, rfl, rfl, rfl, rfl, rfl, hS38, ta7, trivial⟩
def wi_X10_awake : List Nat := [73, 75, 81, 768, 769, 778, 834, 2303, 2367, 2431, 2495, 2559, 2623, 2687, 2751, 2815, 2879, 2943, 3007, 3071, 3135, 3199, 3263, 3327, 3391]
def wr_X10_awake : List Nat := [832, 833]
set_option maxHeartbeats 4000000 in
theorem k_X10_awake {l : Launch} {T : Nat → Nat} {cn : Nat} {K N : Nat → Nat} {I0 : cz_I} {R0 : cz_R} {L0 : cz_L} {d : Int} (hW0 : Wf T cn K N I0 R0 d) {a0 : Nat} (ta0 : T a0 = 1) {x1 : Int32} {x2 : Int32} : ConE l mX10_awake [.ref a0, .int x1, .int x2] cn K N I0 R0 L0 (ca_i (fun v cn' K' N' I' R' L' => cn = cn' ∧ K = K' ∧ N = N' ∧ L0 = L' ∧ St T cn K N d wi_X10_awake wr_X10_awake I0 R0 I' R' ∧ True)) := by
  refine ConE.of (by decide +kernel) rfl (Nat.le_of_ble_eq_true rfl) rfl (fun X hX hZ hE => ?_)
  subst hX
  have hS0 : St T cn K N d wi_X10_awake wr_X10_awake I0 R0 I0 R0 := St.rf0 hW0
  refine tr_aload_n dX10_awake_0 rfl ?_
  refine tr_iload_n dX10_awake_1 rfl ?_
  refine q_callVi hE (M' := mX10_isTurner) (as := [_]) dX10_awake_2 lk10_152 inX10_isTurner seX10_isTurner myX10_isTurner (by decide) ⟨by decide, by decide⟩ rfl (kR1 hS0.1 ta0) (Nat.le_of_ble_eq_true rfl) rfl rfl (by decide) (by decide) (k_X10_isTurner hS0.1 ta0) ?_
  rintro v5 cn' K' N' I1 R2 L3 ⟨rfl, rfl, rfl, rfl, rfl, rfl, h6, p7, -⟩
  refine q_if_ne 14 dX10_awake_5 (by decide) (fun h8 => ?_) (fun h8 => ?_)
  · skip
    refine tr_aload_n dX10_awake_14 rfl ?_
    refine tr_iload_n dX10_awake_15 rfl ?_
    refine q_callVi hE (M' := mX10_isMinute) (as := [_]) dX10_awake_16 lk10_115 inX10_isMinute seX10_isMinute myX10_isMinute (by decide) ⟨by decide, by decide⟩ rfl (kR1 hS0.1 ta0) (Nat.le_of_ble_eq_true rfl) rfl rfl (by decide) (by decide) (k_X10_isMinute hS0.1 ta0) ?_
    rintro v13 cn' K' N' I9 R10 L11 ⟨rfl, rfl, rfl, rfl, rfl, rfl, h14, p15, -⟩
    refine q_if_ne 28 dX10_awake_19 (by decide) (fun h16 => ?_) (fun h16 => ?_)
    · skip
      refine tr_aload_n dX10_awake_28 rfl ?_
      refine tr_aload_n dX10_awake_29 rfl ?_
      refine q_callVr hE (M' := mX10_presentNight) (as := []) dX10_awake_30 lk10_155 inX10_presentNight seX10_presentNight myX10_presentNight (by decide) ⟨by decide, by decide⟩ rfl (kR1 hS0.1 ta0) (Nat.le_of_ble_eq_true rfl) rfl rfl (by decide) (by decide) (k_X10_presentNight hS0.1 ta0) ?_
      rintro a21 cn' K' N' I17 R18 L19 ⟨rfl, rfl, rfl, rfl, g20, ta21, -⟩
      have hS22 := hS0.tr g20 (by decide +kernel) (by decide +kernel)
      refine tr_iload_n dX10_awake_33 rfl ?_
      refine tr_iload_n dX10_awake_34 rfl ?_
      refine q_callVi hE (M' := mX5_isAwake) (as := [_, _]) dX10_awake_35 lk10_159 inX5_isAwake seX5_isAwake myX5_isAwake (by decide) ⟨by decide, by decide⟩ rfl (kR13 hS22.1 ta21) (Nat.le_of_ble_eq_true rfl) rfl rfl (by decide) (by decide) (k_X5_isAwake hS22.1 ta21 (by exact om_35a92c3d h6.2 h6.1 p7 h8 h14.2 h14.1 p15 h16) (by exact om_ec1a32e4 h14.2 h14.1 p15 h16)) ?_
      rintro v27 cn' K' N' I23 R24 L25 ⟨rfl, rfl, rfl, rfl, rfl, rfl, h28, -⟩
      refine q_if_eq 45 dX10_awake_38 (by decide) (fun h29 => ?_) (fun h29 => ?_)
      · skip
        refine q_iconst dX10_awake_45 (by decide) ?_
        intro v30 h31
        refine q_callVi hE (M' := mX10_answered) (as := [_]) dX10_awake_46 lk10_109 inX10_answered seX10_answered myX10_answered (by decide) ⟨by decide, by decide⟩ rfl (kR1 hS22.1 ta0) (Nat.le_of_ble_eq_true rfl) rfl rfl (by decide) (by decide) (k_X10_answered hS22.1 ta0) ?_
        rintro v36 cn' K' N' I32 R33 L34 ⟨rfl, rfl, rfl, rfl, rfl, g35, -⟩
        have hS37 := hS22.tr g35 (by decide +kernel) (by decide +kernel)
        exact tr_iret hZ dX10_awake_49 rfl (by decide) (by decide) ⟨v36, rfl, rfl, rfl, rfl, rfl, hS37, trivial⟩
      · skip
        refine q_iconst dX10_awake_41 (by decide) ?_
        intro v38 h39
        refine tr_goto 46 dX10_awake_42 (by decide) ?_
        refine q_callVi hE (M' := mX10_answered) (as := [_]) dX10_awake_46 lk10_109 inX10_answered seX10_answered myX10_answered (by decide) ⟨by decide, by decide⟩ rfl (kR1 hS22.1 ta0) (Nat.le_of_ble_eq_true rfl) rfl rfl (by decide) (by decide) (k_X10_answered hS22.1 ta0) ?_
        rintro v44 cn' K' N' I40 R41 L42 ⟨rfl, rfl, rfl, rfl, rfl, g43, -⟩
        have hS45 := hS22.tr g43 (by decide +kernel) (by decide +kernel)
        exact tr_iret hZ dX10_awake_49 rfl (by decide) (by decide) ⟨v44, rfl, rfl, rfl, rfl, rfl, hS45, trivial⟩
    · skip
      refine tr_aload_n dX10_awake_22 rfl ?_
      refine q_iconst dX10_awake_23 (by decide) ?_
      intro v46 h47
      refine q_callVi hE (M' := mX10_refused) (as := [_]) dX10_awake_24 lk10_79 inX10_refused seX10_refused myX10_refused (by decide) ⟨by decide, by decide⟩ rfl (kR1 hS0.1 ta0) (Nat.le_of_ble_eq_true rfl) rfl rfl (by decide) (by decide) (k_X10_refused hS0.1 ta0) ?_
      rintro v52 cn' K' N' I48 R49 L50 ⟨rfl, rfl, rfl, rfl, rfl, g51, -⟩
      have hS53 := hS0.tr g51 (by decide +kernel) (by decide +kernel)
      exact tr_iret hZ dX10_awake_27 rfl (by decide) (by decide) ⟨v52, rfl, rfl, rfl, rfl, rfl, hS53, trivial⟩
  · skip
    refine tr_aload_n dX10_awake_8 rfl ?_
    refine q_iconst dX10_awake_9 (by decide) ?_
    intro v54 h55
    refine q_callVi hE (M' := mX10_refused) (as := [_]) dX10_awake_10 lk10_79 inX10_refused seX10_refused myX10_refused (by decide) ⟨by decide, by decide⟩ rfl (kR1 hS0.1 ta0) (Nat.le_of_ble_eq_true rfl) rfl rfl (by decide) (by decide) (k_X10_refused hS0.1 ta0) ?_
    rintro v60 cn' K' N' I56 R57 L58 ⟨rfl, rfl, rfl, rfl, rfl, g59, -⟩
    have hS61 := hS0.tr g59 (by decide +kernel) (by decide +kernel)
    exact tr_iret hZ dX10_awake_13 rfl (by decide) (by decide) ⟨v60, rfl, rfl, rfl, rfl, rfl, hS61, trivial⟩
def wi_X10_notices : List Nat := [73, 75, 81, 768, 769, 778, 834, 2303, 2367, 2431, 2495, 2559, 2623, 2687, 2751, 2815, 2879, 2943, 3007, 3071, 3135, 3199, 3263, 3327, 3391]
def wr_X10_notices : List Nat := [832, 833]
set_option maxHeartbeats 4000000 in
theorem k_X10_notices {l : Launch} {T : Nat → Nat} {cn : Nat} {K N : Nat → Nat} {I0 : cz_I} {R0 : cz_R} {L0 : cz_L} {d : Int} (hW0 : Wf T cn K N I0 R0 d) {a0 : Nat} (ta0 : T a0 = 1) {x1 : Int32} {x2 : Int32} {x3 : Int32} : ConE l mX10_notices [.ref a0, .int x1, .int x2, .int x3] cn K N I0 R0 L0 (ca_i (fun v cn' K' N' I' R' L' => cn = cn' ∧ K = K' ∧ N = N' ∧ L0 = L' ∧ St T cn K N d wi_X10_notices wr_X10_notices I0 R0 I' R' ∧ True)) := by
  refine ConE.of (by decide +kernel) rfl (Nat.le_of_ble_eq_true rfl) rfl (fun X hX hZ hE => ?_)
  subst hX
  have hS0 : St T cn K N d wi_X10_notices wr_X10_notices I0 R0 I0 R0 := St.rf0 hW0
  refine tr_aload_n dX10_notices_0 rfl ?_
  refine tr_iload_n dX10_notices_1 rfl ?_
  refine q_callVi hE (M' := mX10_isTurner) (as := [_]) dX10_notices_2 lk10_152 inX10_isTurner seX10_isTurner myX10_isTurner (by decide) ⟨by decide, by decide⟩ rfl (kR1 hS0.1 ta0) (Nat.le_of_ble_eq_true rfl) rfl rfl (by decide) (by decide) (k_X10_isTurner hS0.1 ta0) ?_
  rintro v5 cn' K' N' I1 R2 L3 ⟨rfl, rfl, rfl, rfl, rfl, rfl, h6, p7, -⟩
  refine q_if_eq 16 dX10_notices_5 (by decide) (fun h8 => ?_) (fun h8 => ?_)
  · skip
    refine tr_aload_n dX10_notices_16 rfl ?_
    refine q_iconst dX10_notices_17 (by decide) ?_
    intro v9 h10
    refine q_callVi hE (M' := mX10_refused) (as := [_]) dX10_notices_18 lk10_79 inX10_refused seX10_refused myX10_refused (by decide) ⟨by decide, by decide⟩ rfl (kR1 hS0.1 ta0) (Nat.le_of_ble_eq_true rfl) rfl rfl (by decide) (by decide) (k_X10_refused hS0.1 ta0) ?_
    rintro v15 cn' K' N' I11 R12 L13 ⟨rfl, rfl, rfl, rfl, rfl, g14, -⟩
    have hS16 := hS0.tr g14 (by decide +kernel) (by decide +kernel)
    exact tr_iret hZ dX10_notices_21 rfl (by decide) (by decide) ⟨v15, rfl, rfl, rfl, rfl, rfl, hS16, trivial⟩
  · skip
    refine tr_aload_n dX10_notices_8 rfl ?_
    refine tr_iload_n dX10_notices_9 rfl ?_
    refine q_callVi hE (M' := mX10_isHut) (as := [_]) dX10_notices_10 lk10_126 inX10_isHut seX10_isHut myX10_isHut (by decide) ⟨by decide, by decide⟩ rfl (kR1 hS0.1 ta0) (Nat.le_of_ble_eq_true rfl) rfl rfl (by decide) (by decide) (k_X10_isHut hS0.1 ta0) ?_
    rintro v21 cn' K' N' I17 R18 L19 ⟨rfl, rfl, rfl, rfl, rfl, rfl, h22, -⟩
    refine q_if_ne 22 dX10_notices_13 (by decide) (fun h23 => ?_) (fun h23 => ?_)
    · skip
      refine tr_aload_n dX10_notices_22 rfl ?_
      refine tr_iload_n dX10_notices_23 rfl ?_
      refine q_callVi hE (M' := mX10_isMinute) (as := [_]) dX10_notices_24 lk10_115 inX10_isMinute seX10_isMinute myX10_isMinute (by decide) ⟨by decide, by decide⟩ rfl (kR1 hS0.1 ta0) (Nat.le_of_ble_eq_true rfl) rfl rfl (by decide) (by decide) (k_X10_isMinute hS0.1 ta0) ?_
      rintro v28 cn' K' N' I24 R25 L26 ⟨rfl, rfl, rfl, rfl, rfl, rfl, h29, p30, -⟩
      refine q_if_ne 36 dX10_notices_27 (by decide) (fun h31 => ?_) (fun h31 => ?_)
      · skip
        refine tr_aload_n dX10_notices_36 rfl ?_
        refine tr_aload_n dX10_notices_37 rfl ?_
        refine q_callVr hE (M' := mX10_presentNight) (as := []) dX10_notices_38 lk10_155 inX10_presentNight seX10_presentNight myX10_presentNight (by decide) ⟨by decide, by decide⟩ rfl (kR1 hS0.1 ta0) (Nat.le_of_ble_eq_true rfl) rfl rfl (by decide) (by decide) (k_X10_presentNight hS0.1 ta0) ?_
        rintro a36 cn' K' N' I32 R33 L34 ⟨rfl, rfl, rfl, rfl, g35, ta36, -⟩
        have hS37 := hS0.tr g35 (by decide +kernel) (by decide +kernel)
        refine tr_iload_n dX10_notices_41 rfl ?_
        refine tr_iload_n dX10_notices_42 rfl ?_
        refine q_callVi hE (M' := mX5_noticedHuts) (as := [_, _]) dX10_notices_43 lk10_163 inX5_noticedHuts seX5_noticedHuts myX5_noticedHuts (by decide) ⟨by decide, by decide⟩ rfl (kR13 hS37.1 ta36) (Nat.le_of_ble_eq_true rfl) rfl rfl (by decide) (by decide) (k_X5_noticedHuts hS37.1 ta36 (by exact om_6f120689 h6.2 h6.1 p7 h8 h22.2 h22.1 h23 h29.2 h29.1 p30 h31) (by exact om_ec1a32e4 h29.2 h29.1 p30 h31)) ?_
        rintro v42 cn' K' N' I38 R39 L40 ⟨rfl, rfl, rfl, rfl, rfl, rfl, -⟩
        refine tr_iload_n dX10_notices_46 rfl ?_
        refine q_callSi hE (M' := mX10_bit) (as := [_, _]) dX10_notices_47 lk10_136 inX10_bit myX10_bit ⟨by decide, by decide⟩ rfl (Nat.le_of_ble_eq_true rfl) rfl rfl (by decide) (by decide) (k_X10_bit hS37.1 ) ?_
        rintro v47 cn' K' N' I43 R44 L45 ⟨rfl, rfl, rfl, rfl, rfl, rfl, -⟩
        refine q_callVi hE (M' := mX10_answered) (as := [_]) dX10_notices_50 lk10_109 inX10_answered seX10_answered myX10_answered (by decide) ⟨by decide, by decide⟩ rfl (kR1 hS37.1 ta0) (Nat.le_of_ble_eq_true rfl) rfl rfl (by decide) (by decide) (k_X10_answered hS37.1 ta0) ?_
        rintro v52 cn' K' N' I48 R49 L50 ⟨rfl, rfl, rfl, rfl, rfl, g51, -⟩
        have hS53 := hS37.tr g51 (by decide +kernel) (by decide +kernel)
        exact tr_iret hZ dX10_notices_53 rfl (by decide) (by decide) ⟨v52, rfl, rfl, rfl, rfl, rfl, hS53, trivial⟩
      · skip
        refine tr_aload_n dX10_notices_30 rfl ?_
        refine q_iconst dX10_notices_31 (by decide) ?_
        intro v54 h55
        refine q_callVi hE (M' := mX10_refused) (as := [_]) dX10_notices_32 lk10_79 inX10_refused seX10_refused myX10_refused (by decide) ⟨by decide, by decide⟩ rfl (kR1 hS0.1 ta0) (Nat.le_of_ble_eq_true rfl) rfl rfl (by decide) (by decide) (k_X10_refused hS0.1 ta0) ?_
        rintro v60 cn' K' N' I56 R57 L58 ⟨rfl, rfl, rfl, rfl, rfl, g59, -⟩
        have hS61 := hS0.tr g59 (by decide +kernel) (by decide +kernel)
        exact tr_iret hZ dX10_notices_35 rfl (by decide) (by decide) ⟨v60, rfl, rfl, rfl, rfl, rfl, hS61, trivial⟩
    · skip
      refine tr_aload_n dX10_notices_16 rfl ?_
      refine q_iconst dX10_notices_17 (by decide) ?_
      intro v62 h63
      refine q_callVi hE (M' := mX10_refused) (as := [_]) dX10_notices_18 lk10_79 inX10_refused seX10_refused myX10_refused (by decide) ⟨by decide, by decide⟩ rfl (kR1 hS0.1 ta0) (Nat.le_of_ble_eq_true rfl) rfl rfl (by decide) (by decide) (k_X10_refused hS0.1 ta0) ?_
      rintro v68 cn' K' N' I64 R65 L66 ⟨rfl, rfl, rfl, rfl, rfl, g67, -⟩
      have hS69 := hS0.tr g67 (by decide +kernel) (by decide +kernel)
      exact tr_iret hZ dX10_notices_21 rfl (by decide) (by decide) ⟨v68, rfl, rfl, rfl, rfl, rfl, hS69, trivial⟩
set_option maxHeartbeats 4000000 in
theorem k_X5_minutesAwake {l : Launch} {T : Nat → Nat} {cn : Nat} {K N : Nat → Nat} {I0 : cz_I} {R0 : cz_R} {L0 : cz_L} {d : Int} (hW0 : Wf T cn K N I0 R0 d) {a0 : Nat} (ta0 : T a0 = 13) {x1 : Int32} (hx1 : 0 ≤ x1.toInt ∧ x1.toInt ≤ 4) : ConE l mX5_minutesAwake [.ref a0, .int x1] cn K N I0 R0 L0 (ca_i (fun v cn' K' N' I' R' L' => cn = cn' ∧ K = K' ∧ N = N' ∧ I0 = I' ∧ R0 = R' ∧ L0 = L' ∧ True)) := by
  refine ConE.of (by decide +kernel) rfl (Nat.le_of_ble_eq_true rfl) rfl (fun X hX hZ hE => ?_)
  subst hX
  refine q_iconst dX5_minutesAwake_0 (by decide) ?_
  intro v1 h2
  refine tr_istore_n dX5_minutesAwake_1 (by decide) (by decide) ?_
  refine q_iconst dX5_minutesAwake_2 (by decide) ?_
  intro v3 h4
  refine tr_istore_n dX5_minutesAwake_3 (by decide) (by decide) ?_
  have lp12 : ∀ (fu : Nat) (ls : Nat → Option Value) (v5 : Int32) (v6 : Int32), ls 0 = some (.ref a0) → ls 1 = some (.int x1) → ls 2 = some (.int v5) → ls 3 = some (.int v6) → 0 ≤ v6.toInt → (-v6.toInt + 2147483647).toNat < fu → Tr X mX5_minutesAwake 4 ls [] cn K N I0 R0 L0 0 0 := by
    intro fu
    induction fu with
    | zero => intros; rename_i hz; exact absurd hz (Nat.not_lt_zero _)
    | succ fu ih12 =>
      intro ls v5 v6 hl7 hl8 hl9 hl10 g11 hm12
      refine tr_iload_n dX5_minutesAwake_4 hl10 ?_
      refine tr_aload_n dX5_minutesAwake_5 hl7 ?_
      obtain ⟨a14, d15, ta14⟩ := rf13_0 hW0 ta0
      refine tr_getR dX5_minutesAwake_6 fl5_39 (kR13 hW0 ta0) d15 ?_
      obtain ⟨v16, c17⟩ : ∃ v, I0 a14 0 = v := ⟨_, rfl⟩
      have b18 := iv2_0 hW0 ta14 c17
      refine q_getI dX5_minutesAwake_9 fl5_174 (kR2 hW0 ta14) c17 ?_
      refine q_icmp_ge 33 dX5_minutesAwake_12 (by decide) (fun h19 => ?_) (fun h19 => ?_)
      · skip
        refine tr_iload_n dX5_minutesAwake_33 hl9 ?_
        exact tr_iret hZ dX5_minutesAwake_34 rfl (by decide) (by decide) ⟨v5, rfl, rfl, rfl, rfl, rfl, rfl, rfl, trivial⟩
      · skip
        refine tr_aload_n dX5_minutesAwake_15 hl7 ?_
        refine tr_iload_n dX5_minutesAwake_16 hl8 ?_
        refine tr_iload_n dX5_minutesAwake_17 hl10 ?_
        refine q_callVi hE (M' := mX5_isAwake) (as := [_, _]) dX5_minutesAwake_18 lk5_99 inX5_isAwake seX5_isAwake myX5_isAwake (by decide) ⟨by decide, by decide⟩ rfl (kR13 hW0 ta0) (Nat.le_of_ble_eq_true rfl) rfl rfl (by decide) (by decide) (k_X5_isAwake hW0 ta0 (by exact om_153ddd29 hx1) (by exact om_95f0bf21 g11 b18.2 b18.1 h19)) ?_
        rintro v24 cn' K' N' I20 R21 L22 ⟨rfl, rfl, rfl, rfl, rfl, rfl, h25, -⟩
        refine q_if_eq 27 dX5_minutesAwake_21 (by decide) (fun h26 => ?_) (fun h26 => ?_)
        · skip
          refine q_iincE dX5_minutesAwake_27 hl10 (by decide) (by decide) (by intro j1 j2; exact om_c21242c3 g11 b18.2 b18.1 h19 j2) ?_
          intro v27 h28
          refine tr_goto 4 dX5_minutesAwake_30 (by decide) ?_
          exact ih12 _ v5 v27 hl7 hl8 hl9 rfl (by exact om_68881c41 g11 h28) (by exact om_c0b231d9 g11 hm12 b18.2 b18.1 h19 h28)
        · skip
          refine q_iinc dX5_minutesAwake_24 hl9 (by decide) ?_
          intro v29
          refine q_iincE dX5_minutesAwake_27 hl10 (by decide) (by decide) (by intro j1 j2; exact om_c21242c3 g11 b18.2 b18.1 h19 j2) ?_
          intro v30 h31
          refine tr_goto 4 dX5_minutesAwake_30 (by decide) ?_
          exact ih12 _ v29 v30 hl7 hl8 rfl rfl (by exact om_68881c41 g11 h31) (by exact om_6783ebda g11 hm12 b18.2 b18.1 h19 h25.2 h25.1 h26 h31)
  exact lp12 _ _ v1 v3 rfl rfl rfl rfl (by exact om_d99fa9e4 h4) (Nat.lt_succ_self _)
def wi_X10_work : List Nat := [73, 75, 81, 768, 769, 778, 834, 2303, 2367, 2431, 2495, 2559, 2623, 2687, 2751, 2815, 2879, 2943, 3007, 3071, 3135, 3199, 3263, 3327, 3391]
def wr_X10_work : List Nat := [832, 833]
set_option maxHeartbeats 4000000 in
theorem k_X10_work {l : Launch} {T : Nat → Nat} {cn : Nat} {K N : Nat → Nat} {I0 : cz_I} {R0 : cz_R} {L0 : cz_L} {d : Int} (hW0 : Wf T cn K N I0 R0 d) {a0 : Nat} (ta0 : T a0 = 1) {x1 : Int32} {x2 : Int32} : ConE l mX10_work [.ref a0, .int x1, .int x2] cn K N I0 R0 L0 (ca_i (fun v cn' K' N' I' R' L' => cn = cn' ∧ K = K' ∧ N = N' ∧ L0 = L' ∧ St T cn K N d wi_X10_work wr_X10_work I0 R0 I' R' ∧ True)) := by
  refine ConE.of (by decide +kernel) rfl (Nat.le_of_ble_eq_true rfl) rfl (fun X hX hZ hE => ?_)
  subst hX
  have hS0 : St T cn K N d wi_X10_work wr_X10_work I0 R0 I0 R0 := St.rf0 hW0
  refine tr_aload_n dX10_work_0 rfl ?_
  refine tr_iload_n dX10_work_1 rfl ?_
  refine q_callVi hE (M' := mX10_isTurner) (as := [_]) dX10_work_2 lk10_152 inX10_isTurner seX10_isTurner myX10_isTurner (by decide) ⟨by decide, by decide⟩ rfl (kR1 hS0.1 ta0) (Nat.le_of_ble_eq_true rfl) rfl rfl (by decide) (by decide) (k_X10_isTurner hS0.1 ta0) ?_
  rintro v5 cn' K' N' I1 R2 L3 ⟨rfl, rfl, rfl, rfl, rfl, rfl, h6, p7, -⟩
  refine q_if_ne 14 dX10_work_5 (by decide) (fun h8 => ?_) (fun h8 => ?_)
  · skip
    refine tr_aload_n dX10_work_14 rfl ?_
    refine q_callVr hE (M' := mX10_presentNight) (as := []) dX10_work_15 lk10_155 inX10_presentNight seX10_presentNight myX10_presentNight (by decide) ⟨by decide, by decide⟩ rfl (kR1 hS0.1 ta0) (Nat.le_of_ble_eq_true rfl) rfl rfl (by decide) (by decide) (k_X10_presentNight hS0.1 ta0) ?_
    rintro a13 cn' K' N' I9 R10 L11 ⟨rfl, rfl, rfl, rfl, g12, ta13, -⟩
    have hS14 := hS0.tr g12 (by decide +kernel) (by decide +kernel)
    refine tr_astore_n dX10_work_18 (by decide) (by decide) ?_
    refine tr_iload_n dX10_work_19 rfl ?_
    by_cases h15 : x2.toInt = 0
    · skip
      refine tr_tabIn (off := 32) 52 dX10_work_20 (by exact om_7c055b42 h15) (by exact om_0e9741b2 h15) (by rw [h15]; decide +kernel) (by decide) ?_
      refine tr_aload_n dX10_work_52 rfl ?_
      refine tr_aload_n dX10_work_53 rfl ?_
      obtain ⟨a16, d17, ta16⟩ := rf13_8 hW0 ta13
      refine tr_getR dX10_work_54 fl10_166 (kR13 hS14.1 ta13) ((hS14.rcell ta13 (by decide +kernel)).trans d17) ?_
      refine tr_iload_n dX10_work_57 rfl ?_
      refine q_iald dX10_work_58 (kR49 hS14.1 ta16) (ti_in (nR49 hS14.1 ta16) (by exact om_e7ce3285 h6.2 h6.1 p7 h8) (by exact om_e684a824 h6.2 h6.1 p7 h8)) ?_
      intro v18 c19
      refine q_callVi hE (M' := mX10_answered) (as := [_]) dX10_work_59 lk10_109 inX10_answered seX10_answered myX10_answered (by decide) ⟨by decide, by decide⟩ rfl (kR1 hS14.1 ta0) (Nat.le_of_ble_eq_true rfl) rfl rfl (by decide) (by decide) (k_X10_answered hS14.1 ta0) ?_
      rintro v24 cn' K' N' I20 R21 L22 ⟨rfl, rfl, rfl, rfl, rfl, g23, -⟩
      have hS25 := hS14.tr g23 (by decide +kernel) (by decide +kernel)
      exact tr_iret hZ dX10_work_62 rfl (by decide) (by decide) ⟨v24, rfl, rfl, rfl, rfl, rfl, hS25, trivial⟩
    · skip
      by_cases h26 : x2.toInt = 1
      · skip
        refine tr_tabIn (off := 43) 63 dX10_work_20 (by exact om_6183b2fb h26) (by exact om_abf3c1b2 h26) (by rw [h26]; decide +kernel) (by decide) ?_
        refine tr_aload_n dX10_work_63 rfl ?_
        refine tr_aload_n dX10_work_64 rfl ?_
        obtain ⟨a27, d28, ta27⟩ := rf13_9 hW0 ta13
        refine tr_getR dX10_work_65 fl10_169 (kR13 hS14.1 ta13) ((hS14.rcell ta13 (by decide +kernel)).trans d28) ?_
        refine tr_iload_n dX10_work_68 rfl ?_
        refine q_iald dX10_work_69 (kR50 hS14.1 ta27) (ti_in (nR50 hS14.1 ta27) (by exact om_d464933a h6.2 h6.1 p7 h8 h15 h26) (by exact om_265819a9 h6.2 h6.1 p7 h8 h15 h26)) ?_
        intro v29 c30
        refine q_callVi hE (M' := mX10_answered) (as := [_]) dX10_work_70 lk10_109 inX10_answered seX10_answered myX10_answered (by decide) ⟨by decide, by decide⟩ rfl (kR1 hS14.1 ta0) (Nat.le_of_ble_eq_true rfl) rfl rfl (by decide) (by decide) (k_X10_answered hS14.1 ta0) ?_
        rintro v35 cn' K' N' I31 R32 L33 ⟨rfl, rfl, rfl, rfl, rfl, g34, -⟩
        have hS36 := hS14.tr g34 (by decide +kernel) (by decide +kernel)
        exact tr_iret hZ dX10_work_73 rfl (by decide) (by decide) ⟨v35, rfl, rfl, rfl, rfl, rfl, hS36, trivial⟩
      · skip
        by_cases h37 : x2.toInt = 2
        · skip
          refine tr_tabIn (off := 54) 74 dX10_work_20 (by exact om_1174f472 h37) (by exact om_1555d2b1 h37) (by rw [h37]; decide +kernel) (by decide) ?_
          refine tr_aload_n dX10_work_74 rfl ?_
          refine tr_aload_n dX10_work_75 rfl ?_
          obtain ⟨a38, d39, ta38⟩ := rf13_10 hW0 ta13
          refine tr_getR dX10_work_76 fl10_172 (kR13 hS14.1 ta13) ((hS14.rcell ta13 (by decide +kernel)).trans d39) ?_
          refine tr_iload_n dX10_work_79 rfl ?_
          refine q_iald dX10_work_80 (kR51 hS14.1 ta38) (ti_in (nR51 hS14.1 ta38) (by exact om_781b487d h6.2 h6.1 p7 h8 h15 h26 h37) (by exact om_f41f51c8 h6.2 h6.1 p7 h8 h15 h26 h37)) ?_
          intro v40 c41
          refine q_callVi hE (M' := mX10_answered) (as := [_]) dX10_work_81 lk10_109 inX10_answered seX10_answered myX10_answered (by decide) ⟨by decide, by decide⟩ rfl (kR1 hS14.1 ta0) (Nat.le_of_ble_eq_true rfl) rfl rfl (by decide) (by decide) (k_X10_answered hS14.1 ta0) ?_
          rintro v46 cn' K' N' I42 R43 L44 ⟨rfl, rfl, rfl, rfl, rfl, g45, -⟩
          have hS47 := hS14.tr g45 (by decide +kernel) (by decide +kernel)
          exact tr_iret hZ dX10_work_84 rfl (by decide) (by decide) ⟨v46, rfl, rfl, rfl, rfl, rfl, hS47, trivial⟩
        · skip
          by_cases h48 : x2.toInt = 3
          · skip
            refine tr_tabIn (off := 65) 85 dX10_work_20 (by exact om_d4b200a6 h48) (by exact om_52bff43b h48) (by rw [h48]; decide +kernel) (by decide) ?_
            refine tr_aload_n dX10_work_85 rfl ?_
            refine tr_aload_n dX10_work_86 rfl ?_
            refine tr_iload_n dX10_work_87 rfl ?_
            refine q_callVi hE (M' := mX5_minutesAwake) (as := [_]) dX10_work_88 lk10_175 inX5_minutesAwake seX5_minutesAwake myX5_minutesAwake (by decide) ⟨by decide, by decide⟩ rfl (kR13 hS14.1 ta13) (Nat.le_of_ble_eq_true rfl) rfl rfl (by decide) (by decide) (k_X5_minutesAwake hS14.1 ta13 (by exact om_8e5d901b h6.2 h6.1 p7 h8 h15 h26 h37 h48)) ?_
            rintro v53 cn' K' N' I49 R50 L51 ⟨rfl, rfl, rfl, rfl, rfl, rfl, -⟩
            refine q_callVi hE (M' := mX10_answered) (as := [_]) dX10_work_91 lk10_109 inX10_answered seX10_answered myX10_answered (by decide) ⟨by decide, by decide⟩ rfl (kR1 hS14.1 ta0) (Nat.le_of_ble_eq_true rfl) rfl rfl (by decide) (by decide) (k_X10_answered hS14.1 ta0) ?_
            rintro v58 cn' K' N' I54 R55 L56 ⟨rfl, rfl, rfl, rfl, rfl, g57, -⟩
            have hS59 := hS14.tr g57 (by decide +kernel) (by decide +kernel)
            exact tr_iret hZ dX10_work_94 rfl (by decide) (by decide) ⟨v58, rfl, rfl, rfl, rfl, rfl, hS59, trivial⟩
          · skip
            refine tr_tabOut 95 dX10_work_20 (by exact om_4f2b3e28 h15 h26 h37 h48) (by decide) ?_
            refine tr_aload_n dX10_work_95 rfl ?_
            refine q_iconst dX10_work_96 (by decide) ?_
            intro v60 h61
            refine q_callVi hE (M' := mX10_refused) (as := [_]) dX10_work_97 lk10_79 inX10_refused seX10_refused myX10_refused (by decide) ⟨by decide, by decide⟩ rfl (kR1 hS14.1 ta0) (Nat.le_of_ble_eq_true rfl) rfl rfl (by decide) (by decide) (k_X10_refused hS14.1 ta0) ?_
            rintro v66 cn' K' N' I62 R63 L64 ⟨rfl, rfl, rfl, rfl, rfl, g65, -⟩
            have hS67 := hS14.tr g65 (by decide +kernel) (by decide +kernel)
            exact tr_iret hZ dX10_work_100 rfl (by decide) (by decide) ⟨v66, rfl, rfl, rfl, rfl, rfl, hS67, trivial⟩
  · skip
    refine tr_aload_n dX10_work_8 rfl ?_
    refine q_iconst dX10_work_9 (by decide) ?_
    intro v68 h69
    refine q_callVi hE (M' := mX10_refused) (as := [_]) dX10_work_10 lk10_79 inX10_refused seX10_refused myX10_refused (by decide) ⟨by decide, by decide⟩ rfl (kR1 hS0.1 ta0) (Nat.le_of_ble_eq_true rfl) rfl rfl (by decide) (by decide) (k_X10_refused hS0.1 ta0) ?_
    rintro v74 cn' K' N' I70 R71 L72 ⟨rfl, rfl, rfl, rfl, rfl, g73, -⟩
    have hS75 := hS0.tr g73 (by decide +kernel) (by decide +kernel)
    exact tr_iret hZ dX10_work_13 rfl (by decide) (by decide) ⟨v74, rfl, rfl, rfl, rfl, rfl, hS75, trivial⟩
set_option maxHeartbeats 4000000 in
theorem k_X0_costOf {l : Launch} {T : Nat → Nat} {cn : Nat} {K N : Nat → Nat} {I0 : cz_I} {R0 : cz_R} {L0 : cz_L} {d : Int} (hW0 : Wf T cn K N I0 R0 d) {a0 : Nat} (ta0 : T a0 = 2) {x1 : Int32} : ConE l mX0_costOf [.ref a0, .int x1] cn K N I0 R0 L0 (ca_i (fun v cn' K' N' I' R' L' => cn = cn' ∧ K = K' ∧ N = N' ∧ I0 = I' ∧ R0 = R' ∧ L0 = L' ∧ True)) := by
  refine ConE.of (by decide +kernel) rfl (Nat.le_of_ble_eq_true rfl) rfl (fun X hX hZ hE => ?_)
  subst hX
  refine q_iconst dX0_costOf_0 (by decide) ?_
  intro v1 h2
  refine tr_istore_n dX0_costOf_1 (by decide) (by decide) ?_
  refine q_iconst dX0_costOf_2 (by decide) ?_
  intro v3 h4
  refine tr_istore_n dX0_costOf_3 (by decide) (by decide) ?_
  have lp12 : ∀ (fu : Nat) (ls : Nat → Option Value) (v5 : Int32) (v6 : Int32), ls 0 = some (.ref a0) → ls 1 = some (.int x1) → ls 2 = some (.int v5) → ls 3 = some (.int v6) → 0 ≤ v6.toInt → (-v6.toInt + 2147483647).toNat < fu → Tr X mX0_costOf 4 ls [] cn K N I0 R0 L0 0 0 := by
    intro fu
    induction fu with
    | zero => intros; rename_i hz; exact absurd hz (Nat.not_lt_zero _)
    | succ fu ih12 =>
      intro ls v5 v6 hl7 hl8 hl9 hl10 g11 hm12
      refine tr_iload_n dX0_costOf_4 hl10 ?_
      refine tr_aload_n dX0_costOf_5 hl7 ?_
      obtain ⟨v14, c15⟩ : ∃ v, I0 a0 11 = v := ⟨_, rfl⟩
      have b16 := iv2_11 hW0 ta0 c15
      refine q_getI dX0_costOf_6 fl0_72 (kR2 hW0 ta0) c15 ?_
      refine q_icmp_ge 39 dX0_costOf_9 (by decide) (fun h17 => ?_) (fun h17 => ?_)
      · skip
        refine tr_iload_n dX0_costOf_39 hl9 ?_
        exact tr_iret hZ dX0_costOf_40 rfl (by decide) (by decide) ⟨v5, rfl, rfl, rfl, rfl, rfl, rfl, rfl, trivial⟩
      · skip
        refine tr_iload_n dX0_costOf_12 hl8 ?_
        refine tr_iload_n dX0_costOf_13 hl10 ?_
        refine q_callSNi hE (M' := mX10_bit) (as := [_, _]) dX0_costOf_14 lk0_78 inX10_bit myX10_bit ⟨by decide, by decide⟩ rfl (Nat.le_of_ble_eq_true rfl) rfl rfl (by decide) (by decide) (k_X10_bit hW0 ) ?_
        rintro v22 cn' K' N' I18 R19 L20 ⟨rfl, rfl, rfl, rfl, rfl, rfl, -⟩
        refine q_iconst dX0_costOf_17 (by decide) ?_
        intro v23 h24
        refine q_icmp_ne 33 dX0_costOf_18 (by decide) (fun h25 => ?_) (fun h25 => ?_)
        · skip
          refine q_iincE dX0_costOf_33 hl10 (by decide) (by decide) (by intro j1 j2; exact om_1c62f9ff g11 b16.2 b16.1 h17 j2) ?_
          intro v26 h27
          refine tr_goto 4 dX0_costOf_36 (by decide) ?_
          exact ih12 _ v5 v26 hl7 hl8 hl9 rfl (by exact om_68881c41 g11 h27) (by exact om_cf5afe83 g11 hm12 b16.2 b16.1 h17 h25 h27)
        · skip
          refine tr_iload_n dX0_costOf_21 hl9 ?_
          refine tr_aload_n dX0_costOf_22 hl7 ?_
          obtain ⟨a28, d29, ta28⟩ := rf2_12 hW0 ta0
          refine tr_getR dX0_costOf_23 fl0_39 (kR2 hW0 ta0) d29 ?_
          refine tr_iload_n dX0_costOf_26 hl10 ?_
          obtain ⟨a30, d31, ta30⟩ := rf22 hW0 ta28 (j := v6.toNatClampNeg) (ti_lt (by exact om_2cfcd5a5 g11) (by exact om_2b874313 b16.2 b16.1 h17))
          refine tr_aald dX0_costOf_27 (kR22 hW0 ta28) (by decide) (by decide) (ti_in (nR22 hW0 ta28) (by exact om_2cfcd5a5 g11) (by exact om_2b874313 b16.2 b16.1 h17)) d31 ?_
          obtain ⟨v32, c33⟩ : ∃ v, I0 a30 3 = v := ⟨_, rfl⟩
          refine q_getI dX0_costOf_28 fl0_82 (kR5 hW0 ta30) c33 ?_
          refine q_iadd dX0_costOf_31 ?_
          intro v34
          refine tr_istore_n dX0_costOf_32 (by decide) (by decide) ?_
          refine q_iincE dX0_costOf_33 hl10 (by decide) (by decide) (by intro j1 j2; exact om_1c62f9ff g11 b16.2 b16.1 h17 j2) ?_
          intro v35 h36
          refine tr_goto 4 dX0_costOf_36 (by decide) ?_
          exact ih12 _ v34 v35 hl7 hl8 rfl rfl (by exact om_68881c41 g11 h36) (by exact om_78718bb6 g11 hm12 b16.2 b16.1 h17 h36)
  exact lp12 _ _ v1 v3 rfl rfl rfl rfl (by exact om_d99fa9e4 h4) (Nat.lt_succ_self _)
set_option maxHeartbeats 4000000 in
theorem k_X5_price {l : Launch} {T : Nat → Nat} {cn : Nat} {K N : Nat → Nat} {I0 : cz_I} {R0 : cz_R} {L0 : cz_L} {d : Int} (hW0 : Wf T cn K N I0 R0 d) {a0 : Nat} (ta0 : T a0 = 13) {x1 : Int32} (hx1 : 0 ≤ x1.toInt ∧ x1.toInt ≤ 7) : ConE l mX5_price [.ref a0, .int x1] cn K N I0 R0 L0 (ca_i (fun v cn' K' N' I' R' L' => cn = cn' ∧ K = K' ∧ N = N' ∧ I0 = I' ∧ R0 = R' ∧ L0 = L' ∧ True)) := by
  refine ConE.of (by decide +kernel) rfl (Nat.le_of_ble_eq_true rfl) rfl (fun X hX hZ hE => ?_)
  subst hX
  refine tr_aload_n dX5_price_0 rfl ?_
  obtain ⟨a1, d2, ta1⟩ := rf13_0 hW0 ta0
  refine tr_getR dX5_price_1 fl5_39 (kR13 hW0 ta0) d2 ?_
  obtain ⟨a3, d4, ta3⟩ := rf2_2 hW0 ta1
  refine tr_getR dX5_price_4 fl5_192 (kR2 hW0 ta1) d4 ?_
  refine tr_astore_n dX5_price_7 (by decide) (by decide) ?_
  refine tr_aload_n dX5_price_8 rfl ?_
  refine q_iconst dX5_price_9 (by decide) ?_
  intro v5 h6
  refine q_iald dX5_price_10 (kR18 hW0 ta3) (ti_in (nR18 hW0 ta3) (by exact om_d99fa9e4 h6) (by exact om_e7afc65a h6)) ?_
  intro v7 c8
  refine tr_aload_n dX5_price_11 rfl ?_
  refine q_iconst dX5_price_12 (by decide) ?_
  intro v9 h10
  refine q_iald dX5_price_13 (kR18 hW0 ta3) (ti_in (nR18 hW0 ta3) (by exact om_f9079521 h10) (by exact om_8c194095 h10)) ?_
  intro v11 c12
  refine tr_aload_n dX5_price_14 rfl ?_
  obtain ⟨a13, d14, ta13⟩ := rf13_4 hW0 ta0
  refine tr_getR dX5_price_15 fl5_15 (kR13 hW0 ta0) d14 ?_
  refine tr_iload_n dX5_price_18 rfl ?_
  refine q_iald dX5_price_19 (kR45 hW0 ta13) (ti_in (nR45 hW0 ta13) (by exact om_2a7998d2 hx1.2 hx1.1) (by exact om_2801faaf hx1.2 hx1.1)) ?_
  intro v15 c16
  refine q_imul dX5_price_20 ?_
  intro v17
  refine q_iadd dX5_price_21 ?_
  intro v18
  refine tr_aload_n dX5_price_22 rfl ?_
  refine q_iconst dX5_price_23 (by decide) ?_
  intro v19 h20
  refine q_iald dX5_price_24 (kR18 hW0 ta3) (ti_in (nR18 hW0 ta3) (by exact om_bf35f35a h20) (by exact om_f6686c27 h20)) ?_
  intro v21 c22
  refine tr_aload_n dX5_price_25 rfl ?_
  obtain ⟨a23, d24, ta23⟩ := rf13_6 hW0 ta0
  refine tr_getR dX5_price_26 fl5_21 (kR13 hW0 ta0) d24 ?_
  refine tr_iload_n dX5_price_29 rfl ?_
  refine q_iald dX5_price_30 (kR47 hW0 ta23) (ti_in (nR47 hW0 ta23) (by exact om_2a7998d2 hx1.2 hx1.1) (by exact om_2801faaf hx1.2 hx1.1)) ?_
  intro v25 c26
  refine q_imul dX5_price_31 ?_
  intro v27
  refine q_isub dX5_price_32 ?_
  intro v28
  refine tr_aload_n dX5_price_33 rfl ?_
  refine q_iconst dX5_price_34 (by decide) ?_
  intro v29 h30
  refine q_iald dX5_price_35 (kR18 hW0 ta3) (ti_in (nR18 hW0 ta3) (by exact om_c9146e24 h30) (by exact om_7be26780 h30)) ?_
  intro v31 c32
  refine tr_aload_n dX5_price_36 rfl ?_
  obtain ⟨a33, d34, ta33⟩ := rf13_7 hW0 ta0
  refine tr_getR dX5_price_37 fl5_24 (kR13 hW0 ta0) d34 ?_
  refine tr_iload_n dX5_price_40 rfl ?_
  refine q_iald dX5_price_41 (kR48 hW0 ta33) (ti_in (nR48 hW0 ta33) (by exact om_2a7998d2 hx1.2 hx1.1) (by exact om_2801faaf hx1.2 hx1.1)) ?_
  intro v35 c36
  refine q_imul dX5_price_42 ?_
  intro v37
  refine q_isub dX5_price_43 ?_
  intro v38
  refine tr_aload_n dX5_price_44 rfl ?_
  refine q_iconst dX5_price_45 (by decide) ?_
  intro v39 h40
  refine q_iald dX5_price_46 (kR18 hW0 ta3) (ti_in (nR18 hW0 ta3) (by exact om_8e2d26b1 h40) (by exact om_e7a35b98 h40)) ?_
  intro v41 c42
  refine tr_aload_n dX5_price_47 rfl ?_
  obtain ⟨a43, d44, ta43⟩ := rf13_5 hW0 ta0
  refine tr_getR dX5_price_48 fl5_18 (kR13 hW0 ta0) d44 ?_
  refine tr_iload_n dX5_price_51 rfl ?_
  refine q_iald dX5_price_52 (kR46 hW0 ta43) (ti_in (nR46 hW0 ta43) (by exact om_2a7998d2 hx1.2 hx1.1) (by exact om_2801faaf hx1.2 hx1.1)) ?_
  intro v45 c46
  refine q_imul dX5_price_53 ?_
  intro v47
  refine q_isub dX5_price_54 ?_
  intro v48
  refine tr_istore_n dX5_price_55 (by decide) (by decide) ?_
  refine tr_iload_n dX5_price_56 rfl ?_
  refine q_iconst dX5_price_57 (by decide) ?_
  intro v49 h50
  refine q_mmax dX5_price_58 lk5_195 (by decide) (Nat.le_of_ble_eq_true rfl) (by decide) (by decide) ?_
  intro v51 h52
  exact tr_iret hZ dX5_price_61 rfl (by decide) (by decide) ⟨v51, rfl, rfl, rfl, rfl, rfl, rfl, rfl, trivial⟩
set_option maxHeartbeats 4000000 in
theorem k_X5_sum {l : Launch} {T : Nat → Nat} {cn : Nat} {K N : Nat → Nat} {I0 : cz_I} {R0 : cz_R} {L0 : cz_L} {d : Int} (hW0 : Wf T cn K N I0 R0 d) {a0 : Nat} (ta0 : T a0 = 13) : ConE l mX5_sum [.ref a0] cn K N I0 R0 L0 (ca_i (fun v cn' K' N' I' R' L' => cn = cn' ∧ K = K' ∧ N = N' ∧ I0 = I' ∧ R0 = R' ∧ L0 = L' ∧ True)) := by
  refine ConE.of (by decide +kernel) rfl (Nat.le_of_ble_eq_true rfl) rfl (fun X hX hZ hE => ?_)
  subst hX
  refine tr_aload_n dX5_sum_0 rfl ?_
  obtain ⟨a1, d2, ta1⟩ := rf13_0 hW0 ta0
  refine tr_getR dX5_sum_1 fl5_39 (kR13 hW0 ta0) d2 ?_
  refine tr_aload_n dX5_sum_4 rfl ?_
  obtain ⟨v3, c4⟩ : ∃ v, I0 a0 2 = v := ⟨_, rfl⟩
  refine q_getI dX5_sum_5 fl5_47 (kR13 hW0 ta0) c4 ?_
  refine q_callVi hE (M' := mX0_costOf) (as := [_]) dX5_sum_8 lk5_200 inX0_costOf seX0_costOf myX0_costOf (by decide) ⟨by decide, by decide⟩ rfl (kR2 hW0 ta1) (Nat.le_of_ble_eq_true rfl) rfl rfl (by decide) (by decide) (k_X0_costOf hW0 ta1) ?_
  rintro v9 cn' K' N' I5 R6 L7 ⟨rfl, rfl, rfl, rfl, rfl, rfl, -⟩
  refine q_ineg dX5_sum_11 ?_
  intro v10
  refine tr_istore_n dX5_sum_12 (by decide) (by decide) ?_
  refine q_iconst dX5_sum_13 (by decide) ?_
  intro v11 h12
  refine tr_istore_n dX5_sum_14 (by decide) (by decide) ?_
  have lp19 : ∀ (fu : Nat) (ls : Nat → Option Value) (v13 : Int32) (v14 : Int32), ls 0 = some (.ref a0) → ls 1 = some (.int v13) → ls 2 = some (.int v14) → 0 ≤ v14.toInt → (-v14.toInt + 2147483647).toNat < fu → Tr X mX5_sum 15 ls [] cn K N I0 R0 L0 0 0 := by
    intro fu
    induction fu with
    | zero => intros; rename_i hz; exact absurd hz (Nat.not_lt_zero _)
    | succ fu ih19 =>
      intro ls v13 v14 hl15 hl16 hl17 g18 hm19
      refine tr_iload_n dX5_sum_15 hl17 ?_
      refine tr_aload_n dX5_sum_16 hl15 ?_
      refine tr_getR dX5_sum_17 fl5_39 (kR13 hW0 ta0) d2 ?_
      obtain ⟨v21, c22⟩ : ∃ v, I0 a1 5 = v := ⟨_, rfl⟩
      have b23 := iv2_5 hW0 ta1 c22
      refine q_getI dX5_sum_20 fl5_107 (kR2 hW0 ta1) c22 ?_
      refine q_icmp_ge 40 dX5_sum_23 (by decide) (fun h24 => ?_) (fun h24 => ?_)
      · skip
        refine tr_iload_n dX5_sum_40 hl16 ?_
        exact tr_iret hZ dX5_sum_41 rfl (by decide) (by decide) ⟨v13, rfl, rfl, rfl, rfl, rfl, rfl, rfl, trivial⟩
      · skip
        refine tr_iload_n dX5_sum_26 hl16 ?_
        refine tr_aload_n dX5_sum_27 hl15 ?_
        refine tr_iload_n dX5_sum_28 hl17 ?_
        refine q_callVi hE (M' := mX5_price) (as := [_]) dX5_sum_29 lk5_203 inX5_price seX5_price myX5_price (by decide) ⟨by decide, by decide⟩ rfl (kR13 hW0 ta0) (Nat.le_of_ble_eq_true rfl) rfl rfl (by decide) (by decide) (k_X5_price hW0 ta0 (by exact om_c633c06e g18 b23.2 b23.1 h24)) ?_
        rintro v29 cn' K' N' I25 R26 L27 ⟨rfl, rfl, rfl, rfl, rfl, rfl, -⟩
        refine q_iadd dX5_sum_32 ?_
        intro v30
        refine tr_istore_n dX5_sum_33 (by decide) (by decide) ?_
        refine q_iincE dX5_sum_34 hl17 (by decide) (by decide) (by intro j1 j2; exact om_4034714d g18 b23.2 b23.1 h24 j2) ?_
        intro v31 h32
        refine tr_goto 15 dX5_sum_37 (by decide) ?_
        exact ih19 _ v30 v31 hl15 rfl rfl (by exact om_68881c41 g18 h32) (by exact om_fc025699 g18 hm19 b23.2 b23.1 h24 h32)
  exact lp19 _ _ v10 v11 rfl rfl rfl (by exact om_d99fa9e4 h12) (Nat.lt_succ_self _)
def wi_X10_refusedTotal : List Nat := [81]
def wr_X10_refusedTotal : List Nat := []
set_option maxHeartbeats 4000000 in
theorem k_X10_refusedTotal {l : Launch} {T : Nat → Nat} {cn : Nat} {K N : Nat → Nat} {I0 : cz_I} {R0 : cz_R} {L0 : cz_L} {d : Int} (hW0 : Wf T cn K N I0 R0 d) {a0 : Nat} (ta0 : T a0 = 1) {x1 : Int32} : ConE l mX10_refusedTotal [.ref a0, .int x1] cn K N I0 R0 L0 (ca_i (fun v cn' K' N' I' R' L' => cn = cn' ∧ K = K' ∧ N = N' ∧ R0 = R' ∧ L0 = L' ∧ St T cn K N d wi_X10_refusedTotal wr_X10_refusedTotal I0 R0 I' R0 ∧ True)) := by
  refine ConE.of (by decide +kernel) rfl (Nat.le_of_ble_eq_true rfl) rfl (fun X hX hZ hE => ?_)
  subst hX
  have hS0 : St T cn K N d wi_X10_refusedTotal wr_X10_refusedTotal I0 R0 I0 R0 := St.rf0 hW0
  refine tr_aload_n dX10_refusedTotal_0 rfl ?_
  refine tr_iload_n dX10_refusedTotal_1 rfl ?_
  refine q_putI dX10_refusedTotal_2 fl10_112 (kR1 hS0.1 ta0) (Or.inl rfl) hS0 ta0 (iokF rfl) rfl (by decide +kernel) ?_
  intro I1 hS2 e3 f4
  refine q_ldcw (-100000) dX10_refusedTotal_5 ld10_356 (by decide +kernel) ?_
  intro v5 h6
  exact tr_iret hZ dX10_refusedTotal_8 rfl (by decide) (by decide) ⟨v5, rfl, rfl, rfl, rfl, rfl, rfl, hS2, trivial⟩
def wi_X10_worth : List Nat := [73, 75, 81, 768, 769, 778, 834, 2303, 2367, 2431, 2495, 2559, 2623, 2687, 2751, 2815, 2879, 2943, 3007, 3071, 3135, 3199, 3263, 3327, 3391]
def wr_X10_worth : List Nat := [832, 833]
set_option maxHeartbeats 4000000 in
theorem k_X10_worth {l : Launch} {T : Nat → Nat} {cn : Nat} {K N : Nat → Nat} {I0 : cz_I} {R0 : cz_R} {L0 : cz_L} {d : Int} (hW0 : Wf T cn K N I0 R0 d) {a0 : Nat} (ta0 : T a0 = 1) {x1 : Int32} : ConE l mX10_worth [.ref a0, .int x1] cn K N I0 R0 L0 (ca_i (fun v cn' K' N' I' R' L' => cn = cn' ∧ K = K' ∧ N = N' ∧ L0 = L' ∧ St T cn K N d wi_X10_worth wr_X10_worth I0 R0 I' R' ∧ True)) := by
  refine ConE.of (by decide +kernel) rfl (Nat.le_of_ble_eq_true rfl) rfl (fun X hX hZ hE => ?_)
  subst hX
  have hS0 : St T cn K N d wi_X10_worth wr_X10_worth I0 R0 I0 R0 := St.rf0 hW0
  refine tr_aload_n dX10_worth_0 rfl ?_
  refine tr_iload_n dX10_worth_1 rfl ?_
  refine q_callVi hE (M' := mX10_isTurner) (as := [_]) dX10_worth_2 lk10_152 inX10_isTurner seX10_isTurner myX10_isTurner (by decide) ⟨by decide, by decide⟩ rfl (kR1 hS0.1 ta0) (Nat.le_of_ble_eq_true rfl) rfl rfl (by decide) (by decide) (k_X10_isTurner hS0.1 ta0) ?_
  rintro v5 cn' K' N' I1 R2 L3 ⟨rfl, rfl, rfl, rfl, rfl, rfl, h6, p7, -⟩
  refine q_if_ne 14 dX10_worth_5 (by decide) (fun h8 => ?_) (fun h8 => ?_)
  · skip
    refine tr_aload_n dX10_worth_14 rfl ?_
    obtain ⟨a9, d10, ta9⟩ := rf1_14 hW0 ta0
    refine tr_getR dX10_worth_15 fl10_68 (kR1 hS0.1 ta0) d10 ?_
    refine tr_aload_n dX10_worth_18 rfl ?_
    obtain ⟨a11, d12, ta11⟩ := rf1_2 hW0 ta0
    refine tr_getR dX10_worth_19 fl10_16 (kR1 hS0.1 ta0) d12 ?_
    refine tr_aload_n dX10_worth_22 rfl ?_
    refine q_callVr hE (M' := mX10_presentSky) (as := []) dX10_worth_23 lk10_119 inX10_presentSky seX10_presentSky myX10_presentSky (by decide) ⟨by decide, by decide⟩ rfl (kR1 hS0.1 ta0) (Nat.le_of_ble_eq_true rfl) rfl rfl (by decide) (by decide) (k_X10_presentSky hS0.1 ta0) ?_
    rintro a17 cn' K' N' I13 R14 L15 ⟨rfl, rfl, rfl, rfl, rfl, g16, ta17, -⟩
    have hS18 := hS0.tr g16 (by decide +kernel) (by decide +kernel)
    refine tr_aload_n dX10_worth_26 rfl ?_
    obtain ⟨a19, d20, ta19⟩ := rf1_6 hW0 ta0
    refine tr_getR dX10_worth_27 fl10_35 (kR1 hS18.1 ta0) d20 ?_
    obtain ⟨v21, c22⟩ : ∃ v, I0 a19 0 = v := ⟨_, rfl⟩
    refine q_getI dX10_worth_30 fl10_181 (kR8 hS18.1 ta19) ((hS18.cell ta19 (by decide +kernel)).trans c22) ?_
    refine tr_aload_n dX10_worth_33 rfl ?_
    refine q_callVi hE (M' := mX10_allTurners) (as := []) dX10_worth_34 lk10_184 inX10_allTurners seX10_allTurners myX10_allTurners (by decide) ⟨by decide, by decide⟩ rfl (kR1 hS18.1 ta0) (Nat.le_of_ble_eq_true rfl) rfl rfl (by decide) (by decide) (k_X10_allTurners hS18.1 ta0) ?_
    rintro v27 cn' K' N' I23 R24 L25 ⟨rfl, rfl, rfl, rfl, rfl, rfl, h28, -⟩
    refine q_iconst dX10_worth_37 (by decide) ?_
    intro v29 h30
    refine tr_iload_n dX10_worth_38 rfl ?_
    refine q_ishlE dX10_worth_39 (by exact om_ee8a1e2d h30) (by exact om_c89a2d80 h6.2 h6.1 p7 h8) ?_
    intro v31 h32
    refine q_iconst dX10_worth_40 (by decide) ?_
    intro v33 h34
    refine q_ixor dX10_worth_41 ?_
    intro v35
    refine q_iand dX10_worth_42 ?_
    intro v36
    refine q_callVv hE (M' := mX5_play) (as := [_, _, _, _]) dX10_worth_43 lk10_188 inX5_play seX5_play myX5_play (by decide) ⟨by decide, by decide⟩ rfl (kR13 hS18.1 ta9) (Nat.le_of_ble_eq_true rfl) rfl rfl (by decide) (by decide) (k_X5_play hS18.1 ta9 ta11 ta17) ?_
    rintro cn' K' N' I37 R38 L39 ⟨rfl, rfl, rfl, rfl, g40, -⟩
    have hS42 := hS18.tr g40 (by decide +kernel) (by decide +kernel)
    refine tr_aload_n dX10_worth_46 rfl ?_
    refine tr_aload_n dX10_worth_47 rfl ?_
    refine q_callVr hE (M' := mX10_presentNight) (as := []) dX10_worth_48 lk10_155 inX10_presentNight seX10_presentNight myX10_presentNight (by decide) ⟨by decide, by decide⟩ rfl (kR1 hS42.1 ta0) (Nat.le_of_ble_eq_true rfl) rfl rfl (by decide) (by decide) (k_X10_presentNight hS42.1 ta0) ?_
    rintro a47 cn' K' N' I43 R44 L45 ⟨rfl, rfl, rfl, rfl, g46, ta47, -⟩
    have hS48 := hS42.tr g46 (by decide +kernel) (by decide +kernel)
    refine q_callVi hE (M' := mX5_sum) (as := []) dX10_worth_51 lk10_192 inX5_sum seX5_sum myX5_sum (by decide) ⟨by decide, by decide⟩ rfl (kR13 hS48.1 ta47) (Nat.le_of_ble_eq_true rfl) rfl rfl (by decide) (by decide) (k_X5_sum hS48.1 ta47) ?_
    rintro v53 cn' K' N' I49 R50 L51 ⟨rfl, rfl, rfl, rfl, rfl, rfl, -⟩
    refine tr_aload_n dX10_worth_54 rfl ?_
    refine tr_getR dX10_worth_55 fl10_68 (kR1 hS48.1 ta0) ((hS48.rcell ta0 (by decide +kernel)).trans d10) ?_
    refine q_callVi hE (M' := mX5_sum) (as := []) dX10_worth_58 lk10_192 inX5_sum seX5_sum myX5_sum (by decide) ⟨by decide, by decide⟩ rfl (kR13 hS48.1 ta9) (Nat.le_of_ble_eq_true rfl) rfl rfl (by decide) (by decide) (k_X5_sum hS48.1 ta9) ?_
    rintro v58 cn' K' N' I54 R55 L56 ⟨rfl, rfl, rfl, rfl, rfl, rfl, -⟩
    refine q_isub dX10_worth_61 ?_
    intro v59
    refine q_callVi hE (M' := mX10_answered) (as := [_]) dX10_worth_62 lk10_109 inX10_answered seX10_answered myX10_answered (by decide) ⟨by decide, by decide⟩ rfl (kR1 hS48.1 ta0) (Nat.le_of_ble_eq_true rfl) rfl rfl (by decide) (by decide) (k_X10_answered hS48.1 ta0) ?_
    rintro v64 cn' K' N' I60 R61 L62 ⟨rfl, rfl, rfl, rfl, rfl, g63, -⟩
    have hS65 := hS48.tr g63 (by decide +kernel) (by decide +kernel)
    exact tr_iret hZ dX10_worth_65 rfl (by decide) (by decide) ⟨v64, rfl, rfl, rfl, rfl, rfl, hS65, trivial⟩
  · skip
    refine tr_aload_n dX10_worth_8 rfl ?_
    refine q_iconst dX10_worth_9 (by decide) ?_
    intro v66 h67
    refine q_callVi hE (M' := mX10_refusedTotal) (as := [_]) dX10_worth_10 lk10_178 inX10_refusedTotal seX10_refusedTotal myX10_refusedTotal (by decide) ⟨by decide, by decide⟩ rfl (kR1 hS0.1 ta0) (Nat.le_of_ble_eq_true rfl) rfl rfl (by decide) (by decide) (k_X10_refusedTotal hS0.1 ta0) ?_
    rintro v72 cn' K' N' I68 R69 L70 ⟨rfl, rfl, rfl, rfl, rfl, g71, -⟩
    have hS73 := hS0.tr g71 (by decide +kernel) (by decide +kernel)
    exact tr_iret hZ dX10_worth_13 rfl (by decide) (by decide) ⟨v72, rfl, rfl, rfl, rfl, rfl, hS73, trivial⟩
set_option maxHeartbeats 4000000 in
theorem k_X10_isCheese {l : Launch} {T : Nat → Nat} {cn : Nat} {K N : Nat → Nat} {I0 : cz_I} {R0 : cz_R} {L0 : cz_L} {d : Int} (hW0 : Wf T cn K N I0 R0 d) {a0 : Nat} (ta0 : T a0 = 1) {x1 : Int32} : ConE l mX10_isCheese [.ref a0, .int x1] cn K N I0 R0 L0 (ca_i (fun v cn' K' N' I' R' L' => cn = cn' ∧ K = K' ∧ N = N' ∧ I0 = I' ∧ R0 = R' ∧ L0 = L' ∧ (0 ≤ v.toInt ∧ v.toInt ≤ 1) ∧ ((v.toInt = 1 → (0 ≤ x1.toInt ∧ x1.toInt ≤ 7))) ∧ True)) := by
  refine ConE.of (by decide +kernel) rfl (Nat.le_of_ble_eq_true rfl) rfl (fun X hX hZ hE => ?_)
  subst hX
  refine tr_iload_n dX10_isCheese_0 rfl ?_
  refine q_if_lt 19 dX10_isCheese_1 (by decide) (fun h1 => ?_) (fun h1 => ?_)
  · skip
    refine q_iconst dX10_isCheese_19 (by decide) ?_
    intro v2 h3
    exact tr_zret hZ dX10_isCheese_20 rfl (ti_b01 (by exact om_d99fa9e4 h3) (by exact om_d3de7ec9 h3)) (by decide) (by decide) ⟨v2, rfl, rfl, rfl, rfl, rfl, rfl, rfl, (by exact om_3b50ecb9 h3), (by exact om_680f9b44 h3), trivial⟩
  · skip
    refine tr_iload_n dX10_isCheese_4 rfl ?_
    refine tr_aload_n dX10_isCheese_5 rfl ?_
    obtain ⟨a4, d5, ta4⟩ := rf1_2 hW0 ta0
    refine tr_getR dX10_isCheese_6 fl10_16 (kR1 hW0 ta0) d5 ?_
    obtain ⟨v6, c7⟩ : ∃ v, I0 a4 5 = v := ⟨_, rfl⟩
    have b8 := iv2_5 hW0 ta4 c7
    refine q_getI dX10_isCheese_9 fl10_106 (kR2 hW0 ta4) c7 ?_
    refine q_icmp_ge 19 dX10_isCheese_12 (by decide) (fun h9 => ?_) (fun h9 => ?_)
    · skip
      refine q_iconst dX10_isCheese_19 (by decide) ?_
      intro v10 h11
      exact tr_zret hZ dX10_isCheese_20 rfl (ti_b01 (by exact om_d99fa9e4 h11) (by exact om_d3de7ec9 h11)) (by decide) (by decide) ⟨v10, rfl, rfl, rfl, rfl, rfl, rfl, rfl, (by exact om_3b50ecb9 h11), (by exact om_680f9b44 h11), trivial⟩
    · skip
      refine q_iconst dX10_isCheese_15 (by decide) ?_
      intro v12 h13
      refine tr_goto 20 dX10_isCheese_16 (by decide) ?_
      exact tr_zret hZ dX10_isCheese_20 rfl (ti_b01 (by exact om_f9079521 h13) (by exact om_e6632817 h13)) (by decide) (by decide) ⟨v12, rfl, rfl, rfl, rfl, rfl, rfl, rfl, (by exact om_d753bc65 h13), (by exact om_1a00df8d h1 b8.2 b8.1 h9), trivial⟩
set_option maxHeartbeats 4000000 in
theorem k_X5_turnerOf {l : Launch} {T : Nat → Nat} {cn : Nat} {K N : Nat → Nat} {I0 : cz_I} {R0 : cz_R} {L0 : cz_L} {d : Int} (hW0 : Wf T cn K N I0 R0 d) {a0 : Nat} (ta0 : T a0 = 13) {x1 : Int32} {x2 : Int32} (hx2 : 0 ≤ x2.toInt ∧ x2.toInt ≤ 239) : ConE l mX5_turnerOf [.ref a0, .int x1, .int x2] cn K N I0 R0 L0 (ca_i (fun v cn' K' N' I' R' L' => cn = cn' ∧ K = K' ∧ N = N' ∧ I0 = I' ∧ R0 = R' ∧ L0 = L' ∧ True)) := by
  refine ConE.of (by decide +kernel) rfl (Nat.le_of_ble_eq_true rfl) rfl (fun X hX hZ hE => ?_)
  subst hX
  refine tr_aload_n dX5_turnerOf_0 rfl ?_
  obtain ⟨a1, d2, ta1⟩ := rf13_3 hW0 ta0
  refine tr_getR dX5_turnerOf_1 fl5_9 (kR13 hW0 ta0) d2 ?_
  refine tr_iload_n dX5_turnerOf_4 rfl ?_
  refine q_iald dX5_turnerOf_5 (kR44 hW0 ta1) (ti_in (nR44 hW0 ta1) (by exact om_2ab23ca2 hx2.2 hx2.1) (by exact om_c695125b hx2.2 hx2.1)) ?_
  intro v3 c4
  refine q_iconst dX5_turnerOf_6 (by decide) ?_
  intro v5 h6
  refine tr_iload_n dX5_turnerOf_7 rfl ?_
  refine q_imul dX5_turnerOf_8 ?_
  intro v7
  refine q_iushr dX5_turnerOf_9 ?_
  intro v8
  refine q_bipush dX5_turnerOf_10 (by decide +kernel) ?_
  intro v9 h10
  refine q_iand dX5_turnerOf_12 ?_
  intro v11
  refine tr_istore_n dX5_turnerOf_13 (by decide) (by decide) ?_
  refine tr_iload_n dX5_turnerOf_14 rfl ?_
  refine q_if_ne 23 dX5_turnerOf_15 (by decide) (fun h12 => ?_) (fun h12 => ?_)
  · skip
    refine tr_iload_n dX5_turnerOf_23 rfl ?_
    refine q_iconst dX5_turnerOf_24 (by decide) ?_
    intro v13 h14
    refine q_isub dX5_turnerOf_25 ?_
    intro v15
    exact tr_iret hZ dX5_turnerOf_26 rfl (by decide) (by decide) ⟨v15, rfl, rfl, rfl, rfl, rfl, rfl, rfl, trivial⟩
  · skip
    refine q_bipush dX5_turnerOf_18 (by decide +kernel) ?_
    intro v16 h17
    refine tr_goto 26 dX5_turnerOf_20 (by decide) ?_
    exact tr_iret hZ dX5_turnerOf_26 rfl (by decide) (by decide) ⟨v16, rfl, rfl, rfl, rfl, rfl, rfl, rfl, trivial⟩
def wi_X10_turned : List Nat := [73, 75, 81, 768, 769, 778, 834, 2303, 2367, 2431, 2495, 2559, 2623, 2687, 2751, 2815, 2879, 2943, 3007, 3071, 3135, 3199, 3263, 3327, 3391]
def wr_X10_turned : List Nat := [832, 833]
set_option maxHeartbeats 4000000 in
theorem k_X10_turned {l : Launch} {T : Nat → Nat} {cn : Nat} {K N : Nat → Nat} {I0 : cz_I} {R0 : cz_R} {L0 : cz_L} {d : Int} (hW0 : Wf T cn K N I0 R0 d) {a0 : Nat} (ta0 : T a0 = 1) {x1 : Int32} {x2 : Int32} : ConE l mX10_turned [.ref a0, .int x1, .int x2] cn K N I0 R0 L0 (ca_i (fun v cn' K' N' I' R' L' => cn = cn' ∧ K = K' ∧ N = N' ∧ L0 = L' ∧ St T cn K N d wi_X10_turned wr_X10_turned I0 R0 I' R' ∧ True)) := by
  refine ConE.of (by decide +kernel) rfl (Nat.le_of_ble_eq_true rfl) rfl (fun X hX hZ hE => ?_)
  subst hX
  have hS0 : St T cn K N d wi_X10_turned wr_X10_turned I0 R0 I0 R0 := St.rf0 hW0
  refine tr_aload_n dX10_turned_0 rfl ?_
  refine tr_iload_n dX10_turned_1 rfl ?_
  refine q_callVi hE (M' := mX10_isCheese) (as := [_]) dX10_turned_2 lk10_195 inX10_isCheese seX10_isCheese myX10_isCheese (by decide) ⟨by decide, by decide⟩ rfl (kR1 hS0.1 ta0) (Nat.le_of_ble_eq_true rfl) rfl rfl (by decide) (by decide) (k_X10_isCheese hS0.1 ta0) ?_
  rintro v5 cn' K' N' I1 R2 L3 ⟨rfl, rfl, rfl, rfl, rfl, rfl, h6, p7, -⟩
  refine q_if_ne 14 dX10_turned_5 (by decide) (fun h8 => ?_) (fun h8 => ?_)
  · skip
    refine tr_aload_n dX10_turned_14 rfl ?_
    refine tr_iload_n dX10_turned_15 rfl ?_
    refine q_callVi hE (M' := mX10_isMinute) (as := [_]) dX10_turned_16 lk10_115 inX10_isMinute seX10_isMinute myX10_isMinute (by decide) ⟨by decide, by decide⟩ rfl (kR1 hS0.1 ta0) (Nat.le_of_ble_eq_true rfl) rfl rfl (by decide) (by decide) (k_X10_isMinute hS0.1 ta0) ?_
    rintro v13 cn' K' N' I9 R10 L11 ⟨rfl, rfl, rfl, rfl, rfl, rfl, h14, p15, -⟩
    refine q_if_ne 28 dX10_turned_19 (by decide) (fun h16 => ?_) (fun h16 => ?_)
    · skip
      refine tr_aload_n dX10_turned_28 rfl ?_
      refine tr_aload_n dX10_turned_29 rfl ?_
      refine q_callVr hE (M' := mX10_presentNight) (as := []) dX10_turned_30 lk10_155 inX10_presentNight seX10_presentNight myX10_presentNight (by decide) ⟨by decide, by decide⟩ rfl (kR1 hS0.1 ta0) (Nat.le_of_ble_eq_true rfl) rfl rfl (by decide) (by decide) (k_X10_presentNight hS0.1 ta0) ?_
      rintro a21 cn' K' N' I17 R18 L19 ⟨rfl, rfl, rfl, rfl, g20, ta21, -⟩
      have hS22 := hS0.tr g20 (by decide +kernel) (by decide +kernel)
      refine tr_iload_n dX10_turned_33 rfl ?_
      refine tr_iload_n dX10_turned_34 rfl ?_
      refine q_callVi hE (M' := mX5_turnerOf) (as := [_, _]) dX10_turned_35 lk10_198 inX5_turnerOf seX5_turnerOf myX5_turnerOf (by decide) ⟨by decide, by decide⟩ rfl (kR13 hS22.1 ta21) (Nat.le_of_ble_eq_true rfl) rfl rfl (by decide) (by decide) (k_X5_turnerOf hS22.1 ta21 (by exact om_ec1a32e4 h14.2 h14.1 p15 h16)) ?_
      rintro v27 cn' K' N' I23 R24 L25 ⟨rfl, rfl, rfl, rfl, rfl, rfl, -⟩
      refine q_callVi hE (M' := mX10_answered) (as := [_]) dX10_turned_38 lk10_109 inX10_answered seX10_answered myX10_answered (by decide) ⟨by decide, by decide⟩ rfl (kR1 hS22.1 ta0) (Nat.le_of_ble_eq_true rfl) rfl rfl (by decide) (by decide) (k_X10_answered hS22.1 ta0) ?_
      rintro v32 cn' K' N' I28 R29 L30 ⟨rfl, rfl, rfl, rfl, rfl, g31, -⟩
      have hS33 := hS22.tr g31 (by decide +kernel) (by decide +kernel)
      exact tr_iret hZ dX10_turned_41 rfl (by decide) (by decide) ⟨v32, rfl, rfl, rfl, rfl, rfl, hS33, trivial⟩
    · skip
      refine tr_aload_n dX10_turned_22 rfl ?_
      refine q_iconst dX10_turned_23 (by decide) ?_
      intro v34 h35
      refine q_callVi hE (M' := mX10_refused) (as := [_]) dX10_turned_24 lk10_79 inX10_refused seX10_refused myX10_refused (by decide) ⟨by decide, by decide⟩ rfl (kR1 hS0.1 ta0) (Nat.le_of_ble_eq_true rfl) rfl rfl (by decide) (by decide) (k_X10_refused hS0.1 ta0) ?_
      rintro v40 cn' K' N' I36 R37 L38 ⟨rfl, rfl, rfl, rfl, rfl, g39, -⟩
      have hS41 := hS0.tr g39 (by decide +kernel) (by decide +kernel)
      exact tr_iret hZ dX10_turned_27 rfl (by decide) (by decide) ⟨v40, rfl, rfl, rfl, rfl, rfl, hS41, trivial⟩
  · skip
    refine tr_aload_n dX10_turned_8 rfl ?_
    refine q_iconst dX10_turned_9 (by decide) ?_
    intro v42 h43
    refine q_callVi hE (M' := mX10_refused) (as := [_]) dX10_turned_10 lk10_79 inX10_refused seX10_refused myX10_refused (by decide) ⟨by decide, by decide⟩ rfl (kR1 hS0.1 ta0) (Nat.le_of_ble_eq_true rfl) rfl rfl (by decide) (by decide) (k_X10_refused hS0.1 ta0) ?_
    rintro v48 cn' K' N' I44 R45 L46 ⟨rfl, rfl, rfl, rfl, rfl, g47, -⟩
    have hS49 := hS0.tr g47 (by decide +kernel) (by decide +kernel)
    exact tr_iret hZ dX10_turned_13 rfl (by decide) (by decide) ⟨v48, rfl, rfl, rfl, rfl, rfl, hS49, trivial⟩
set_option maxHeartbeats 4000000 in
theorem k_X5_isTurned {l : Launch} {T : Nat → Nat} {cn : Nat} {K N : Nat → Nat} {I0 : cz_I} {R0 : cz_R} {L0 : cz_L} {d : Int} (hW0 : Wf T cn K N I0 R0 d) {a0 : Nat} (ta0 : T a0 = 13) {x1 : Int32} {x2 : Int32} (hx2 : 0 ≤ x2.toInt ∧ x2.toInt ≤ 239) : ConE l mX5_isTurned [.ref a0, .int x1, .int x2] cn K N I0 R0 L0 (ca_i (fun v cn' K' N' I' R' L' => cn = cn' ∧ K = K' ∧ N = N' ∧ I0 = I' ∧ R0 = R' ∧ L0 = L' ∧ (0 ≤ v.toInt ∧ v.toInt ≤ 1) ∧ True)) := by
  refine ConE.of (by decide +kernel) rfl (Nat.le_of_ble_eq_true rfl) rfl (fun X hX hZ hE => ?_)
  subst hX
  refine tr_aload_n dX5_isTurned_0 rfl ?_
  refine tr_iload_n dX5_isTurned_1 rfl ?_
  refine tr_iload_n dX5_isTurned_2 rfl ?_
  refine q_callVi hE (M' := mX5_turnerOf) (as := [_, _]) dX5_isTurned_3 lk5_177 inX5_turnerOf seX5_turnerOf myX5_turnerOf (by decide) ⟨by decide, by decide⟩ rfl (kR13 hW0 ta0) (Nat.le_of_ble_eq_true rfl) rfl rfl (by decide) (by decide) (k_X5_turnerOf hW0 ta0 (by exact om_87537644 hx2)) ?_
  rintro v5 cn' K' N' I1 R2 L3 ⟨rfl, rfl, rfl, rfl, rfl, rfl, -⟩
  refine q_bipush dX5_isTurned_6 (by decide +kernel) ?_
  intro v6 h7
  refine q_icmp_eq 15 dX5_isTurned_8 (by decide) (fun h8 => ?_) (fun h8 => ?_)
  · skip
    refine q_iconst dX5_isTurned_15 (by decide) ?_
    intro v9 h10
    exact tr_zret hZ dX5_isTurned_16 rfl (ti_b01 (by exact om_d99fa9e4 h10) (by exact om_d3de7ec9 h10)) (by decide) (by decide) ⟨v9, rfl, rfl, rfl, rfl, rfl, rfl, rfl, (by exact om_3b50ecb9 h10), trivial⟩
  · skip
    refine q_iconst dX5_isTurned_11 (by decide) ?_
    intro v11 h12
    refine tr_goto 16 dX5_isTurned_12 (by decide) ?_
    exact tr_zret hZ dX5_isTurned_16 rfl (ti_b01 (by exact om_f9079521 h12) (by exact om_e6632817 h12)) (by decide) (by decide) ⟨v11, rfl, rfl, rfl, rfl, rfl, rfl, rfl, (by exact om_d753bc65 h12), trivial⟩
set_option maxHeartbeats 4000000 in
theorem k_X5_liesUp {l : Launch} {T : Nat → Nat} {cn : Nat} {K N : Nat → Nat} {I0 : cz_I} {R0 : cz_R} {L0 : cz_L} {d : Int} (hW0 : Wf T cn K N I0 R0 d) {a0 : Nat} (ta0 : T a0 = 13) {x1 : Int32} {x2 : Int32} (hx2 : 0 ≤ x2.toInt ∧ x2.toInt ≤ 239) : ConE l mX5_liesUp [.ref a0, .int x1, .int x2] cn K N I0 R0 L0 (ca_i (fun v cn' K' N' I' R' L' => cn = cn' ∧ K = K' ∧ N = N' ∧ I0 = I' ∧ R0 = R' ∧ L0 = L' ∧ (0 ≤ v.toInt ∧ v.toInt ≤ 1) ∧ True)) := by
  refine ConE.of (by decide +kernel) rfl (Nat.le_of_ble_eq_true rfl) rfl (fun X hX hZ hE => ?_)
  subst hX
  refine tr_aload_n dX5_liesUp_0 rfl ?_
  obtain ⟨a1, d2, ta1⟩ := rf13_0 hW0 ta0
  refine tr_getR dX5_liesUp_1 fl5_39 (kR13 hW0 ta0) d2 ?_
  obtain ⟨v3, c4⟩ : ∃ v, I0 a1 7 = v := ⟨_, rfl⟩
  refine q_getI dX5_liesUp_4 fl5_54 (kR2 hW0 ta1) c4 ?_
  refine tr_iload_n dX5_liesUp_7 rfl ?_
  refine q_callSNi hE (M' := mX10_bit) (as := [_, _]) dX5_liesUp_8 lk5_84 inX10_bit myX10_bit ⟨by decide, by decide⟩ rfl (Nat.le_of_ble_eq_true rfl) rfl rfl (by decide) (by decide) (k_X10_bit hW0 ) ?_
  rintro v9 cn' K' N' I5 R6 L7 ⟨rfl, rfl, rfl, rfl, rfl, rfl, -⟩
  refine q_iconst dX5_liesUp_11 (by decide) ?_
  intro v10 h11
  refine q_icmp_ne 19 dX5_liesUp_12 (by decide) (fun h12 => ?_) (fun h12 => ?_)
  · skip
    refine q_iconst dX5_liesUp_19 (by decide) ?_
    intro v13 h14
    refine tr_istore_n dX5_liesUp_20 (by decide) (by decide) ?_
    refine q_iconst dX5_liesUp_21 (by decide) ?_
    intro v15 h16
    refine tr_istore dX5_liesUp_22 (by decide) (by decide) ?_
    have lp27 : ∀ (fu : Nat) (ls : Nat → Option Value) (v17 : Int32) (v18 : Int32), ls 0 = some (.ref a0) → ls 1 = some (.int x1) → ls 2 = some (.int x2) → ls 3 = some (.int v17) → ls 4 = some (.int v18) → 0 ≤ v17.toInt → v17.toInt ≤ 1 → 0 ≤ v18.toInt → (-v18.toInt + 2147483647).toNat < fu → Tr X mX5_liesUp 24 ls [] cn K N I0 R0 L0 0 0 := by
      intro fu
      induction fu with
      | zero => intros; rename_i hz; exact absurd hz (Nat.not_lt_zero _)
      | succ fu ih27 =>
        intro ls v17 v18 hl19 hl20 hl21 hl22 hl23 g24 g25 g26 hm27
        refine tr_iload dX5_liesUp_24 hl23 ?_
        refine tr_iload_n dX5_liesUp_26 hl21 ?_
        refine q_icmp_gt 46 dX5_liesUp_27 (by decide) (fun h29 => ?_) (fun h29 => ?_)
        · skip
          refine tr_iload_n dX5_liesUp_46 hl22 ?_
          exact tr_zret hZ dX5_liesUp_47 rfl (ti_b01 (by exact om_2cfcd5a5 g24) (by exact om_58e909d6 g25)) (by decide) (by decide) ⟨v17, rfl, rfl, rfl, rfl, rfl, rfl, rfl, (by exact om_b37b70bc g24 g25), trivial⟩
        · skip
          refine tr_iload_n dX5_liesUp_30 hl22 ?_
          refine tr_aload_n dX5_liesUp_31 hl19 ?_
          refine tr_iload_n dX5_liesUp_32 hl20 ?_
          refine tr_iload dX5_liesUp_33 hl23 ?_
          refine q_callVi hE (M' := mX5_isTurned) (as := [_, _]) dX5_liesUp_35 lk5_180 inX5_isTurned seX5_isTurned myX5_isTurned (by decide) ⟨by decide, by decide⟩ rfl (kR13 hW0 ta0) (Nat.le_of_ble_eq_true rfl) rfl rfl (by decide) (by decide) (k_X5_isTurned hW0 ta0 (by exact om_043873c9 hx2.2 hx2.1 g26 h29)) ?_
          rintro v34 cn' K' N' I30 R31 L32 ⟨rfl, rfl, rfl, rfl, rfl, rfl, h35, -⟩
          refine q_ixorE dX5_liesUp_38 (by exact om_b37b70bc g24 g25) (by exact om_be53a44c h35) ?_
          intro v36 h37
          refine tr_istore_n dX5_liesUp_39 (by decide) (by decide) ?_
          refine q_iincE dX5_liesUp_40 hl23 (by decide) (by decide) (by intro j1 j2; exact om_a692c63d hx2.2 hx2.1 g26 h29 j2) ?_
          intro v38 h39
          refine tr_goto 24 dX5_liesUp_43 (by decide) ?_
          exact ih27 _ v36 v38 hl19 hl20 hl21 rfl rfl (by exact om_ef03f1ae h37.2 h37.1) (by exact om_51ab244e h37.2 h37.1) (by exact om_68881c41 g26 h39) (by exact om_efdc3853 hx2.2 hx2.1 g26 hm27 h29 h39)
    exact lp27 _ _ v13 v15 rfl rfl rfl rfl rfl (by exact om_d99fa9e4 h14) (by exact om_d3de7ec9 h14) (by exact om_d99fa9e4 h16) (Nat.lt_succ_self _)
  · skip
    refine q_iconst dX5_liesUp_15 (by decide) ?_
    intro v40 h41
    refine tr_goto 20 dX5_liesUp_16 (by decide) ?_
    refine tr_istore_n dX5_liesUp_20 (by decide) (by decide) ?_
    refine q_iconst dX5_liesUp_21 (by decide) ?_
    intro v42 h43
    refine tr_istore dX5_liesUp_22 (by decide) (by decide) ?_
    have lp54 : ∀ (fu : Nat) (ls : Nat → Option Value) (v44 : Int32) (v45 : Int32), ls 0 = some (.ref a0) → ls 1 = some (.int x1) → ls 2 = some (.int x2) → ls 3 = some (.int v44) → ls 4 = some (.int v45) → 0 ≤ v44.toInt → v44.toInt ≤ 1 → 0 ≤ v45.toInt → (-v45.toInt + 2147483647).toNat < fu → Tr X mX5_liesUp 24 ls [] cn K N I0 R0 L0 0 0 := by
      intro fu
      induction fu with
      | zero => intros; rename_i hz; exact absurd hz (Nat.not_lt_zero _)
      | succ fu ih54 =>
        intro ls v44 v45 hl46 hl47 hl48 hl49 hl50 g51 g52 g53 hm54
        refine tr_iload dX5_liesUp_24 hl50 ?_
        refine tr_iload_n dX5_liesUp_26 hl48 ?_
        refine q_icmp_gt 46 dX5_liesUp_27 (by decide) (fun h56 => ?_) (fun h56 => ?_)
        · skip
          refine tr_iload_n dX5_liesUp_46 hl49 ?_
          exact tr_zret hZ dX5_liesUp_47 rfl (ti_b01 (by exact om_2cfcd5a5 g51) (by exact om_58e909d6 g52)) (by decide) (by decide) ⟨v44, rfl, rfl, rfl, rfl, rfl, rfl, rfl, (by exact om_b37b70bc g51 g52), trivial⟩
        · skip
          refine tr_iload_n dX5_liesUp_30 hl49 ?_
          refine tr_aload_n dX5_liesUp_31 hl46 ?_
          refine tr_iload_n dX5_liesUp_32 hl47 ?_
          refine tr_iload dX5_liesUp_33 hl50 ?_
          refine q_callVi hE (M' := mX5_isTurned) (as := [_, _]) dX5_liesUp_35 lk5_180 inX5_isTurned seX5_isTurned myX5_isTurned (by decide) ⟨by decide, by decide⟩ rfl (kR13 hW0 ta0) (Nat.le_of_ble_eq_true rfl) rfl rfl (by decide) (by decide) (k_X5_isTurned hW0 ta0 (by exact om_043873c9 hx2.2 hx2.1 g53 h56)) ?_
          rintro v61 cn' K' N' I57 R58 L59 ⟨rfl, rfl, rfl, rfl, rfl, rfl, h62, -⟩
          refine q_ixorE dX5_liesUp_38 (by exact om_b37b70bc g51 g52) (by exact om_be53a44c h62) ?_
          intro v63 h64
          refine tr_istore_n dX5_liesUp_39 (by decide) (by decide) ?_
          refine q_iincE dX5_liesUp_40 hl50 (by decide) (by decide) (by intro j1 j2; exact om_a692c63d hx2.2 hx2.1 g53 h56 j2) ?_
          intro v65 h66
          refine tr_goto 24 dX5_liesUp_43 (by decide) ?_
          exact ih54 _ v63 v65 hl46 hl47 hl48 rfl rfl (by exact om_ef03f1ae h64.2 h64.1) (by exact om_51ab244e h64.2 h64.1) (by exact om_68881c41 g53 h66) (by exact om_efdc3853 hx2.2 hx2.1 g53 hm54 h56 h66)
    exact lp54 _ _ v40 v42 rfl rfl rfl rfl rfl (by exact om_f9079521 h41) (by exact om_e6632817 h41) (by exact om_d99fa9e4 h43) (Nat.lt_succ_self _)
def wi_X10_up : List Nat := [73, 75, 81, 768, 769, 778, 834, 2303, 2367, 2431, 2495, 2559, 2623, 2687, 2751, 2815, 2879, 2943, 3007, 3071, 3135, 3199, 3263, 3327, 3391]
def wr_X10_up : List Nat := [832, 833]
set_option maxHeartbeats 4000000 in
theorem k_X10_up {l : Launch} {T : Nat → Nat} {cn : Nat} {K N : Nat → Nat} {I0 : cz_I} {R0 : cz_R} {L0 : cz_L} {d : Int} (hW0 : Wf T cn K N I0 R0 d) {a0 : Nat} (ta0 : T a0 = 1) {x1 : Int32} {x2 : Int32} : ConE l mX10_up [.ref a0, .int x1, .int x2] cn K N I0 R0 L0 (ca_i (fun v cn' K' N' I' R' L' => cn = cn' ∧ K = K' ∧ N = N' ∧ L0 = L' ∧ St T cn K N d wi_X10_up wr_X10_up I0 R0 I' R' ∧ True)) := by
  refine ConE.of (by decide +kernel) rfl (Nat.le_of_ble_eq_true rfl) rfl (fun X hX hZ hE => ?_)
  subst hX
  have hS0 : St T cn K N d wi_X10_up wr_X10_up I0 R0 I0 R0 := St.rf0 hW0
  refine tr_aload_n dX10_up_0 rfl ?_
  refine tr_iload_n dX10_up_1 rfl ?_
  refine q_callVi hE (M' := mX10_isCheese) (as := [_]) dX10_up_2 lk10_195 inX10_isCheese seX10_isCheese myX10_isCheese (by decide) ⟨by decide, by decide⟩ rfl (kR1 hS0.1 ta0) (Nat.le_of_ble_eq_true rfl) rfl rfl (by decide) (by decide) (k_X10_isCheese hS0.1 ta0) ?_
  rintro v5 cn' K' N' I1 R2 L3 ⟨rfl, rfl, rfl, rfl, rfl, rfl, h6, p7, -⟩
  refine q_if_ne 14 dX10_up_5 (by decide) (fun h8 => ?_) (fun h8 => ?_)
  · skip
    refine tr_aload_n dX10_up_14 rfl ?_
    refine tr_iload_n dX10_up_15 rfl ?_
    refine q_callVi hE (M' := mX10_isMinute) (as := [_]) dX10_up_16 lk10_115 inX10_isMinute seX10_isMinute myX10_isMinute (by decide) ⟨by decide, by decide⟩ rfl (kR1 hS0.1 ta0) (Nat.le_of_ble_eq_true rfl) rfl rfl (by decide) (by decide) (k_X10_isMinute hS0.1 ta0) ?_
    rintro v13 cn' K' N' I9 R10 L11 ⟨rfl, rfl, rfl, rfl, rfl, rfl, h14, p15, -⟩
    refine q_if_ne 28 dX10_up_19 (by decide) (fun h16 => ?_) (fun h16 => ?_)
    · skip
      refine tr_aload_n dX10_up_28 rfl ?_
      refine tr_aload_n dX10_up_29 rfl ?_
      refine q_callVr hE (M' := mX10_presentNight) (as := []) dX10_up_30 lk10_155 inX10_presentNight seX10_presentNight myX10_presentNight (by decide) ⟨by decide, by decide⟩ rfl (kR1 hS0.1 ta0) (Nat.le_of_ble_eq_true rfl) rfl rfl (by decide) (by decide) (k_X10_presentNight hS0.1 ta0) ?_
      rintro a21 cn' K' N' I17 R18 L19 ⟨rfl, rfl, rfl, rfl, g20, ta21, -⟩
      have hS22 := hS0.tr g20 (by decide +kernel) (by decide +kernel)
      refine tr_iload_n dX10_up_33 rfl ?_
      refine tr_iload_n dX10_up_34 rfl ?_
      refine q_callVi hE (M' := mX5_liesUp) (as := [_, _]) dX10_up_35 lk10_201 inX5_liesUp seX5_liesUp myX5_liesUp (by decide) ⟨by decide, by decide⟩ rfl (kR13 hS22.1 ta21) (Nat.le_of_ble_eq_true rfl) rfl rfl (by decide) (by decide) (k_X5_liesUp hS22.1 ta21 (by exact om_ec1a32e4 h14.2 h14.1 p15 h16)) ?_
      rintro v27 cn' K' N' I23 R24 L25 ⟨rfl, rfl, rfl, rfl, rfl, rfl, h28, -⟩
      refine q_if_eq 45 dX10_up_38 (by decide) (fun h29 => ?_) (fun h29 => ?_)
      · skip
        refine q_iconst dX10_up_45 (by decide) ?_
        intro v30 h31
        refine q_callVi hE (M' := mX10_answered) (as := [_]) dX10_up_46 lk10_109 inX10_answered seX10_answered myX10_answered (by decide) ⟨by decide, by decide⟩ rfl (kR1 hS22.1 ta0) (Nat.le_of_ble_eq_true rfl) rfl rfl (by decide) (by decide) (k_X10_answered hS22.1 ta0) ?_
        rintro v36 cn' K' N' I32 R33 L34 ⟨rfl, rfl, rfl, rfl, rfl, g35, -⟩
        have hS37 := hS22.tr g35 (by decide +kernel) (by decide +kernel)
        exact tr_iret hZ dX10_up_49 rfl (by decide) (by decide) ⟨v36, rfl, rfl, rfl, rfl, rfl, hS37, trivial⟩
      · skip
        refine q_iconst dX10_up_41 (by decide) ?_
        intro v38 h39
        refine tr_goto 46 dX10_up_42 (by decide) ?_
        refine q_callVi hE (M' := mX10_answered) (as := [_]) dX10_up_46 lk10_109 inX10_answered seX10_answered myX10_answered (by decide) ⟨by decide, by decide⟩ rfl (kR1 hS22.1 ta0) (Nat.le_of_ble_eq_true rfl) rfl rfl (by decide) (by decide) (k_X10_answered hS22.1 ta0) ?_
        rintro v44 cn' K' N' I40 R41 L42 ⟨rfl, rfl, rfl, rfl, rfl, g43, -⟩
        have hS45 := hS22.tr g43 (by decide +kernel) (by decide +kernel)
        exact tr_iret hZ dX10_up_49 rfl (by decide) (by decide) ⟨v44, rfl, rfl, rfl, rfl, rfl, hS45, trivial⟩
    · skip
      refine tr_aload_n dX10_up_22 rfl ?_
      refine q_iconst dX10_up_23 (by decide) ?_
      intro v46 h47
      refine q_callVi hE (M' := mX10_refused) (as := [_]) dX10_up_24 lk10_79 inX10_refused seX10_refused myX10_refused (by decide) ⟨by decide, by decide⟩ rfl (kR1 hS0.1 ta0) (Nat.le_of_ble_eq_true rfl) rfl rfl (by decide) (by decide) (k_X10_refused hS0.1 ta0) ?_
      rintro v52 cn' K' N' I48 R49 L50 ⟨rfl, rfl, rfl, rfl, rfl, g51, -⟩
      have hS53 := hS0.tr g51 (by decide +kernel) (by decide +kernel)
      exact tr_iret hZ dX10_up_27 rfl (by decide) (by decide) ⟨v52, rfl, rfl, rfl, rfl, rfl, hS53, trivial⟩
  · skip
    refine tr_aload_n dX10_up_8 rfl ?_
    refine q_iconst dX10_up_9 (by decide) ?_
    intro v54 h55
    refine q_callVi hE (M' := mX10_refused) (as := [_]) dX10_up_10 lk10_79 inX10_refused seX10_refused myX10_refused (by decide) ⟨by decide, by decide⟩ rfl (kR1 hS0.1 ta0) (Nat.le_of_ble_eq_true rfl) rfl rfl (by decide) (by decide) (k_X10_refused hS0.1 ta0) ?_
    rintro v60 cn' K' N' I56 R57 L58 ⟨rfl, rfl, rfl, rfl, rfl, g59, -⟩
    have hS61 := hS0.tr g59 (by decide +kernel) (by decide +kernel)
    exact tr_iret hZ dX10_up_13 rfl (by decide) (by decide) ⟨v60, rfl, rfl, rfl, rfl, rfl, hS61, trivial⟩
def wi_X10_cheese : List Nat := [73, 75, 81, 768, 769, 778, 834, 2303, 2367, 2431, 2495, 2559, 2623, 2687, 2751, 2815, 2879, 2943, 3007, 3071, 3135, 3199, 3263, 3327, 3391]
def wr_X10_cheese : List Nat := [832, 833]
set_option maxHeartbeats 4000000 in
theorem k_X10_cheese {l : Launch} {T : Nat → Nat} {cn : Nat} {K N : Nat → Nat} {I0 : cz_I} {R0 : cz_R} {L0 : cz_L} {d : Int} (hW0 : Wf T cn K N I0 R0 d) {a0 : Nat} (ta0 : T a0 = 1) {x1 : Int32} {x2 : Int32} : ConE l mX10_cheese [.ref a0, .int x1, .int x2] cn K N I0 R0 L0 (ca_i (fun v cn' K' N' I' R' L' => cn = cn' ∧ K = K' ∧ N = N' ∧ L0 = L' ∧ St T cn K N d wi_X10_cheese wr_X10_cheese I0 R0 I' R' ∧ True)) := by
  refine ConE.of (by decide +kernel) rfl (Nat.le_of_ble_eq_true rfl) rfl (fun X hX hZ hE => ?_)
  subst hX
  have hS0 : St T cn K N d wi_X10_cheese wr_X10_cheese I0 R0 I0 R0 := St.rf0 hW0
  refine tr_aload_n dX10_cheese_0 rfl ?_
  refine tr_iload_n dX10_cheese_1 rfl ?_
  refine q_callVi hE (M' := mX10_isCheese) (as := [_]) dX10_cheese_2 lk10_195 inX10_isCheese seX10_isCheese myX10_isCheese (by decide) ⟨by decide, by decide⟩ rfl (kR1 hS0.1 ta0) (Nat.le_of_ble_eq_true rfl) rfl rfl (by decide) (by decide) (k_X10_isCheese hS0.1 ta0) ?_
  rintro v5 cn' K' N' I1 R2 L3 ⟨rfl, rfl, rfl, rfl, rfl, rfl, h6, p7, -⟩
  refine q_if_ne 14 dX10_cheese_5 (by decide) (fun h8 => ?_) (fun h8 => ?_)
  · skip
    refine tr_aload_n dX10_cheese_14 rfl ?_
    refine q_callVr hE (M' := mX10_presentNight) (as := []) dX10_cheese_15 lk10_155 inX10_presentNight seX10_presentNight myX10_presentNight (by decide) ⟨by decide, by decide⟩ rfl (kR1 hS0.1 ta0) (Nat.le_of_ble_eq_true rfl) rfl rfl (by decide) (by decide) (k_X10_presentNight hS0.1 ta0) ?_
    rintro a13 cn' K' N' I9 R10 L11 ⟨rfl, rfl, rfl, rfl, g12, ta13, -⟩
    have hS14 := hS0.tr g12 (by decide +kernel) (by decide +kernel)
    refine tr_astore_n dX10_cheese_18 (by decide) (by decide) ?_
    refine tr_iload_n dX10_cheese_19 rfl ?_
    by_cases h15 : x2.toInt = 0
    · skip
      refine tr_tabIn (off := 44) 64 dX10_cheese_20 (by exact om_7c055b42 h15) (by exact om_ab57bba8 h15) (by rw [h15]; decide +kernel) (by decide) ?_
      refine tr_aload_n dX10_cheese_64 rfl ?_
      refine tr_aload_n dX10_cheese_65 rfl ?_
      obtain ⟨a16, d17, ta16⟩ := rf1_2 hW0 ta0
      refine tr_getR dX10_cheese_66 fl10_16 (kR1 hS14.1 ta0) ((hS14.rcell ta0 (by decide +kernel)).trans d17) ?_
      obtain ⟨a18, d19, ta18⟩ := rf2_6 hW0 ta16
      refine tr_getR dX10_cheese_69 fl10_204 (kR2 hS14.1 ta16) ((hS14.rcell ta16 (by decide +kernel)).trans d19) ?_
      refine tr_iload_n dX10_cheese_72 rfl ?_
      refine q_iald dX10_cheese_73 (kR20 hS14.1 ta18) (ti_in (nR20 hS14.1 ta18) (by exact om_af8ae0bb h6.2 h6.1 p7 h8) (by exact om_185c49a6 h6.2 h6.1 p7 h8)) ?_
      intro v20 c21
      refine q_callVi hE (M' := mX10_answered) (as := [_]) dX10_cheese_74 lk10_109 inX10_answered seX10_answered myX10_answered (by decide) ⟨by decide, by decide⟩ rfl (kR1 hS14.1 ta0) (Nat.le_of_ble_eq_true rfl) rfl rfl (by decide) (by decide) (k_X10_answered hS14.1 ta0) ?_
      rintro v26 cn' K' N' I22 R23 L24 ⟨rfl, rfl, rfl, rfl, rfl, g25, -⟩
      have hS27 := hS14.tr g25 (by decide +kernel) (by decide +kernel)
      exact tr_iret hZ dX10_cheese_77 rfl (by decide) (by decide) ⟨v26, rfl, rfl, rfl, rfl, rfl, hS27, trivial⟩
    · skip
      by_cases h28 : x2.toInt = 1
      · skip
        refine tr_tabIn (off := 58) 78 dX10_cheese_20 (by exact om_6183b2fb h28) (by exact om_f5df1e08 h28) (by rw [h28]; decide +kernel) (by decide) ?_
        refine tr_aload_n dX10_cheese_78 rfl ?_
        refine tr_aload_n dX10_cheese_79 rfl ?_
        obtain ⟨a29, d30, ta29⟩ := rf13_4 hW0 ta13
        refine tr_getR dX10_cheese_80 fl10_207 (kR13 hS14.1 ta13) ((hS14.rcell ta13 (by decide +kernel)).trans d30) ?_
        refine tr_iload_n dX10_cheese_83 rfl ?_
        refine q_iald dX10_cheese_84 (kR45 hS14.1 ta29) (ti_in (nR45 hS14.1 ta29) (by exact om_97cc775b h6.2 h6.1 p7 h8 h15 h28) (by exact om_d6639f2c h6.2 h6.1 p7 h8 h15 h28)) ?_
        intro v31 c32
        refine tr_aload_n dX10_cheese_85 rfl ?_
        obtain ⟨a33, d34, ta33⟩ := rf13_5 hW0 ta13
        refine tr_getR dX10_cheese_86 fl10_210 (kR13 hS14.1 ta13) ((hS14.rcell ta13 (by decide +kernel)).trans d34) ?_
        refine tr_iload_n dX10_cheese_89 rfl ?_
        refine q_iald dX10_cheese_90 (kR46 hS14.1 ta33) (ti_in (nR46 hS14.1 ta33) (by exact om_97cc775b h6.2 h6.1 p7 h8 h15 h28) (by exact om_d6639f2c h6.2 h6.1 p7 h8 h15 h28)) ?_
        intro v35 c36
        refine q_iadd dX10_cheese_91 ?_
        intro v37
        refine q_callVi hE (M' := mX10_answered) (as := [_]) dX10_cheese_92 lk10_109 inX10_answered seX10_answered myX10_answered (by decide) ⟨by decide, by decide⟩ rfl (kR1 hS14.1 ta0) (Nat.le_of_ble_eq_true rfl) rfl rfl (by decide) (by decide) (k_X10_answered hS14.1 ta0) ?_
        rintro v42 cn' K' N' I38 R39 L40 ⟨rfl, rfl, rfl, rfl, rfl, g41, -⟩
        have hS43 := hS14.tr g41 (by decide +kernel) (by decide +kernel)
        exact tr_iret hZ dX10_cheese_95 rfl (by decide) (by decide) ⟨v42, rfl, rfl, rfl, rfl, rfl, hS43, trivial⟩
      · skip
        by_cases h44 : x2.toInt = 2
        · skip
          refine tr_tabIn (off := 76) 96 dX10_cheese_20 (by exact om_1174f472 h44) (by exact om_09477008 h44) (by rw [h44]; decide +kernel) (by decide) ?_
          refine tr_aload_n dX10_cheese_96 rfl ?_
          refine tr_aload_n dX10_cheese_97 rfl ?_
          obtain ⟨a45, d46, ta45⟩ := rf13_4 hW0 ta13
          refine tr_getR dX10_cheese_98 fl10_207 (kR13 hS14.1 ta13) ((hS14.rcell ta13 (by decide +kernel)).trans d46) ?_
          refine tr_iload_n dX10_cheese_101 rfl ?_
          refine q_iald dX10_cheese_102 (kR45 hS14.1 ta45) (ti_in (nR45 hS14.1 ta45) (by exact om_973ef151 h6.2 h6.1 p7 h8 h15 h28 h44) (by exact om_010f5f24 h6.2 h6.1 p7 h8 h15 h28 h44)) ?_
          intro v47 c48
          refine q_callVi hE (M' := mX10_answered) (as := [_]) dX10_cheese_103 lk10_109 inX10_answered seX10_answered myX10_answered (by decide) ⟨by decide, by decide⟩ rfl (kR1 hS14.1 ta0) (Nat.le_of_ble_eq_true rfl) rfl rfl (by decide) (by decide) (k_X10_answered hS14.1 ta0) ?_
          rintro v53 cn' K' N' I49 R50 L51 ⟨rfl, rfl, rfl, rfl, rfl, g52, -⟩
          have hS54 := hS14.tr g52 (by decide +kernel) (by decide +kernel)
          exact tr_iret hZ dX10_cheese_106 rfl (by decide) (by decide) ⟨v53, rfl, rfl, rfl, rfl, rfl, hS54, trivial⟩
        · skip
          by_cases h55 : x2.toInt = 3
          · skip
            refine tr_tabIn (off := 87) 107 dX10_cheese_20 (by exact om_d4b200a6 h55) (by exact om_f42089d7 h55) (by rw [h55]; decide +kernel) (by decide) ?_
            refine tr_aload_n dX10_cheese_107 rfl ?_
            refine tr_aload_n dX10_cheese_108 rfl ?_
            obtain ⟨a56, d57, ta56⟩ := rf13_6 hW0 ta13
            refine tr_getR dX10_cheese_109 fl10_213 (kR13 hS14.1 ta13) ((hS14.rcell ta13 (by decide +kernel)).trans d57) ?_
            refine tr_iload_n dX10_cheese_112 rfl ?_
            refine q_iald dX10_cheese_113 (kR47 hS14.1 ta56) (ti_in (nR47 hS14.1 ta56) (by exact om_0409615a h6.2 h6.1 p7 h8 h15 h28 h44 h55) (by exact om_da0fbbf3 h6.2 h6.1 p7 h8 h15 h28 h44 h55)) ?_
            intro v58 c59
            refine q_callVi hE (M' := mX10_answered) (as := [_]) dX10_cheese_114 lk10_109 inX10_answered seX10_answered myX10_answered (by decide) ⟨by decide, by decide⟩ rfl (kR1 hS14.1 ta0) (Nat.le_of_ble_eq_true rfl) rfl rfl (by decide) (by decide) (k_X10_answered hS14.1 ta0) ?_
            rintro v64 cn' K' N' I60 R61 L62 ⟨rfl, rfl, rfl, rfl, rfl, g63, -⟩
            have hS65 := hS14.tr g63 (by decide +kernel) (by decide +kernel)
            exact tr_iret hZ dX10_cheese_117 rfl (by decide) (by decide) ⟨v64, rfl, rfl, rfl, rfl, rfl, hS65, trivial⟩
          · skip
            by_cases h66 : x2.toInt = 4
            · skip
              refine tr_tabIn (off := 98) 118 dX10_cheese_20 (by exact om_d336d452 h66) (by exact om_34590e7d h66) (by rw [h66]; decide +kernel) (by decide) ?_
              refine tr_aload_n dX10_cheese_118 rfl ?_
              refine tr_aload_n dX10_cheese_119 rfl ?_
              obtain ⟨a67, d68, ta67⟩ := rf13_5 hW0 ta13
              refine tr_getR dX10_cheese_120 fl10_210 (kR13 hS14.1 ta13) ((hS14.rcell ta13 (by decide +kernel)).trans d68) ?_
              refine tr_iload_n dX10_cheese_123 rfl ?_
              refine q_iald dX10_cheese_124 (kR46 hS14.1 ta67) (ti_in (nR46 hS14.1 ta67) (by exact om_45fd7246 h6.2 h6.1 p7 h8 h15 h28 h44 h55 h66) (by exact om_8f3c4cb6 h6.2 h6.1 p7 h8 h15 h28 h44 h55 h66)) ?_
              intro v69 c70
              refine q_callVi hE (M' := mX10_answered) (as := [_]) dX10_cheese_125 lk10_109 inX10_answered seX10_answered myX10_answered (by decide) ⟨by decide, by decide⟩ rfl (kR1 hS14.1 ta0) (Nat.le_of_ble_eq_true rfl) rfl rfl (by decide) (by decide) (k_X10_answered hS14.1 ta0) ?_
              rintro v75 cn' K' N' I71 R72 L73 ⟨rfl, rfl, rfl, rfl, rfl, g74, -⟩
              have hS76 := hS14.tr g74 (by decide +kernel) (by decide +kernel)
              exact tr_iret hZ dX10_cheese_128 rfl (by decide) (by decide) ⟨v75, rfl, rfl, rfl, rfl, rfl, hS76, trivial⟩
            · skip
              by_cases h77 : x2.toInt = 5
              · skip
                refine tr_tabIn (off := 109) 129 dX10_cheese_20 (by exact om_d3aa380d h77) (by exact om_39b766e3 h77) (by rw [h77]; decide +kernel) (by decide) ?_
                refine tr_aload_n dX10_cheese_129 rfl ?_
                refine tr_aload_n dX10_cheese_130 rfl ?_
                obtain ⟨a78, d79, ta78⟩ := rf13_7 hW0 ta13
                refine tr_getR dX10_cheese_131 fl10_216 (kR13 hS14.1 ta13) ((hS14.rcell ta13 (by decide +kernel)).trans d79) ?_
                refine tr_iload_n dX10_cheese_134 rfl ?_
                refine q_iald dX10_cheese_135 (kR48 hS14.1 ta78) (ti_in (nR48 hS14.1 ta78) (by exact om_e8222fe9 h6.2 h6.1 p7 h8 h15 h28 h44 h55 h66 h77) (by exact om_2faadfca h6.2 h6.1 p7 h8 h15 h28 h44 h55 h66 h77)) ?_
                intro v80 c81
                refine q_callVi hE (M' := mX10_answered) (as := [_]) dX10_cheese_136 lk10_109 inX10_answered seX10_answered myX10_answered (by decide) ⟨by decide, by decide⟩ rfl (kR1 hS14.1 ta0) (Nat.le_of_ble_eq_true rfl) rfl rfl (by decide) (by decide) (k_X10_answered hS14.1 ta0) ?_
                rintro v86 cn' K' N' I82 R83 L84 ⟨rfl, rfl, rfl, rfl, rfl, g85, -⟩
                have hS87 := hS14.tr g85 (by decide +kernel) (by decide +kernel)
                exact tr_iret hZ dX10_cheese_139 rfl (by decide) (by decide) ⟨v86, rfl, rfl, rfl, rfl, rfl, hS87, trivial⟩
              · skip
                by_cases h88 : x2.toInt = 6
                · skip
                  refine tr_tabIn (off := 120) 140 dX10_cheese_20 (by exact om_59370c92 h88) (by exact om_a607b469 h88) (by rw [h88]; decide +kernel) (by decide) ?_
                  refine tr_aload_n dX10_cheese_140 rfl ?_
                  refine tr_aload_n dX10_cheese_141 rfl ?_
                  refine tr_iload_n dX10_cheese_142 rfl ?_
                  refine q_callVi hE (M' := mX5_price) (as := [_]) dX10_cheese_143 lk10_219 inX5_price seX5_price myX5_price (by decide) ⟨by decide, by decide⟩ rfl (kR13 hS14.1 ta13) (Nat.le_of_ble_eq_true rfl) rfl rfl (by decide) (by decide) (k_X5_price hS14.1 ta13 (by exact om_e3d5b501 h6.2 h6.1 p7 h8 h15 h28 h44 h55 h66 h77 h88)) ?_
                  rintro v93 cn' K' N' I89 R90 L91 ⟨rfl, rfl, rfl, rfl, rfl, rfl, -⟩
                  refine q_callVi hE (M' := mX10_answered) (as := [_]) dX10_cheese_146 lk10_109 inX10_answered seX10_answered myX10_answered (by decide) ⟨by decide, by decide⟩ rfl (kR1 hS14.1 ta0) (Nat.le_of_ble_eq_true rfl) rfl rfl (by decide) (by decide) (k_X10_answered hS14.1 ta0) ?_
                  rintro v98 cn' K' N' I94 R95 L96 ⟨rfl, rfl, rfl, rfl, rfl, g97, -⟩
                  have hS99 := hS14.tr g97 (by decide +kernel) (by decide +kernel)
                  exact tr_iret hZ dX10_cheese_149 rfl (by decide) (by decide) ⟨v98, rfl, rfl, rfl, rfl, rfl, hS99, trivial⟩
                · skip
                  refine tr_tabOut 150 dX10_cheese_20 (by exact om_cd5ee703 h15 h28 h44 h55 h66 h77 h88) (by decide) ?_
                  refine tr_aload_n dX10_cheese_150 rfl ?_
                  refine q_iconst dX10_cheese_151 (by decide) ?_
                  intro v100 h101
                  refine q_callVi hE (M' := mX10_refused) (as := [_]) dX10_cheese_152 lk10_79 inX10_refused seX10_refused myX10_refused (by decide) ⟨by decide, by decide⟩ rfl (kR1 hS14.1 ta0) (Nat.le_of_ble_eq_true rfl) rfl rfl (by decide) (by decide) (k_X10_refused hS14.1 ta0) ?_
                  rintro v106 cn' K' N' I102 R103 L104 ⟨rfl, rfl, rfl, rfl, rfl, g105, -⟩
                  have hS107 := hS14.tr g105 (by decide +kernel) (by decide +kernel)
                  exact tr_iret hZ dX10_cheese_155 rfl (by decide) (by decide) ⟨v106, rfl, rfl, rfl, rfl, rfl, hS107, trivial⟩
  · skip
    refine tr_aload_n dX10_cheese_8 rfl ?_
    refine q_iconst dX10_cheese_9 (by decide) ?_
    intro v108 h109
    refine q_callVi hE (M' := mX10_refused) (as := [_]) dX10_cheese_10 lk10_79 inX10_refused seX10_refused myX10_refused (by decide) ⟨by decide, by decide⟩ rfl (kR1 hS0.1 ta0) (Nat.le_of_ble_eq_true rfl) rfl rfl (by decide) (by decide) (k_X10_refused hS0.1 ta0) ?_
    rintro v114 cn' K' N' I110 R111 L112 ⟨rfl, rfl, rfl, rfl, rfl, g113, -⟩
    have hS115 := hS0.tr g113 (by decide +kernel) (by decide +kernel)
    exact tr_iret hZ dX10_cheese_13 rfl (by decide) (by decide) ⟨v114, rfl, rfl, rfl, rfl, rfl, hS115, trivial⟩
set_option maxHeartbeats 4000000 in
theorem k_X5_minuteOfVein {l : Launch} {T : Nat → Nat} {cn : Nat} {K N : Nat → Nat} {I0 : cz_I} {R0 : cz_R} {L0 : cz_L} {d : Int} (hW0 : Wf T cn K N I0 R0 d) {a0 : Nat} (ta0 : T a0 = 13) {x1 : Int32} {x2 : Int32} : ConE l mX5_minuteOfVein [.ref a0, .int x1, .int x2] cn K N I0 R0 L0 (ca_i (fun v cn' K' N' I' R' L' => cn = cn' ∧ K = K' ∧ N = N' ∧ I0 = I' ∧ R0 = R' ∧ L0 = L' ∧ True)) := by
  refine ConE.of (by decide +kernel) rfl (Nat.le_of_ble_eq_true rfl) rfl (fun X hX hZ hE => ?_)
  subst hX
  refine q_iconst dX5_minuteOfVein_0 (by decide) ?_
  intro v1 h2
  refine tr_istore_n dX5_minuteOfVein_1 (by decide) (by decide) ?_
  refine q_iconst dX5_minuteOfVein_2 (by decide) ?_
  intro v3 h4
  refine tr_istore dX5_minuteOfVein_3 (by decide) (by decide) ?_
  have lp13 : ∀ (fu : Nat) (ls : Nat → Option Value) (v5 : Int32) (v6 : Int32), ls 0 = some (.ref a0) → ls 1 = some (.int x1) → ls 2 = some (.int x2) → ls 3 = some (.int v5) → ls 4 = some (.int v6) → 0 ≤ v6.toInt → (-v6.toInt + 2147483647).toNat < fu → Tr X mX5_minuteOfVein 5 ls [] cn K N I0 R0 L0 0 0 := by
    intro fu
    induction fu with
    | zero => intros; rename_i hz; exact absurd hz (Nat.not_lt_zero _)
    | succ fu ih13 =>
      intro ls v5 v6 hl7 hl8 hl9 hl10 hl11 g12 hm13
      refine tr_iload dX5_minuteOfVein_5 hl11 ?_
      refine tr_aload_n dX5_minuteOfVein_7 hl7 ?_
      obtain ⟨a15, d16, ta15⟩ := rf13_0 hW0 ta0
      refine tr_getR dX5_minuteOfVein_8 fl5_39 (kR13 hW0 ta0) d16 ?_
      obtain ⟨v17, c18⟩ : ∃ v, I0 a15 0 = v := ⟨_, rfl⟩
      have b19 := iv2_0 hW0 ta15 c18
      refine q_getI dX5_minuteOfVein_11 fl5_174 (kR2 hW0 ta15) c18 ?_
      refine q_icmp_ge 44 dX5_minuteOfVein_14 (by decide) (fun h20 => ?_) (fun h20 => ?_)
      · skip
        refine q_iconst dX5_minuteOfVein_44 (by decide) ?_
        intro v21 h22
        exact tr_iret hZ dX5_minuteOfVein_45 rfl (by decide) (by decide) ⟨v21, rfl, rfl, rfl, rfl, rfl, rfl, rfl, trivial⟩
      · skip
        refine tr_aload_n dX5_minuteOfVein_17 hl7 ?_
        refine tr_iload_n dX5_minuteOfVein_18 hl8 ?_
        refine tr_iload dX5_minuteOfVein_19 hl11 ?_
        refine q_callVi hE (M' := mX5_isTurned) (as := [_, _]) dX5_minuteOfVein_21 lk5_180 inX5_isTurned seX5_isTurned myX5_isTurned (by decide) ⟨by decide, by decide⟩ rfl (kR13 hW0 ta0) (Nat.le_of_ble_eq_true rfl) rfl rfl (by decide) (by decide) (k_X5_isTurned hW0 ta0 (by exact om_95f0bf21 g12 b19.2 b19.1 h20)) ?_
        rintro v27 cn' K' N' I23 R24 L25 ⟨rfl, rfl, rfl, rfl, rfl, rfl, h28, -⟩
        refine q_if_eq 38 dX5_minuteOfVein_24 (by decide) (fun h29 => ?_) (fun h29 => ?_)
        · skip
          refine q_iincE dX5_minuteOfVein_38 hl11 (by decide) (by decide) (by intro j1 j2; exact om_c21242c3 g12 b19.2 b19.1 h20 j2) ?_
          intro v30 h31
          refine tr_goto 5 dX5_minuteOfVein_41 (by decide) ?_
          exact ih13 _ v5 v30 hl7 hl8 hl9 hl10 rfl (by exact om_68881c41 g12 h31) (by exact om_c0b231d9 g12 hm13 b19.2 b19.1 h20 h31)
        · skip
          refine tr_iload_n dX5_minuteOfVein_27 hl10 ?_
          refine tr_iload_n dX5_minuteOfVein_28 hl9 ?_
          refine q_icmp_ne 35 dX5_minuteOfVein_29 (by decide) (fun h32 => ?_) (fun h32 => ?_)
          · skip
            refine q_iinc dX5_minuteOfVein_35 hl10 (by decide) ?_
            intro v33
            refine q_iincE dX5_minuteOfVein_38 hl11 (by decide) (by decide) (by intro j1 j2; exact om_c21242c3 g12 b19.2 b19.1 h20 j2) ?_
            intro v34 h35
            refine tr_goto 5 dX5_minuteOfVein_41 (by decide) ?_
            exact ih13 _ v33 v34 hl7 hl8 hl9 rfl rfl (by exact om_68881c41 g12 h35) (by exact om_00b57a52 g12 hm13 b19.2 b19.1 h20 h28.2 h28.1 h29 h32 h35)
          · skip
            refine tr_iload dX5_minuteOfVein_32 hl11 ?_
            exact tr_iret hZ dX5_minuteOfVein_34 rfl (by decide) (by decide) ⟨v6, rfl, rfl, rfl, rfl, rfl, rfl, rfl, trivial⟩
  exact lp13 _ _ v1 v3 rfl rfl rfl rfl rfl (by exact om_d99fa9e4 h4) (Nat.lt_succ_self _)
def wi_X10_veinMinute : List Nat := [73, 75, 768, 769, 778, 834, 2303, 2367, 2431, 2495, 2559, 2623, 2687, 2751, 2815, 2879, 2943, 3007, 3071, 3135, 3199, 3263, 3327, 3391]
def wr_X10_veinMinute : List Nat := [832, 833]
set_option maxHeartbeats 4000000 in
theorem k_X10_veinMinute {l : Launch} {T : Nat → Nat} {cn : Nat} {K N : Nat → Nat} {I0 : cz_I} {R0 : cz_R} {L0 : cz_L} {d : Int} (hW0 : Wf T cn K N I0 R0 d) {a0 : Nat} (ta0 : T a0 = 1) {x1 : Int32} {x2 : Int32} : ConE l mX10_veinMinute [.ref a0, .int x1, .int x2] cn K N I0 R0 L0 (ca_i (fun v cn' K' N' I' R' L' => cn = cn' ∧ K = K' ∧ N = N' ∧ L0 = L' ∧ St T cn K N d wi_X10_veinMinute wr_X10_veinMinute I0 R0 I' R' ∧ True)) := by
  refine ConE.of (by decide +kernel) rfl (Nat.le_of_ble_eq_true rfl) rfl (fun X hX hZ hE => ?_)
  subst hX
  have hS0 : St T cn K N d wi_X10_veinMinute wr_X10_veinMinute I0 R0 I0 R0 := St.rf0 hW0
  refine tr_aload_n dX10_veinMinute_0 rfl ?_
  refine tr_iload_n dX10_veinMinute_1 rfl ?_
  refine q_callVi hE (M' := mX10_isCheese) (as := [_]) dX10_veinMinute_2 lk10_195 inX10_isCheese seX10_isCheese myX10_isCheese (by decide) ⟨by decide, by decide⟩ rfl (kR1 hS0.1 ta0) (Nat.le_of_ble_eq_true rfl) rfl rfl (by decide) (by decide) (k_X10_isCheese hS0.1 ta0) ?_
  rintro v5 cn' K' N' I1 R2 L3 ⟨rfl, rfl, rfl, rfl, rfl, rfl, h6, p7, -⟩
  refine q_if_eq 20 dX10_veinMinute_5 (by decide) (fun h8 => ?_) (fun h8 => ?_)
  · skip
    refine q_iconst dX10_veinMinute_20 (by decide) ?_
    intro v9 h10
    exact tr_iret hZ dX10_veinMinute_21 rfl (by decide) (by decide) ⟨v9, rfl, rfl, rfl, rfl, rfl, hS0, trivial⟩
  · skip
    refine tr_aload_n dX10_veinMinute_8 rfl ?_
    refine q_callVr hE (M' := mX10_presentNight) (as := []) dX10_veinMinute_9 lk10_155 inX10_presentNight seX10_presentNight myX10_presentNight (by decide) ⟨by decide, by decide⟩ rfl (kR1 hS0.1 ta0) (Nat.le_of_ble_eq_true rfl) rfl rfl (by decide) (by decide) (k_X10_presentNight hS0.1 ta0) ?_
    rintro a15 cn' K' N' I11 R12 L13 ⟨rfl, rfl, rfl, rfl, g14, ta15, -⟩
    have hS16 := hS0.tr g14 (by decide +kernel) (by decide +kernel)
    refine tr_iload_n dX10_veinMinute_12 rfl ?_
    refine tr_iload_n dX10_veinMinute_13 rfl ?_
    refine q_callVi hE (M' := mX5_minuteOfVein) (as := [_, _]) dX10_veinMinute_14 lk10_371 inX5_minuteOfVein seX5_minuteOfVein myX5_minuteOfVein (by decide) ⟨by decide, by decide⟩ rfl (kR13 hS16.1 ta15) (Nat.le_of_ble_eq_true rfl) rfl rfl (by decide) (by decide) (k_X5_minuteOfVein hS16.1 ta15) ?_
    rintro v21 cn' K' N' I17 R18 L19 ⟨rfl, rfl, rfl, rfl, rfl, rfl, -⟩
    refine tr_goto 21 dX10_veinMinute_17 (by decide) ?_
    exact tr_iret hZ dX10_veinMinute_21 rfl (by decide) (by decide) ⟨v21, rfl, rfl, rfl, rfl, rfl, hS16, trivial⟩
def wi_X10_vein : List Nat := [73, 75, 81, 768, 769, 778, 834, 2303, 2367, 2431, 2495, 2559, 2623, 2687, 2751, 2815, 2879, 2943, 3007, 3071, 3135, 3199, 3263, 3327, 3391]
def wr_X10_vein : List Nat := [832, 833]
set_option maxHeartbeats 4000000 in
theorem k_X10_vein {l : Launch} {T : Nat → Nat} {cn : Nat} {K N : Nat → Nat} {I0 : cz_I} {R0 : cz_R} {L0 : cz_L} {d : Int} (hW0 : Wf T cn K N I0 R0 d) {a0 : Nat} (ta0 : T a0 = 1) {x1 : Int32} {x2 : Int32} : ConE l mX10_vein [.ref a0, .int x1, .int x2] cn K N I0 R0 L0 (ca_i (fun v cn' K' N' I' R' L' => cn = cn' ∧ K = K' ∧ N = N' ∧ L0 = L' ∧ St T cn K N d wi_X10_vein wr_X10_vein I0 R0 I' R' ∧ True)) := by
  refine ConE.of (by decide +kernel) rfl (Nat.le_of_ble_eq_true rfl) rfl (fun X hX hZ hE => ?_)
  subst hX
  have hS0 : St T cn K N d wi_X10_vein wr_X10_vein I0 R0 I0 R0 := St.rf0 hW0
  refine tr_aload_n dX10_vein_0 rfl ?_
  refine tr_iload_n dX10_vein_1 rfl ?_
  refine tr_iload_n dX10_vein_2 rfl ?_
  refine q_callVi hE (M' := mX10_veinMinute) (as := [_, _]) dX10_vein_3 lk10_222 inX10_veinMinute seX10_veinMinute myX10_veinMinute (by decide) ⟨by decide, by decide⟩ rfl (kR1 hS0.1 ta0) (Nat.le_of_ble_eq_true rfl) rfl rfl (by decide) (by decide) (k_X10_veinMinute hS0.1 ta0) ?_
  rintro v5 cn' K' N' I1 R2 L3 ⟨rfl, rfl, rfl, rfl, g4, -⟩
  have hS6 := hS0.tr g4 (by decide +kernel) (by decide +kernel)
  refine tr_istore_n dX10_vein_6 (by decide) (by decide) ?_
  refine tr_iload_n dX10_vein_7 rfl ?_
  refine q_iconst dX10_vein_8 (by decide) ?_
  intro v7 h8
  refine q_icmp_ne 20 dX10_vein_9 (by decide) (fun h9 => ?_) (fun h9 => ?_)
  · skip
    refine tr_aload_n dX10_vein_20 rfl ?_
    refine tr_iload_n dX10_vein_21 rfl ?_
    refine q_callVi hE (M' := mX10_answered) (as := [_]) dX10_vein_22 lk10_109 inX10_answered seX10_answered myX10_answered (by decide) ⟨by decide, by decide⟩ rfl (kR1 hS6.1 ta0) (Nat.le_of_ble_eq_true rfl) rfl rfl (by decide) (by decide) (k_X10_answered hS6.1 ta0) ?_
    rintro v14 cn' K' N' I10 R11 L12 ⟨rfl, rfl, rfl, rfl, rfl, g13, -⟩
    have hS15 := hS6.tr g13 (by decide +kernel) (by decide +kernel)
    exact tr_iret hZ dX10_vein_25 rfl (by decide) (by decide) ⟨v14, rfl, rfl, rfl, rfl, rfl, hS15, trivial⟩
  · skip
    refine tr_aload_n dX10_vein_12 rfl ?_
    refine q_iconst dX10_vein_13 (by decide) ?_
    intro v16 h17
    refine q_callVi hE (M' := mX10_refused) (as := [_]) dX10_vein_14 lk10_79 inX10_refused seX10_refused myX10_refused (by decide) ⟨by decide, by decide⟩ rfl (kR1 hS6.1 ta0) (Nat.le_of_ble_eq_true rfl) rfl rfl (by decide) (by decide) (k_X10_refused hS6.1 ta0) ?_
    rintro v22 cn' K' N' I18 R19 L20 ⟨rfl, rfl, rfl, rfl, rfl, g21, -⟩
    have hS23 := hS6.tr g21 (by decide +kernel) (by decide +kernel)
    refine tr_goto 25 dX10_vein_17 (by decide) ?_
    exact tr_iret hZ dX10_vein_25 rfl (by decide) (by decide) ⟨v22, rfl, rfl, rfl, rfl, rfl, hS23, trivial⟩
set_option maxHeartbeats 4000000 in
theorem k_X10_eventCount {l : Launch} {T : Nat → Nat} {cn : Nat} {K N : Nat → Nat} {I0 : cz_I} {R0 : cz_R} {L0 : cz_L} {d : Int} (hW0 : Wf T cn K N I0 R0 d) {a0 : Nat} (ta0 : T a0 = 1) : ConE l mX10_eventCount [.ref a0] cn K N I0 R0 L0 (ca_i (fun v cn' K' N' I' R' L' => cn = cn' ∧ K = K' ∧ N = N' ∧ I0 = I' ∧ R0 = R' ∧ L0 = L' ∧ (0 ≤ v.toInt ∧ v.toInt ≤ 20) ∧ (∀ b1, R0 a0 2 = some b1 → ∀ b2, R0 a0 6 = some b2 → v.toInt = (I0 b1 3).toInt + (I0 b2 2).toInt) ∧ True)) := by
  refine ConE.of (by decide +kernel) rfl (Nat.le_of_ble_eq_true rfl) rfl (fun X hX hZ hE => ?_)
  subst hX
  obtain ⟨a1, d2, ta1⟩ := rf1_2 hW0 ta0
  obtain ⟨v3, c4⟩ : ∃ v, I0 a1 3 = v := ⟨_, rfl⟩
  have b5 := iv2_3 hW0 ta1 c4
  obtain ⟨a6, d7, ta6⟩ := rf1_6 hW0 ta0
  obtain ⟨v8, c9⟩ : ∃ v, I0 a6 2 = v := ⟨_, rfl⟩
  have b10 := iv8_2 hW0 ta6 c9
  refine tr_aload_n dX10_eventCount_0 rfl ?_
  refine tr_getR dX10_eventCount_1 fl10_16 (kR1 hW0 ta0) d2 ?_
  refine q_getI dX10_eventCount_4 fl10_311 (kR2 hW0 ta1) c4 ?_
  refine tr_aload_n dX10_eventCount_7 rfl ?_
  refine tr_getR dX10_eventCount_8 fl10_35 (kR1 hW0 ta0) d7 ?_
  refine q_getI dX10_eventCount_11 fl10_272 (kR8 hW0 ta6) c9 ?_
  refine q_iaddE dX10_eventCount_14 (by intro j1 j2 j3 j4; exact om_61695197 b5.2 b5.1 b10.2 b10.1) ?_
  intro v11 h12
  exact tr_iret hZ dX10_eventCount_15 rfl (by decide) (by decide) ⟨v11, rfl, rfl, rfl, rfl, rfl, rfl, rfl, (by exact om_612d4658 b5.2 b5.1 b10.2 b10.1 h12), (fun q0 z0 => fun q1 z1 => by obtain rfl := Option.some.inj ((d2).symm.trans z0); obtain rfl := Option.some.inj ((d7).symm.trans z1); (try rw [c4]); (try rw [c9]); (try exact om_82f20683 h12)), trivial⟩
set_option maxHeartbeats 4000000 in
theorem k_X10_eventFrom {l : Launch} {T : Nat → Nat} {cn : Nat} {K N : Nat → Nat} {I0 : cz_I} {R0 : cz_R} {L0 : cz_L} {d : Int} (hW0 : Wf T cn K N I0 R0 d) {a0 : Nat} (ta0 : T a0 = 1) {x1 : Int32} (pre0 : 0 ≤ x1.toInt) (pre1 : ∀ b1, R0 a0 2 = some b1 → ∀ b2, R0 a0 6 = some b2 → x1.toInt < (I0 b1 3).toInt + (I0 b2 2).toInt) : ConE l mX10_eventFrom [.ref a0, .int x1] cn K N I0 R0 L0 (ca_i (fun v cn' K' N' I' R' L' => cn = cn' ∧ K = K' ∧ N = N' ∧ I0 = I' ∧ R0 = R' ∧ L0 = L' ∧ True)) := by
  refine ConE.of (by decide +kernel) rfl (Nat.le_of_ble_eq_true rfl) rfl (fun X hX hZ hE => ?_)
  subst hX
  have p1 := pre0
  obtain ⟨a2, d3, ta2⟩ := rf1_2 hW0 ta0
  obtain ⟨v4, c5⟩ : ∃ v, I0 a2 3 = v := ⟨_, rfl⟩
  have b6 := iv2_3 hW0 ta2 c5
  obtain ⟨a7, d8, ta7⟩ := rf1_6 hW0 ta0
  obtain ⟨v9, c10⟩ : ∃ v, I0 a7 2 = v := ⟨_, rfl⟩
  have b11 := iv8_2 hW0 ta7 c10
  have p12 := pre1 _ d3 _ d8
  rw [c5] at p12
  rw [c10] at p12
  refine tr_iload_n dX10_eventFrom_0 rfl ?_
  refine tr_aload_n dX10_eventFrom_1 rfl ?_
  refine tr_getR dX10_eventFrom_2 fl10_16 (kR1 hW0 ta0) d3 ?_
  refine q_getI dX10_eventFrom_5 fl10_311 (kR2 hW0 ta2) c5 ?_
  refine q_icmp_ge 26 dX10_eventFrom_8 (by decide) (fun h13 => ?_) (fun h13 => ?_)
  · skip
    refine tr_aload_n dX10_eventFrom_26 rfl ?_
    refine tr_getR dX10_eventFrom_27 fl10_35 (kR1 hW0 ta0) d8 ?_
    obtain ⟨a14, d15, ta14⟩ := rf8_3 hW0 ta7
    refine tr_getR dX10_eventFrom_30 fl10_364 (kR8 hW0 ta7) d15 ?_
    refine tr_iload_n dX10_eventFrom_33 rfl ?_
    refine tr_aload_n dX10_eventFrom_34 rfl ?_
    refine tr_getR dX10_eventFrom_35 fl10_16 (kR1 hW0 ta0) d3 ?_
    refine q_getI dX10_eventFrom_38 fl10_311 (kR2 hW0 ta2) c5 ?_
    refine q_isubE dX10_eventFrom_41 (by intro j1 j2 j3 j4; exact om_3e7e54fe pre0 b6.2 b6.1 h13 j2) ?_
    intro v16 h17
    refine q_iald dX10_eventFrom_42 (kR27 hW0 ta14) (ti_in (nR27 hW0 ta14) (by exact om_db711b2e h13 h17) (by exact om_01c086bc b11.2 b11.1 p12 h17)) ?_
    intro v18 c19
    have b20 := iv27 hW0 ta14 c19
    exact tr_iret hZ dX10_eventFrom_43 rfl (by decide) (by decide) ⟨v18, rfl, rfl, rfl, rfl, rfl, rfl, rfl, trivial⟩
  · skip
    refine tr_aload_n dX10_eventFrom_11 rfl ?_
    refine tr_getR dX10_eventFrom_12 fl10_16 (kR1 hW0 ta0) d3 ?_
    obtain ⟨a21, d22, ta21⟩ := rf2_4 hW0 ta2
    refine tr_getR dX10_eventFrom_15 fl10_313 (kR2 hW0 ta2) d22 ?_
    refine tr_iload_n dX10_eventFrom_18 rfl ?_
    obtain ⟨a23, d24, ta23⟩ := rf19 hW0 ta21 (j := x1.toNatClampNeg) (ti_lt (by exact om_2cfcd5a5 p1) (by exact om_d7ac722a b6.2 b6.1 h13))
    refine tr_aald dX10_eventFrom_19 (kR19 hW0 ta21) (by decide) (by decide) (ti_in (nR19 hW0 ta21) (by exact om_2cfcd5a5 p1) (by exact om_d7ac722a b6.2 b6.1 h13)) d24 ?_
    obtain ⟨v25, c26⟩ : ∃ v, I0 a23 2 = v := ⟨_, rfl⟩
    have b27 := iv3_2 hW0 ta23 c26
    refine q_getI dX10_eventFrom_20 fl10_361 (kR3 hW0 ta23) c26 ?_
    refine tr_goto 43 dX10_eventFrom_23 (by decide) ?_
    exact tr_iret hZ dX10_eventFrom_43 rfl (by decide) (by decide) ⟨v25, rfl, rfl, rfl, rfl, rfl, rfl, rfl, trivial⟩
set_option maxHeartbeats 4000000 in
theorem k_X10_eventTo {l : Launch} {T : Nat → Nat} {cn : Nat} {K N : Nat → Nat} {I0 : cz_I} {R0 : cz_R} {L0 : cz_L} {d : Int} (hW0 : Wf T cn K N I0 R0 d) {a0 : Nat} (ta0 : T a0 = 1) {x1 : Int32} (pre0 : 0 ≤ x1.toInt) (pre1 : ∀ b1, R0 a0 2 = some b1 → ∀ b2, R0 a0 6 = some b2 → x1.toInt < (I0 b1 3).toInt + (I0 b2 2).toInt) : ConE l mX10_eventTo [.ref a0, .int x1] cn K N I0 R0 L0 (ca_i (fun v cn' K' N' I' R' L' => cn = cn' ∧ K = K' ∧ N = N' ∧ I0 = I' ∧ R0 = R' ∧ L0 = L' ∧ True)) := by
  refine ConE.of (by decide +kernel) rfl (Nat.le_of_ble_eq_true rfl) rfl (fun X hX hZ hE => ?_)
  subst hX
  have p1 := pre0
  obtain ⟨a2, d3, ta2⟩ := rf1_2 hW0 ta0
  obtain ⟨v4, c5⟩ : ∃ v, I0 a2 3 = v := ⟨_, rfl⟩
  have b6 := iv2_3 hW0 ta2 c5
  obtain ⟨a7, d8, ta7⟩ := rf1_6 hW0 ta0
  obtain ⟨v9, c10⟩ : ∃ v, I0 a7 2 = v := ⟨_, rfl⟩
  have b11 := iv8_2 hW0 ta7 c10
  have p12 := pre1 _ d3 _ d8
  rw [c5] at p12
  rw [c10] at p12
  refine tr_iload_n dX10_eventTo_0 rfl ?_
  refine tr_aload_n dX10_eventTo_1 rfl ?_
  refine tr_getR dX10_eventTo_2 fl10_16 (kR1 hW0 ta0) d3 ?_
  refine q_getI dX10_eventTo_5 fl10_311 (kR2 hW0 ta2) c5 ?_
  refine q_icmp_ge 26 dX10_eventTo_8 (by decide) (fun h13 => ?_) (fun h13 => ?_)
  · skip
    refine tr_aload_n dX10_eventTo_26 rfl ?_
    refine tr_getR dX10_eventTo_27 fl10_35 (kR1 hW0 ta0) d8 ?_
    obtain ⟨a14, d15, ta14⟩ := rf8_4 hW0 ta7
    refine tr_getR dX10_eventTo_30 fl10_369 (kR8 hW0 ta7) d15 ?_
    refine tr_iload_n dX10_eventTo_33 rfl ?_
    refine tr_aload_n dX10_eventTo_34 rfl ?_
    refine tr_getR dX10_eventTo_35 fl10_16 (kR1 hW0 ta0) d3 ?_
    refine q_getI dX10_eventTo_38 fl10_311 (kR2 hW0 ta2) c5 ?_
    refine q_isubE dX10_eventTo_41 (by intro j1 j2 j3 j4; exact om_3e7e54fe pre0 b6.2 b6.1 h13 j2) ?_
    intro v16 h17
    refine q_iald dX10_eventTo_42 (kR28 hW0 ta14) (ti_in (nR28 hW0 ta14) (by exact om_db711b2e h13 h17) (by exact om_01c086bc b11.2 b11.1 p12 h17)) ?_
    intro v18 c19
    have b20 := iv28 hW0 ta14 c19
    exact tr_iret hZ dX10_eventTo_43 rfl (by decide) (by decide) ⟨v18, rfl, rfl, rfl, rfl, rfl, rfl, rfl, trivial⟩
  · skip
    refine tr_aload_n dX10_eventTo_11 rfl ?_
    refine tr_getR dX10_eventTo_12 fl10_16 (kR1 hW0 ta0) d3 ?_
    obtain ⟨a21, d22, ta21⟩ := rf2_4 hW0 ta2
    refine tr_getR dX10_eventTo_15 fl10_313 (kR2 hW0 ta2) d22 ?_
    refine tr_iload_n dX10_eventTo_18 rfl ?_
    obtain ⟨a23, d24, ta23⟩ := rf19 hW0 ta21 (j := x1.toNatClampNeg) (ti_lt (by exact om_2cfcd5a5 p1) (by exact om_d7ac722a b6.2 b6.1 h13))
    refine tr_aald dX10_eventTo_19 (kR19 hW0 ta21) (by decide) (by decide) (ti_in (nR19 hW0 ta21) (by exact om_2cfcd5a5 p1) (by exact om_d7ac722a b6.2 b6.1 h13)) d24 ?_
    obtain ⟨v25, c26⟩ : ∃ v, I0 a23 3 = v := ⟨_, rfl⟩
    have b27 := iv3_3 hW0 ta23 c26
    refine q_getI dX10_eventTo_20 fl10_366 (kR3 hW0 ta23) c26 ?_
    refine tr_goto 43 dX10_eventTo_23 (by decide) ?_
    exact tr_iret hZ dX10_eventTo_43 rfl (by decide) (by decide) ⟨v25, rfl, rfl, rfl, rfl, rfl, rfl, rfl, trivial⟩
def wi_X10_cause : List Nat := [73, 75, 81, 768, 769, 778, 834, 2303, 2367, 2431, 2495, 2559, 2623, 2687, 2751, 2815, 2879, 2943, 3007, 3071, 3135, 3199, 3263, 3327, 3391]
def wr_X10_cause : List Nat := [832, 833]
set_option maxHeartbeats 4000000 in
theorem k_X10_cause {l : Launch} {T : Nat → Nat} {cn : Nat} {K N : Nat → Nat} {I0 : cz_I} {R0 : cz_R} {L0 : cz_L} {d : Int} (hW0 : Wf T cn K N I0 R0 d) {a0 : Nat} (ta0 : T a0 = 1) {x1 : Int32} {x2 : Int32} : ConE l mX10_cause [.ref a0, .int x1, .int x2] cn K N I0 R0 L0 (ca_i (fun v cn' K' N' I' R' L' => cn = cn' ∧ K = K' ∧ N = N' ∧ L0 = L' ∧ St T cn K N d wi_X10_cause wr_X10_cause I0 R0 I' R' ∧ True)) := by
  refine ConE.of (by decide +kernel) rfl (Nat.le_of_ble_eq_true rfl) rfl (fun X hX hZ hE => ?_)
  subst hX
  have hS0 : St T cn K N d wi_X10_cause wr_X10_cause I0 R0 I0 R0 := St.rf0 hW0
  refine tr_aload_n dX10_cause_0 rfl ?_
  refine tr_iload_n dX10_cause_1 rfl ?_
  refine tr_iload_n dX10_cause_2 rfl ?_
  refine q_callVi hE (M' := mX10_veinMinute) (as := [_, _]) dX10_cause_3 lk10_222 inX10_veinMinute seX10_veinMinute myX10_veinMinute (by decide) ⟨by decide, by decide⟩ rfl (kR1 hS0.1 ta0) (Nat.le_of_ble_eq_true rfl) rfl rfl (by decide) (by decide) (k_X10_veinMinute hS0.1 ta0) ?_
  rintro v5 cn' K' N' I1 R2 L3 ⟨rfl, rfl, rfl, rfl, g4, -⟩
  have hS6 := hS0.tr g4 (by decide +kernel) (by decide +kernel)
  refine tr_istore_n dX10_cause_6 (by decide) (by decide) ?_
  refine tr_iload_n dX10_cause_7 rfl ?_
  refine q_iconst dX10_cause_8 (by decide) ?_
  intro v7 h8
  refine q_icmp_ne 18 dX10_cause_9 (by decide) (fun h9 => ?_) (fun h9 => ?_)
  · skip
    refine q_iconst dX10_cause_18 (by decide) ?_
    intro v10 h11
    refine tr_istore dX10_cause_19 (by decide) (by decide) ?_
    have lp22 : ∀ (fu : Nat) (ls : Nat → Option Value) (v12 : Int32) (I18 : cz_I) (R19 : cz_R), ls 0 = some (.ref a0) → ls 1 = some (.int x1) → ls 2 = some (.int x2) → ls 3 = some (.int v5) → ls 4 = some (.int v12) → St T cn K N d wi_X10_cause wr_X10_cause I0 R0 I18 R19 → 0 ≤ v12.toInt → (-v12.toInt + 2147483647).toNat < fu → Tr X mX10_cause 21 ls [] cn K N I18 R19 L0 0 0 := by
      intro fu
      induction fu with
      | zero => intros; rename_i hz; exact absurd hz (Nat.not_lt_zero _)
      | succ fu ih22 =>
        intro ls v12 I18 R19 hl13 hl14 hl15 hl16 hl17 hS20 g21 hm22
        refine tr_iload dX10_cause_21 hl17 ?_
        refine tr_aload_n dX10_cause_23 hl13 ?_
        obtain ⟨a24, d25, ta24⟩ := rf1_2 hW0 ta0
        obtain ⟨v26, c27⟩ : ∃ v, I0 a24 3 = v := ⟨_, rfl⟩
        have b28 := iv2_3 hW0 ta24 c27
        obtain ⟨a29, d30, ta29⟩ := rf1_6 hW0 ta0
        obtain ⟨v31, c32⟩ : ∃ v, I0 a29 2 = v := ⟨_, rfl⟩
        have b33 := iv8_2 hW0 ta29 c32
        refine q_callVi hE (M' := mX10_eventCount) (as := []) dX10_cause_24 lk10_225 inX10_eventCount seX10_eventCount myX10_eventCount (by decide) ⟨by decide, by decide⟩ rfl (kR1 hS20.1 ta0) (Nat.le_of_ble_eq_true rfl) rfl rfl (by decide) (by decide) (k_X10_eventCount hS20.1 ta0) ?_
        rintro v38 cn' K' N' I34 R35 L36 ⟨rfl, rfl, rfl, rfl, rfl, rfl, h39, p40, -⟩
        have p41 := p40 _ ((hS20.rcell ta0 (by decide +kernel)).trans d25) _ ((hS20.rcell ta0 (by decide +kernel)).trans d30)
        clear p40
        rw [((hS20.cell ta24 (by decide +kernel)).trans c27)] at p41
        rw [((hS20.cell ta29 (by decide +kernel)).trans c32)] at p41
        refine q_icmp_ge 63 dX10_cause_27 (by decide) (fun h42 => ?_) (fun h42 => ?_)
        · skip
          refine tr_aload_n dX10_cause_63 hl13 ?_
          refine q_bipush dX10_cause_64 (by decide +kernel) ?_
          intro v43 h44
          refine q_callVi hE (M' := mX10_answered) (as := [_]) dX10_cause_66 lk10_109 inX10_answered seX10_answered myX10_answered (by decide) ⟨by decide, by decide⟩ rfl (kR1 hS20.1 ta0) (Nat.le_of_ble_eq_true rfl) rfl rfl (by decide) (by decide) (k_X10_answered hS20.1 ta0) ?_
          rintro v49 cn' K' N' I45 R46 L47 ⟨rfl, rfl, rfl, rfl, rfl, g48, -⟩
          have hS50 := hS20.tr g48 (by decide +kernel) (by decide +kernel)
          exact tr_iret hZ dX10_cause_69 rfl (by decide) (by decide) ⟨v49, rfl, rfl, rfl, rfl, rfl, hS50, trivial⟩
        · skip
          refine tr_aload_n dX10_cause_30 hl13 ?_
          refine tr_iload dX10_cause_31 hl17 ?_
          refine q_callVi hE (M' := mX10_eventFrom) (as := [_]) dX10_cause_33 lk10_228 inX10_eventFrom seX10_eventFrom myX10_eventFrom (by decide) ⟨by decide, by decide⟩ rfl (kR1 hS20.1 ta0) (Nat.le_of_ble_eq_true rfl) rfl rfl (by decide) (by decide) (k_X10_eventFrom hS20.1 ta0 (by exact om_2cfcd5a5 g21) (fun q0 z0 => fun q1 z1 => by obtain rfl := Option.some.inj ((((hS20.rcell ta0 (by decide +kernel)).trans d25)).symm.trans z0); obtain rfl := Option.some.inj ((((hS20.rcell ta0 (by decide +kernel)).trans d30)).symm.trans z1); (try rw [((hS20.cell ta24 (by decide +kernel)).trans c27)]); (try rw [((hS20.cell ta29 (by decide +kernel)).trans c32)]); (try exact om_af2a18fa p41 h42))) ?_
          rintro v55 cn' K' N' I51 R52 L53 ⟨rfl, rfl, rfl, rfl, rfl, rfl, -⟩
          refine tr_iload_n dX10_cause_36 hl16 ?_
          refine q_icmp_eq 50 dX10_cause_37 (by decide) (fun h56 => ?_) (fun h56 => ?_)
          · skip
            refine tr_aload_n dX10_cause_50 hl13 ?_
            refine tr_iload dX10_cause_51 hl17 ?_
            refine q_callVi hE (M' := mX10_answered) (as := [_]) dX10_cause_53 lk10_109 inX10_answered seX10_answered myX10_answered (by decide) ⟨by decide, by decide⟩ rfl (kR1 hS20.1 ta0) (Nat.le_of_ble_eq_true rfl) rfl rfl (by decide) (by decide) (k_X10_answered hS20.1 ta0) ?_
            rintro v61 cn' K' N' I57 R58 L59 ⟨rfl, rfl, rfl, rfl, rfl, g60, -⟩
            have hS62 := hS20.tr g60 (by decide +kernel) (by decide +kernel)
            exact tr_iret hZ dX10_cause_56 rfl (by decide) (by decide) ⟨v61, rfl, rfl, rfl, rfl, rfl, hS62, trivial⟩
          · skip
            refine tr_aload_n dX10_cause_40 hl13 ?_
            refine tr_iload dX10_cause_41 hl17 ?_
            refine q_callVi hE (M' := mX10_eventTo) (as := [_]) dX10_cause_43 lk10_231 inX10_eventTo seX10_eventTo myX10_eventTo (by decide) ⟨by decide, by decide⟩ rfl (kR1 hS20.1 ta0) (Nat.le_of_ble_eq_true rfl) rfl rfl (by decide) (by decide) (k_X10_eventTo hS20.1 ta0 (by exact om_2cfcd5a5 g21) (fun q0 z0 => fun q1 z1 => by obtain rfl := Option.some.inj ((((hS20.rcell ta0 (by decide +kernel)).trans d25)).symm.trans z0); obtain rfl := Option.some.inj ((((hS20.rcell ta0 (by decide +kernel)).trans d30)).symm.trans z1); (try rw [((hS20.cell ta24 (by decide +kernel)).trans c27)]); (try rw [((hS20.cell ta29 (by decide +kernel)).trans c32)]); (try exact om_af2a18fa p41 h42))) ?_
            rintro v67 cn' K' N' I63 R64 L65 ⟨rfl, rfl, rfl, rfl, rfl, rfl, -⟩
            refine tr_iload_n dX10_cause_46 hl16 ?_
            refine q_icmp_ne 57 dX10_cause_47 (by decide) (fun h68 => ?_) (fun h68 => ?_)
            · skip
              refine q_iincE dX10_cause_57 hl17 (by decide) (by decide) (by intro j1 j2; exact om_8a01fdcf g21 h39.2 h39.1 h42 j2) ?_
              intro v69 h70
              refine tr_goto 21 dX10_cause_60 (by decide) ?_
              exact ih22 _ v69 I18 R19 hl13 hl14 hl15 hl16 rfl hS20 (by exact om_68881c41 g21 h70) (by exact om_43ba554c g21 hm22 h39.2 h39.1 h42 h56 h68 h70)
            · skip
              refine tr_aload_n dX10_cause_50 hl13 ?_
              refine tr_iload dX10_cause_51 hl17 ?_
              refine q_callVi hE (M' := mX10_answered) (as := [_]) dX10_cause_53 lk10_109 inX10_answered seX10_answered myX10_answered (by decide) ⟨by decide, by decide⟩ rfl (kR1 hS20.1 ta0) (Nat.le_of_ble_eq_true rfl) rfl rfl (by decide) (by decide) (k_X10_answered hS20.1 ta0) ?_
              rintro v75 cn' K' N' I71 R72 L73 ⟨rfl, rfl, rfl, rfl, rfl, g74, -⟩
              have hS76 := hS20.tr g74 (by decide +kernel) (by decide +kernel)
              exact tr_iret hZ dX10_cause_56 rfl (by decide) (by decide) ⟨v75, rfl, rfl, rfl, rfl, rfl, hS76, trivial⟩
    exact lp22 _ _ v10 I1 R2 rfl rfl rfl rfl rfl hS6 (by exact om_d99fa9e4 h11) (Nat.lt_succ_self _)
  · skip
    refine tr_aload_n dX10_cause_12 rfl ?_
    refine q_iconst dX10_cause_13 (by decide) ?_
    intro v77 h78
    refine q_callVi hE (M' := mX10_refused) (as := [_]) dX10_cause_14 lk10_79 inX10_refused seX10_refused myX10_refused (by decide) ⟨by decide, by decide⟩ rfl (kR1 hS6.1 ta0) (Nat.le_of_ble_eq_true rfl) rfl rfl (by decide) (by decide) (k_X10_refused hS6.1 ta0) ?_
    rintro v83 cn' K' N' I79 R80 L81 ⟨rfl, rfl, rfl, rfl, rfl, g82, -⟩
    have hS84 := hS6.tr g82 (by decide +kernel) (by decide +kernel)
    exact tr_iret hZ dX10_cause_17 rfl (by decide) (by decide) ⟨v83, rfl, rfl, rfl, rfl, rfl, hS84, trivial⟩
def wi_X10_total : List Nat := [73, 75, 81, 768, 769, 778, 834, 2303, 2367, 2431, 2495, 2559, 2623, 2687, 2751, 2815, 2879, 2943, 3007, 3071, 3135, 3199, 3263, 3327, 3391]
def wr_X10_total : List Nat := [832, 833]
set_option maxHeartbeats 4000000 in
theorem k_X10_total {l : Launch} {T : Nat → Nat} {cn : Nat} {K N : Nat → Nat} {I0 : cz_I} {R0 : cz_R} {L0 : cz_L} {d : Int} (hW0 : Wf T cn K N I0 R0 d) {a0 : Nat} (ta0 : T a0 = 1) : ConE l mX10_total [.ref a0] cn K N I0 R0 L0 (ca_i (fun v cn' K' N' I' R' L' => cn = cn' ∧ K = K' ∧ N = N' ∧ L0 = L' ∧ St T cn K N d wi_X10_total wr_X10_total I0 R0 I' R' ∧ True)) := by
  refine ConE.of (by decide +kernel) rfl (Nat.le_of_ble_eq_true rfl) rfl (fun X hX hZ hE => ?_)
  subst hX
  have hS0 : St T cn K N d wi_X10_total wr_X10_total I0 R0 I0 R0 := St.rf0 hW0
  refine tr_aload_n dX10_total_0 rfl ?_
  obtain ⟨v1, c2⟩ : ∃ v, I0 a0 5 = v := ⟨_, rfl⟩
  have b3 := iv1_5 hW0 ta0 c2
  refine q_getZ dX10_total_1 fl10_95 (kR1 hS0.1 ta0) c2 ?_
  refine q_if_eq 21 dX10_total_4 (by decide) (fun h4 => ?_) (fun h4 => ?_)
  · skip
    refine tr_aload_n dX10_total_21 rfl ?_
    refine q_iconst dX10_total_22 (by decide) ?_
    intro v5 h6
    refine q_callVi hE (M' := mX10_refusedTotal) (as := [_]) dX10_total_23 lk10_178 inX10_refusedTotal seX10_refusedTotal myX10_refusedTotal (by decide) ⟨by decide, by decide⟩ rfl (kR1 hS0.1 ta0) (Nat.le_of_ble_eq_true rfl) rfl rfl (by decide) (by decide) (k_X10_refusedTotal hS0.1 ta0) ?_
    rintro v11 cn' K' N' I7 R8 L9 ⟨rfl, rfl, rfl, rfl, rfl, g10, -⟩
    have hS12 := hS0.tr g10 (by decide +kernel) (by decide +kernel)
    exact tr_iret hZ dX10_total_26 rfl (by decide) (by decide) ⟨v11, rfl, rfl, rfl, rfl, rfl, hS12, trivial⟩
  · skip
    refine tr_aload_n dX10_total_7 rfl ?_
    refine tr_aload_n dX10_total_8 rfl ?_
    refine q_callVr hE (M' := mX10_presentNight) (as := []) dX10_total_9 lk10_155 inX10_presentNight seX10_presentNight myX10_presentNight (by decide) ⟨by decide, by decide⟩ rfl (kR1 hS0.1 ta0) (Nat.le_of_ble_eq_true rfl) rfl rfl (by decide) (by decide) (k_X10_presentNight hS0.1 ta0) ?_
    rintro a17 cn' K' N' I13 R14 L15 ⟨rfl, rfl, rfl, rfl, g16, ta17, -⟩
    have hS18 := hS0.tr g16 (by decide +kernel) (by decide +kernel)
    refine q_callVi hE (M' := mX5_sum) (as := []) dX10_total_12 lk10_192 inX5_sum seX5_sum myX5_sum (by decide) ⟨by decide, by decide⟩ rfl (kR13 hS18.1 ta17) (Nat.le_of_ble_eq_true rfl) rfl rfl (by decide) (by decide) (k_X5_sum hS18.1 ta17) ?_
    rintro v23 cn' K' N' I19 R20 L21 ⟨rfl, rfl, rfl, rfl, rfl, rfl, -⟩
    refine q_callVi hE (M' := mX10_answered) (as := [_]) dX10_total_15 lk10_109 inX10_answered seX10_answered myX10_answered (by decide) ⟨by decide, by decide⟩ rfl (kR1 hS18.1 ta0) (Nat.le_of_ble_eq_true rfl) rfl rfl (by decide) (by decide) (k_X10_answered hS18.1 ta0) ?_
    rintro v28 cn' K' N' I24 R25 L26 ⟨rfl, rfl, rfl, rfl, rfl, g27, -⟩
    have hS29 := hS18.tr g27 (by decide +kernel) (by decide +kernel)
    refine tr_goto 26 dX10_total_18 (by decide) ?_
    exact tr_iret hZ dX10_total_26 rfl (by decide) (by decide) ⟨v28, rfl, rfl, rfl, rfl, rfl, hS29, trivial⟩
set_option maxHeartbeats 4000000 in
theorem k_X10_isEvent {l : Launch} {T : Nat → Nat} {cn : Nat} {K N : Nat → Nat} {I0 : cz_I} {R0 : cz_R} {L0 : cz_L} {d : Int} (hW0 : Wf T cn K N I0 R0 d) {a0 : Nat} (ta0 : T a0 = 1) {x1 : Int32} : ConE l mX10_isEvent [.ref a0, .int x1] cn K N I0 R0 L0 (ca_i (fun v cn' K' N' I' R' L' => cn = cn' ∧ K = K' ∧ N = N' ∧ I0 = I' ∧ R0 = R' ∧ L0 = L' ∧ (0 ≤ v.toInt ∧ v.toInt ≤ 1) ∧ (∀ b1, R0 a0 2 = some b1 → ∀ b2, R0 a0 6 = some b2 → (v.toInt = 1 → (0 ≤ x1.toInt ∧ x1.toInt < (I0 b1 3).toInt + (I0 b2 2).toInt))) ∧ True)) := by
  refine ConE.of (by decide +kernel) rfl (Nat.le_of_ble_eq_true rfl) rfl (fun X hX hZ hE => ?_)
  subst hX
  obtain ⟨a1, d2, ta1⟩ := rf1_2 hW0 ta0
  obtain ⟨v3, c4⟩ : ∃ v, I0 a1 3 = v := ⟨_, rfl⟩
  have b5 := iv2_3 hW0 ta1 c4
  obtain ⟨a6, d7, ta6⟩ := rf1_6 hW0 ta0
  obtain ⟨v8, c9⟩ : ∃ v, I0 a6 2 = v := ⟨_, rfl⟩
  have b10 := iv8_2 hW0 ta6 c9
  refine tr_iload_n dX10_isEvent_0 rfl ?_
  refine q_if_lt 16 dX10_isEvent_1 (by decide) (fun h11 => ?_) (fun h11 => ?_)
  · skip
    refine q_iconst dX10_isEvent_16 (by decide) ?_
    intro v12 h13
    exact tr_zret hZ dX10_isEvent_17 rfl (ti_b01 (by exact om_d99fa9e4 h13) (by exact om_d3de7ec9 h13)) (by decide) (by decide) ⟨v12, rfl, rfl, rfl, rfl, rfl, rfl, rfl, (by exact om_3b50ecb9 h13), (fun q0 z0 => fun q1 z1 => by obtain rfl := Option.some.inj ((d2).symm.trans z0); obtain rfl := Option.some.inj ((d7).symm.trans z1); (try rw [c4]); (try rw [c9]); (try exact om_ff169f22 h13)), trivial⟩
  · skip
    refine tr_iload_n dX10_isEvent_4 rfl ?_
    refine tr_aload_n dX10_isEvent_5 rfl ?_
    refine q_callVi hE (M' := mX10_eventCount) (as := []) dX10_isEvent_6 lk10_225 inX10_eventCount seX10_eventCount myX10_eventCount (by decide) ⟨by decide, by decide⟩ rfl (kR1 hW0 ta0) (Nat.le_of_ble_eq_true rfl) rfl rfl (by decide) (by decide) (k_X10_eventCount hW0 ta0) ?_
    rintro v18 cn' K' N' I14 R15 L16 ⟨rfl, rfl, rfl, rfl, rfl, rfl, h19, p20, -⟩
    have p21 := p20 _ d2 _ d7
    clear p20
    rw [c4] at p21
    rw [c9] at p21
    refine q_icmp_ge 16 dX10_isEvent_9 (by decide) (fun h22 => ?_) (fun h22 => ?_)
    · skip
      refine q_iconst dX10_isEvent_16 (by decide) ?_
      intro v23 h24
      exact tr_zret hZ dX10_isEvent_17 rfl (ti_b01 (by exact om_d99fa9e4 h24) (by exact om_d3de7ec9 h24)) (by decide) (by decide) ⟨v23, rfl, rfl, rfl, rfl, rfl, rfl, rfl, (by exact om_3b50ecb9 h24), (fun q0 z0 => fun q1 z1 => by obtain rfl := Option.some.inj ((d2).symm.trans z0); obtain rfl := Option.some.inj ((d7).symm.trans z1); (try rw [c4]); (try rw [c9]); (try exact om_ff169f22 h24)), trivial⟩
    · skip
      refine q_iconst dX10_isEvent_12 (by decide) ?_
      intro v25 h26
      refine tr_goto 17 dX10_isEvent_13 (by decide) ?_
      exact tr_zret hZ dX10_isEvent_17 rfl (ti_b01 (by exact om_f9079521 h26) (by exact om_e6632817 h26)) (by decide) (by decide) ⟨v25, rfl, rfl, rfl, rfl, rfl, rfl, rfl, (by exact om_d753bc65 h26), (fun q0 z0 => fun q1 z1 => by obtain rfl := Option.some.inj ((d2).symm.trans z0); obtain rfl := Option.some.inj ((d7).symm.trans z1); (try rw [c4]); (try rw [c9]); (try exact om_412ad837 h11 p21 h22)), trivial⟩
def wi_X10_without : List Nat := [73, 75, 81, 768, 769, 778, 834, 2303, 2367, 2431, 2495, 2559, 2623, 2687, 2751, 2815, 2879, 2943, 3007, 3071, 3135, 3199, 3263, 3327, 3391]
def wr_X10_without : List Nat := [832, 833]
set_option maxHeartbeats 4000000 in
theorem k_X10_without {l : Launch} {T : Nat → Nat} {cn : Nat} {K N : Nat → Nat} {I0 : cz_I} {R0 : cz_R} {L0 : cz_L} {d : Int} (hW0 : Wf T cn K N I0 R0 d) {a0 : Nat} (ta0 : T a0 = 1) {x1 : Int32} : ConE l mX10_without [.ref a0, .int x1] cn K N I0 R0 L0 (ca_i (fun v cn' K' N' I' R' L' => cn = cn' ∧ K = K' ∧ N = N' ∧ L0 = L' ∧ St T cn K N d wi_X10_without wr_X10_without I0 R0 I' R' ∧ True)) := by
  refine ConE.of (by decide +kernel) rfl (Nat.le_of_ble_eq_true rfl) rfl (fun X hX hZ hE => ?_)
  subst hX
  have hS0 : St T cn K N d wi_X10_without wr_X10_without I0 R0 I0 R0 := St.rf0 hW0
  refine tr_aload_n dX10_without_0 rfl ?_
  refine tr_iload_n dX10_without_1 rfl ?_
  obtain ⟨a1, d2, ta1⟩ := rf1_2 hW0 ta0
  obtain ⟨v3, c4⟩ : ∃ v, I0 a1 3 = v := ⟨_, rfl⟩
  have b5 := iv2_3 hW0 ta1 c4
  obtain ⟨a6, d7, ta6⟩ := rf1_6 hW0 ta0
  obtain ⟨v8, c9⟩ : ∃ v, I0 a6 2 = v := ⟨_, rfl⟩
  have b10 := iv8_2 hW0 ta6 c9
  refine q_callVi hE (M' := mX10_isEvent) (as := [_]) dX10_without_2 lk10_234 inX10_isEvent seX10_isEvent myX10_isEvent (by decide) ⟨by decide, by decide⟩ rfl (kR1 hS0.1 ta0) (Nat.le_of_ble_eq_true rfl) rfl rfl (by decide) (by decide) (k_X10_isEvent hS0.1 ta0) ?_
  rintro v15 cn' K' N' I11 R12 L13 ⟨rfl, rfl, rfl, rfl, rfl, rfl, h16, p17, -⟩
  have p18 := p17 _ d2 _ d7
  clear p17
  rw [c4] at p18
  rw [c9] at p18
  refine q_if_ne 14 dX10_without_5 (by decide) (fun h19 => ?_) (fun h19 => ?_)
  · skip
    refine tr_aload_n dX10_without_14 rfl ?_
    obtain ⟨a20, d21, ta20⟩ := rf1_13 hW0 ta0
    refine tr_getR dX10_without_15 fl10_65 (kR1 hS0.1 ta0) d21 ?_
    refine tr_aload_n dX10_without_18 rfl ?_
    refine tr_getR dX10_without_19 fl10_16 (kR1 hS0.1 ta0) d2 ?_
    refine tr_aload_n dX10_without_22 rfl ?_
    refine tr_getR dX10_without_23 fl10_35 (kR1 hS0.1 ta0) d7 ?_
    refine tr_iload_n dX10_without_26 rfl ?_
    refine q_callVv hE (M' := mX8_build) (as := [_, _, _]) dX10_without_27 lk10_237 inX8_build seX8_build myX8_build (by decide) ⟨by decide, by decide⟩ rfl (kR12 hS0.1 ta20) (Nat.le_of_ble_eq_true rfl) rfl rfl (by decide) (by decide) (k_X8_build hS0.1 ta20 ta1 ta6) ?_
    rintro cn' K' N' I22 R23 L24 ⟨rfl, rfl, rfl, rfl, rfl, g25, -⟩
    have hS27 := hS0.tr g25 (by decide +kernel) (by decide +kernel)
    refine tr_aload_n dX10_without_30 rfl ?_
    obtain ⟨a28, d29, ta28⟩ := rf1_14 hW0 ta0
    refine tr_getR dX10_without_31 fl10_68 (kR1 hS27.1 ta0) d29 ?_
    refine tr_aload_n dX10_without_34 rfl ?_
    refine tr_getR dX10_without_35 fl10_16 (kR1 hS27.1 ta0) d2 ?_
    refine tr_aload_n dX10_without_38 rfl ?_
    refine tr_getR dX10_without_39 fl10_65 (kR1 hS27.1 ta0) d21 ?_
    refine tr_aload_n dX10_without_42 rfl ?_
    refine tr_getR dX10_without_43 fl10_35 (kR1 hS27.1 ta0) d7 ?_
    obtain ⟨v30, c31⟩ : ∃ v, I0 a6 0 = v := ⟨_, rfl⟩
    refine q_getI dX10_without_46 fl10_181 (kR8 hS27.1 ta6) ((hS27.cell ta6 (by decide +kernel)).trans c31) ?_
    refine tr_aload_n dX10_without_49 rfl ?_
    refine q_callVi hE (M' := mX10_allTurners) (as := []) dX10_without_50 lk10_184 inX10_allTurners seX10_allTurners myX10_allTurners (by decide) ⟨by decide, by decide⟩ rfl (kR1 hS27.1 ta0) (Nat.le_of_ble_eq_true rfl) rfl rfl (by decide) (by decide) (k_X10_allTurners hS27.1 ta0) ?_
    rintro v36 cn' K' N' I32 R33 L34 ⟨rfl, rfl, rfl, rfl, rfl, rfl, h37, -⟩
    refine q_callVv hE (M' := mX5_play) (as := [_, _, _, _]) dX10_without_53 lk10_188 inX5_play seX5_play myX5_play (by decide) ⟨by decide, by decide⟩ rfl (kR13 hS27.1 ta28) (Nat.le_of_ble_eq_true rfl) rfl rfl (by decide) (by decide) (k_X5_play hS27.1 ta28 ta1 ta20) ?_
    rintro cn' K' N' I38 R39 L40 ⟨rfl, rfl, rfl, rfl, g41, -⟩
    have hS43 := hS27.tr g41 (by decide +kernel) (by decide +kernel)
    refine tr_aload_n dX10_without_56 rfl ?_
    refine tr_aload_n dX10_without_57 rfl ?_
    refine tr_getR dX10_without_58 fl10_68 (kR1 hS43.1 ta0) ((hS43.rcell ta0 (by decide +kernel)).trans d29) ?_
    refine q_callVi hE (M' := mX5_sum) (as := []) dX10_without_61 lk10_192 inX5_sum seX5_sum myX5_sum (by decide) ⟨by decide, by decide⟩ rfl (kR13 hS43.1 ta28) (Nat.le_of_ble_eq_true rfl) rfl rfl (by decide) (by decide) (k_X5_sum hS43.1 ta28) ?_
    rintro v48 cn' K' N' I44 R45 L46 ⟨rfl, rfl, rfl, rfl, rfl, rfl, -⟩
    refine tr_aload_n dX10_without_64 rfl ?_
    refine q_callVr hE (M' := mX10_presentNight) (as := []) dX10_without_65 lk10_155 inX10_presentNight seX10_presentNight myX10_presentNight (by decide) ⟨by decide, by decide⟩ rfl (kR1 hS43.1 ta0) (Nat.le_of_ble_eq_true rfl) rfl rfl (by decide) (by decide) (k_X10_presentNight hS43.1 ta0) ?_
    rintro a53 cn' K' N' I49 R50 L51 ⟨rfl, rfl, rfl, rfl, g52, ta53, -⟩
    have hS54 := hS43.tr g52 (by decide +kernel) (by decide +kernel)
    refine q_callVi hE (M' := mX5_sum) (as := []) dX10_without_68 lk10_192 inX5_sum seX5_sum myX5_sum (by decide) ⟨by decide, by decide⟩ rfl (kR13 hS54.1 ta53) (Nat.le_of_ble_eq_true rfl) rfl rfl (by decide) (by decide) (k_X5_sum hS54.1 ta53) ?_
    rintro v59 cn' K' N' I55 R56 L57 ⟨rfl, rfl, rfl, rfl, rfl, rfl, -⟩
    refine q_isub dX10_without_71 ?_
    intro v60
    refine q_callVi hE (M' := mX10_answered) (as := [_]) dX10_without_72 lk10_109 inX10_answered seX10_answered myX10_answered (by decide) ⟨by decide, by decide⟩ rfl (kR1 hS54.1 ta0) (Nat.le_of_ble_eq_true rfl) rfl rfl (by decide) (by decide) (k_X10_answered hS54.1 ta0) ?_
    rintro v65 cn' K' N' I61 R62 L63 ⟨rfl, rfl, rfl, rfl, rfl, g64, -⟩
    have hS66 := hS54.tr g64 (by decide +kernel) (by decide +kernel)
    exact tr_iret hZ dX10_without_75 rfl (by decide) (by decide) ⟨v65, rfl, rfl, rfl, rfl, rfl, hS66, trivial⟩
  · skip
    refine tr_aload_n dX10_without_8 rfl ?_
    refine q_iconst dX10_without_9 (by decide) ?_
    intro v67 h68
    refine q_callVi hE (M' := mX10_refusedTotal) (as := [_]) dX10_without_10 lk10_178 inX10_refusedTotal seX10_refusedTotal myX10_refusedTotal (by decide) ⟨by decide, by decide⟩ rfl (kR1 hS0.1 ta0) (Nat.le_of_ble_eq_true rfl) rfl rfl (by decide) (by decide) (k_X10_refusedTotal hS0.1 ta0) ?_
    rintro v73 cn' K' N' I69 R70 L71 ⟨rfl, rfl, rfl, rfl, rfl, g72, -⟩
    have hS74 := hS0.tr g72 (by decide +kernel) (by decide +kernel)
    exact tr_iret hZ dX10_without_13 rfl (by decide) (by decide) ⟨v73, rfl, rfl, rfl, rfl, rfl, hS74, trivial⟩
