def wi_X10_cloudsMoved : List Nat := [73, 75]
def wr_X10_cloudsMoved : List Nat := []
set_option maxHeartbeats 4000000 in
theorem k_X10_cloudsMoved {l : Launch} {T : Nat → Nat} {cn : Nat} {K N : Nat → Nat} {I0 : cz_I} {R0 : cz_R} {L0 : cz_L} {d : Int} (hW0 : Wf T cn K N I0 R0 d) {a0 : Nat} (ta0 : T a0 = 1) : ConE l mX10_cloudsMoved [.ref a0] cn K N I0 R0 L0 (ca_v (fun cn' K' N' I' R' L' => cn = cn' ∧ K = K' ∧ N = N' ∧ R0 = R' ∧ L0 = L' ∧ St T cn K N d wi_X10_cloudsMoved wr_X10_cloudsMoved I0 R0 I' R0 ∧ True)) := by
  refine ConE.of (by decide +kernel) rfl (Nat.le_of_ble_eq_true rfl) rfl (fun X hX hZ hE => ?_)
  subst hX
  have hS0 : St T cn K N d wi_X10_cloudsMoved wr_X10_cloudsMoved I0 R0 I0 R0 := St.rf0 hW0
  refine tr_aload_n dX10_cloudsMoved_0 rfl ?_
  refine q_iconst dX10_cloudsMoved_1 (by decide) ?_
  intro v1 h2
  refine q_putZ dX10_cloudsMoved_2 fl10_358 (kR1 hS0.1 ta0) (Or.inl rfl) hS0 ta0 (by exact om_3b50ecb9 h2) (by show (0 : Int) ≤ v1.toInt ∧ v1.toInt ≤ (1 : Int); exact om_3b50ecb9 h2) rfl (by decide +kernel) ?_
  intro I3 hS4 e5 f6
  refine tr_aload_n dX10_cloudsMoved_5 rfl ?_
  refine q_iconst dX10_cloudsMoved_6 (by decide) ?_
  intro v7 h8
  refine q_putZ dX10_cloudsMoved_7 fl10_288 (kR1 hS4.1 ta0) (Or.inl rfl) hS4 ta0 (by exact om_3b50ecb9 h8) (by show (0 : Int) ≤ v7.toInt ∧ v7.toInt ≤ (1 : Int); exact om_3b50ecb9 h8) rfl (by decide +kernel) ?_
  intro I9 hS10 e11 f12
  have c13 : I9 a0 9 = v1 := (f12 _ _ (fun q => absurd q.2 (by decide))).trans e5
  exact tr_vret hZ dX10_cloudsMoved_10 rfl (by decide) (by decide) ⟨rfl, rfl, rfl, rfl, rfl, rfl, hS10, trivial⟩
def wi_X10_answered : List Nat := [81]
def wr_X10_answered : List Nat := []
set_option maxHeartbeats 4000000 in
theorem k_X10_answered {l : Launch} {T : Nat → Nat} {cn : Nat} {K N : Nat → Nat} {I0 : cz_I} {R0 : cz_R} {L0 : cz_L} {d : Int} (hW0 : Wf T cn K N I0 R0 d) {a0 : Nat} (ta0 : T a0 = 1) {x1 : Int32} : ConE l mX10_answered [.ref a0, .int x1] cn K N I0 R0 L0 (ca_i (fun v cn' K' N' I' R' L' => cn = cn' ∧ K = K' ∧ N = N' ∧ R0 = R' ∧ L0 = L' ∧ St T cn K N d wi_X10_answered wr_X10_answered I0 R0 I' R0 ∧ True)) := by
  refine ConE.of (by decide +kernel) rfl (Nat.le_of_ble_eq_true rfl) rfl (fun X hX hZ hE => ?_)
  subst hX
  have hS0 : St T cn K N d wi_X10_answered wr_X10_answered I0 R0 I0 R0 := St.rf0 hW0
  refine tr_aload_n dX10_answered_0 rfl ?_
  refine q_iconst dX10_answered_1 (by decide) ?_
  intro v1 h2
  refine q_putI dX10_answered_2 fl10_112 (kR1 hS0.1 ta0) (Or.inl rfl) hS0 ta0 (iokF rfl) rfl (by decide +kernel) ?_
  intro I3 hS4 e5 f6
  refine tr_iload_n dX10_answered_5 rfl ?_
  exact tr_iret hZ dX10_answered_6 rfl (by decide) (by decide) ⟨x1, rfl, rfl, rfl, rfl, rfl, rfl, hS4, trivial⟩
set_option maxHeartbeats 4000000 in
theorem k_X10_fault {l : Launch} {T : Nat → Nat} {cn : Nat} {K N : Nat → Nat} {I0 : cz_I} {R0 : cz_R} {L0 : cz_L} {d : Int} (hW0 : Wf T cn K N I0 R0 d) {a0 : Nat} (ta0 : T a0 = 1) : ConE l mX10_fault [.ref a0] cn K N I0 R0 L0 (ca_i (fun v cn' K' N' I' R' L' => cn = cn' ∧ K = K' ∧ N = N' ∧ I0 = I' ∧ R0 = R' ∧ L0 = L' ∧ (v.toInt = (I0 a0 15).toInt) ∧ True)) := by
  refine ConE.of (by decide +kernel) rfl (Nat.le_of_ble_eq_true rfl) rfl (fun X hX hZ hE => ?_)
  subst hX
  obtain ⟨v1, c2⟩ : ∃ v, I0 a0 15 = v := ⟨_, rfl⟩
  refine tr_aload_n dX10_fault_0 rfl ?_
  refine q_getI dX10_fault_1 fl10_90 (kR1 hW0 ta0) c2 ?_
  exact tr_iret hZ dX10_fault_4 rfl (by decide) (by decide) ⟨v1, rfl, rfl, rfl, rfl, rfl, rfl, rfl, (by (try rw [c2]); (try omega)), trivial⟩
set_option maxHeartbeats 4000000 in
theorem k_X10_where {l : Launch} {T : Nat → Nat} {cn : Nat} {K N : Nat → Nat} {I0 : cz_I} {R0 : cz_R} {L0 : cz_L} {d : Int} (hW0 : Wf T cn K N I0 R0 d) {a0 : Nat} (ta0 : T a0 = 1) : ConE l mX10_where [.ref a0] cn K N I0 R0 L0 (ca_i (fun v cn' K' N' I' R' L' => cn = cn' ∧ K = K' ∧ N = N' ∧ I0 = I' ∧ R0 = R' ∧ L0 = L' ∧ True)) := by
  refine ConE.of (by decide +kernel) rfl (Nat.le_of_ble_eq_true rfl) rfl (fun X hX hZ hE => ?_)
  subst hX
  refine tr_aload_n dX10_where_0 rfl ?_
  obtain ⟨v1, c2⟩ : ∃ v, I0 a0 17 = v := ⟨_, rfl⟩
  refine q_getI dX10_where_1 fl10_112 (kR1 hW0 ta0) c2 ?_
  refine q_iconst dX10_where_4 (by decide) ?_
  intro v3 h4
  refine q_icmp_ne 15 dX10_where_5 (by decide) (fun h5 => ?_) (fun h5 => ?_)
  · skip
    refine q_iconst dX10_where_15 (by decide) ?_
    intro v6 h7
    exact tr_iret hZ dX10_where_16 rfl (by decide) (by decide) ⟨v6, rfl, rfl, rfl, rfl, rfl, rfl, rfl, trivial⟩
  · skip
    refine tr_aload_n dX10_where_8 rfl ?_
    obtain ⟨v8, c9⟩ : ∃ v, I0 a0 16 = v := ⟨_, rfl⟩
    refine q_getI dX10_where_9 fl10_94 (kR1 hW0 ta0) c9 ?_
    refine tr_goto 16 dX10_where_12 (by decide) ?_
    exact tr_iret hZ dX10_where_16 rfl (by decide) (by decide) ⟨v8, rfl, rfl, rfl, rfl, rfl, rfl, rfl, trivial⟩
set_option maxHeartbeats 4000000 in
theorem k_X10_isMinute {l : Launch} {T : Nat → Nat} {cn : Nat} {K N : Nat → Nat} {I0 : cz_I} {R0 : cz_R} {L0 : cz_L} {d : Int} (hW0 : Wf T cn K N I0 R0 d) {a0 : Nat} (ta0 : T a0 = 1) {x1 : Int32} : ConE l mX10_isMinute [.ref a0, .int x1] cn K N I0 R0 L0 (ca_i (fun v cn' K' N' I' R' L' => cn = cn' ∧ K = K' ∧ N = N' ∧ I0 = I' ∧ R0 = R' ∧ L0 = L' ∧ (0 ≤ v.toInt ∧ v.toInt ≤ 1) ∧ ((v.toInt = 1 → (0 ≤ x1.toInt ∧ x1.toInt ≤ 239))) ∧ True)) := by
  refine ConE.of (by decide +kernel) rfl (Nat.le_of_ble_eq_true rfl) rfl (fun X hX hZ hE => ?_)
  subst hX
  refine tr_iload_n dX10_isMinute_0 rfl ?_
  refine q_if_lt 19 dX10_isMinute_1 (by decide) (fun h1 => ?_) (fun h1 => ?_)
  · skip
    refine q_iconst dX10_isMinute_19 (by decide) ?_
    intro v2 h3
    exact tr_zret hZ dX10_isMinute_20 rfl (ti_b01 (by exact om_d99fa9e4 h3) (by exact om_d3de7ec9 h3)) (by decide) (by decide) ⟨v2, rfl, rfl, rfl, rfl, rfl, rfl, rfl, (by exact om_3b50ecb9 h3), (by exact om_232ce0c8 h3), trivial⟩
  · skip
    refine tr_iload_n dX10_isMinute_4 rfl ?_
    refine tr_aload_n dX10_isMinute_5 rfl ?_
    obtain ⟨a4, d5, ta4⟩ := rf1_2 hW0 ta0
    refine tr_getR dX10_isMinute_6 fl10_16 (kR1 hW0 ta0) d5 ?_
    obtain ⟨v6, c7⟩ : ∃ v, I0 a4 0 = v := ⟨_, rfl⟩
    have b8 := iv2_0 hW0 ta4 c7
    refine q_getI dX10_isMinute_9 fl10_146 (kR2 hW0 ta4) c7 ?_
    refine q_icmp_ge 19 dX10_isMinute_12 (by decide) (fun h9 => ?_) (fun h9 => ?_)
    · skip
      refine q_iconst dX10_isMinute_19 (by decide) ?_
      intro v10 h11
      exact tr_zret hZ dX10_isMinute_20 rfl (ti_b01 (by exact om_d99fa9e4 h11) (by exact om_d3de7ec9 h11)) (by decide) (by decide) ⟨v10, rfl, rfl, rfl, rfl, rfl, rfl, rfl, (by exact om_3b50ecb9 h11), (by exact om_232ce0c8 h11), trivial⟩
    · skip
      refine q_iconst dX10_isMinute_15 (by decide) ?_
      intro v12 h13
      refine tr_goto 20 dX10_isMinute_16 (by decide) ?_
      exact tr_zret hZ dX10_isMinute_20 rfl (ti_b01 (by exact om_f9079521 h13) (by exact om_e6632817 h13)) (by decide) (by decide) ⟨v12, rfl, rfl, rfl, rfl, rfl, rfl, rfl, (by exact om_d753bc65 h13), (by exact om_cc39d882 h1 b8.2 b8.1 h9), trivial⟩
def wi_X8_wipe : List Nat := [2303, 2367, 2431, 2495, 2623]
def wr_X8_wipe : List Nat := []
set_option maxHeartbeats 4000000 in
theorem k_X8_wipe {l : Launch} {T : Nat → Nat} {cn : Nat} {K N : Nat → Nat} {I0 : cz_I} {R0 : cz_R} {L0 : cz_L} {d : Int} (hW0 : Wf T cn K N I0 R0 d) {a0 : Nat} (ta0 : T a0 = 12) : ConE l mX8_wipe [.ref a0] cn K N I0 R0 L0 (ca_v (fun cn' K' N' I' R' L' => cn = cn' ∧ K = K' ∧ N = N' ∧ R0 = R' ∧ L0 = L' ∧ St T cn K N d wi_X8_wipe wr_X8_wipe I0 R0 I' R0 ∧ True)) := by
  refine ConE.of (by decide +kernel) rfl (Nat.le_of_ble_eq_true rfl) rfl (fun X hX hZ hE => ?_)
  subst hX
  have hS0 : St T cn K N d wi_X8_wipe wr_X8_wipe I0 R0 I0 R0 := St.rf0 hW0
  refine q_iconst dX8_wipe_0 (by decide) ?_
  intro v1 h2
  refine tr_istore_n dX8_wipe_1 (by decide) (by decide) ?_
  have lp9 : ∀ (fu : Nat) (ls : Nat → Option Value) (v3 : Int32) (I6 : cz_I), ls 0 = some (.ref a0) → ls 1 = some (.int v3) → St T cn K N d wi_X8_wipe wr_X8_wipe I0 R0 I6 R0 → 0 ≤ v3.toInt → (-v3.toInt + 2147483647).toNat < fu → Tr X mX8_wipe 2 ls [] cn K N I6 R0 L0 0 0 := by
    intro fu
    induction fu with
    | zero => intros; rename_i hz; exact absurd hz (Nat.not_lt_zero _)
    | succ fu ih9 =>
      intro ls v3 I6 hl4 hl5 hS7 g8 hm9
      refine tr_iload_n dX8_wipe_2 hl5 ?_
      refine tr_aload_n dX8_wipe_3 hl4 ?_
      obtain ⟨v11, c12⟩ : ∃ v, I0 a0 0 = v := ⟨_, rfl⟩
      have b13 := iv12_0 hW0 ta0 c12
      refine q_getI dX8_wipe_4 fl8_46 (kR12 hS7.1 ta0) ((hS7.cell ta0 (by decide +kernel)).trans c12) ?_
      refine q_icmp_ge 51 dX8_wipe_7 (by decide) (fun h14 => ?_) (fun h14 => ?_)
      · skip
        exact tr_vret hZ dX8_wipe_51 rfl (by decide) (by decide) ⟨rfl, rfl, rfl, rfl, rfl, rfl, hS7, trivial⟩
      · skip
        refine tr_aload_n dX8_wipe_10 hl4 ?_
        obtain ⟨a15, d16, ta15⟩ := rf12_2 hW0 ta0
        refine tr_getR dX8_wipe_11 fl8_9 (kR12 hS7.1 ta0) d16 ?_
        refine tr_iload_n dX8_wipe_14 hl5 ?_
        refine q_iconst dX8_wipe_15 (by decide) ?_
        intro v17 h18
        refine q_zast dX8_wipe_16 (kR35 hS7.1 ta15) (ti_in (nR35 hS7.1 ta15) (by exact om_2cfcd5a5 g8) (by exact om_6fd76572 b13.2 b13.1 h14)) hS7 ta15 (by exact om_3b50ecb9 h18) rfl rfl (by rfl) ?_
        intro I19 hS20 f21
        refine tr_aload_n dX8_wipe_17 hl4 ?_
        obtain ⟨a23, d24, ta23⟩ := rf12_3 hW0 ta0
        refine tr_getR dX8_wipe_18 fl8_15 (kR12 hS20.1 ta0) d24 ?_
        refine tr_iload_n dX8_wipe_21 hl5 ?_
        refine q_iconst dX8_wipe_22 (by decide) ?_
        intro v25 h26
        refine q_zast dX8_wipe_23 (kR36 hS20.1 ta23) (ti_in (nR36 hS20.1 ta23) (by exact om_2cfcd5a5 g8) (by exact om_6fd76572 b13.2 b13.1 h14)) hS20 ta23 (by exact om_3b50ecb9 h26) rfl rfl (by rfl) ?_
        intro I27 hS28 f29
        refine tr_aload_n dX8_wipe_24 hl4 ?_
        obtain ⟨a31, d32, ta31⟩ := rf12_4 hW0 ta0
        refine tr_getR dX8_wipe_25 fl8_18 (kR12 hS28.1 ta0) d32 ?_
        refine tr_iload_n dX8_wipe_28 hl5 ?_
        refine q_iconst dX8_wipe_29 (by decide) ?_
        intro v33 h34
        refine q_zast dX8_wipe_30 (kR37 hS28.1 ta31) (ti_in (nR37 hS28.1 ta31) (by exact om_2cfcd5a5 g8) (by exact om_6fd76572 b13.2 b13.1 h14)) hS28 ta31 (by exact om_3b50ecb9 h34) rfl rfl (by rfl) ?_
        intro I35 hS36 f37
        refine tr_aload_n dX8_wipe_31 hl4 ?_
        obtain ⟨a39, d40, ta39⟩ := rf12_5 hW0 ta0
        refine tr_getR dX8_wipe_32 fl8_21 (kR12 hS36.1 ta0) d40 ?_
        refine tr_iload_n dX8_wipe_35 hl5 ?_
        refine q_iconst dX8_wipe_36 (by decide) ?_
        intro v41 h42
        refine q_iast dX8_wipe_37 (kR38 hS36.1 ta39) (ti_in (nR38 hS36.1 ta39) (by exact om_2cfcd5a5 g8) (by exact om_6fd76572 b13.2 b13.1 h14)) hS36 ta39 (iokF rfl) rfl (by rfl) ?_
        intro I43 hS44 e46 f45
        refine tr_aload_n dX8_wipe_38 hl4 ?_
        obtain ⟨a47, d48, ta47⟩ := rf12_7 hW0 ta0
        refine tr_getR dX8_wipe_39 fl8_28 (kR12 hS44.1 ta0) d48 ?_
        refine tr_iload_n dX8_wipe_42 hl5 ?_
        refine q_iconst dX8_wipe_43 (by decide) ?_
        intro v49 h50
        refine q_iast dX8_wipe_44 (kR40 hS44.1 ta47) (ti_in (nR40 hS44.1 ta47) (by exact om_2cfcd5a5 g8) (by exact om_6fd76572 b13.2 b13.1 h14)) hS44 ta47 (iokF rfl) rfl (by rfl) ?_
        intro I51 hS52 e54 f53
        refine q_iincE dX8_wipe_45 hl5 (by decide) (by decide) (by intro j1 j2; exact om_c21242c3 g8 b13.2 b13.1 h14 j2) ?_
        intro v55 h56
        refine tr_goto 2 dX8_wipe_48 (by decide) ?_
        exact ih9 _ v55 I51 hl4 rfl hS52 (by exact om_68881c41 g8 h56) (by exact om_c0b231d9 g8 hm9 b13.2 b13.1 h14 h56)
  exact lp9 _ _ v1 I0 rfl rfl hS0 (by exact om_d99fa9e4 h2) (Nat.lt_succ_self _)
set_option maxHeartbeats 4000000 in
theorem k_X8_isBright {l : Launch} {T : Nat → Nat} {cn : Nat} {K N : Nat → Nat} {I0 : cz_I} {R0 : cz_R} {L0 : cz_L} {d : Int} (hW0 : Wf T cn K N I0 R0 d) {a0 : Nat} (ta0 : T a0 = 12) {x1 : Int32} (hx1 : 0 ≤ x1.toInt ∧ x1.toInt ≤ 239) : ConE l mX8_isBright [.ref a0, .int x1] cn K N I0 R0 L0 (ca_i (fun v cn' K' N' I' R' L' => cn = cn' ∧ K = K' ∧ N = N' ∧ I0 = I' ∧ R0 = R' ∧ L0 = L' ∧ (0 ≤ v.toInt ∧ v.toInt ≤ 1) ∧ True)) := by
  refine ConE.of (by decide +kernel) rfl (Nat.le_of_ble_eq_true rfl) rfl (fun X hX hZ hE => ?_)
  subst hX
  refine tr_aload_n dX8_isBright_0 rfl ?_
  obtain ⟨a1, d2, ta1⟩ := rf12_2 hW0 ta0
  refine tr_getR dX8_isBright_1 fl8_9 (kR12 hW0 ta0) d2 ?_
  refine tr_iload_n dX8_isBright_4 rfl ?_
  refine q_zald dX8_isBright_5 (kR35 hW0 ta1) (ti_in (nR35 hW0 ta1) (by exact om_2ab23ca2 hx1.2 hx1.1) (by exact om_c695125b hx1.2 hx1.1)) ?_
  intro v3 c4
  have b5 := iv35 hW0 ta1 c4
  refine q_if_ne 31 dX8_isBright_6 (by decide) (fun h6 => ?_) (fun h6 => ?_)
  · skip
    refine q_iconst dX8_isBright_31 (by decide) ?_
    intro v7 h8
    exact tr_zret hZ dX8_isBright_32 rfl (ti_b01 (by exact om_d99fa9e4 h8) (by exact om_d3de7ec9 h8)) (by decide) (by decide) ⟨v7, rfl, rfl, rfl, rfl, rfl, rfl, rfl, (by exact om_3b50ecb9 h8), trivial⟩
  · skip
    refine tr_aload_n dX8_isBright_9 rfl ?_
    obtain ⟨a9, d10, ta9⟩ := rf12_3 hW0 ta0
    refine tr_getR dX8_isBright_10 fl8_15 (kR12 hW0 ta0) d10 ?_
    refine tr_iload_n dX8_isBright_13 rfl ?_
    refine q_zald dX8_isBright_14 (kR36 hW0 ta9) (ti_in (nR36 hW0 ta9) (by exact om_2ab23ca2 hx1.2 hx1.1) (by exact om_c695125b hx1.2 hx1.1)) ?_
    intro v11 c12
    have b13 := iv36 hW0 ta9 c12
    refine q_if_ne 27 dX8_isBright_15 (by decide) (fun h14 => ?_) (fun h14 => ?_)
    · skip
      refine q_iconst dX8_isBright_27 (by decide) ?_
      intro v15 h16
      refine tr_goto 32 dX8_isBright_28 (by decide) ?_
      exact tr_zret hZ dX8_isBright_32 rfl (ti_b01 (by exact om_f9079521 h16) (by exact om_e6632817 h16)) (by decide) (by decide) ⟨v15, rfl, rfl, rfl, rfl, rfl, rfl, rfl, (by exact om_d753bc65 h16), trivial⟩
    · skip
      refine tr_aload_n dX8_isBright_18 rfl ?_
      obtain ⟨a17, d18, ta17⟩ := rf12_4 hW0 ta0
      refine tr_getR dX8_isBright_19 fl8_18 (kR12 hW0 ta0) d18 ?_
      refine tr_iload_n dX8_isBright_22 rfl ?_
      refine q_zald dX8_isBright_23 (kR37 hW0 ta17) (ti_in (nR37 hW0 ta17) (by exact om_2ab23ca2 hx1.2 hx1.1) (by exact om_c695125b hx1.2 hx1.1)) ?_
      intro v19 c20
      have b21 := iv37 hW0 ta17 c20
      refine q_if_ne 31 dX8_isBright_24 (by decide) (fun h22 => ?_) (fun h22 => ?_)
      · skip
        refine q_iconst dX8_isBright_31 (by decide) ?_
        intro v23 h24
        exact tr_zret hZ dX8_isBright_32 rfl (ti_b01 (by exact om_d99fa9e4 h24) (by exact om_d3de7ec9 h24)) (by decide) (by decide) ⟨v23, rfl, rfl, rfl, rfl, rfl, rfl, rfl, (by exact om_3b50ecb9 h24), trivial⟩
      · skip
        refine q_iconst dX8_isBright_27 (by decide) ?_
        intro v25 h26
        refine tr_goto 32 dX8_isBright_28 (by decide) ?_
        exact tr_zret hZ dX8_isBright_32 rfl (ti_b01 (by exact om_f9079521 h26) (by exact om_e6632817 h26)) (by decide) (by decide) ⟨v25, rfl, rfl, rfl, rfl, rfl, rfl, rfl, (by exact om_d753bc65 h26), trivial⟩
def wi_X8_findLight : List Nat := [2559, 2623, 2687, 2751]
def wr_X8_findLight : List Nat := []
set_option maxHeartbeats 4000000 in
theorem k_X8_findLight {l : Launch} {T : Nat → Nat} {cn : Nat} {K N : Nat → Nat} {I0 : cz_I} {R0 : cz_R} {L0 : cz_L} {d : Int} (hW0 : Wf T cn K N I0 R0 d) {a0 : Nat} (ta0 : T a0 = 12) : ConE l mX8_findLight [.ref a0] cn K N I0 R0 L0 (ca_v (fun cn' K' N' I' R' L' => cn = cn' ∧ K = K' ∧ N = N' ∧ R0 = R' ∧ L0 = L' ∧ St T cn K N d wi_X8_findLight wr_X8_findLight I0 R0 I' R0 ∧ True)) := by
  refine ConE.of (by decide +kernel) rfl (Nat.le_of_ble_eq_true rfl) rfl (fun X hX hZ hE => ?_)
  subst hX
  have hS0 : St T cn K N d wi_X8_findLight wr_X8_findLight I0 R0 I0 R0 := St.rf0 hW0
  refine q_iconst dX8_findLight_0 (by decide) ?_
  intro v1 h2
  refine tr_istore_n dX8_findLight_1 (by decide) (by decide) ?_
  have lp9 : ∀ (fu : Nat) (ls : Nat → Option Value) (v3 : Int32) (I6 : cz_I), ls 0 = some (.ref a0) → ls 1 = some (.int v3) → St T cn K N d wi_X8_findLight wr_X8_findLight I0 R0 I6 R0 → 0 ≤ v3.toInt → (-v3.toInt + 2147483647).toNat < fu → Tr X mX8_findLight 2 ls [] cn K N I6 R0 L0 0 0 := by
    intro fu
    induction fu with
    | zero => intros; rename_i hz; exact absurd hz (Nat.not_lt_zero _)
    | succ fu ih9 =>
      intro ls v3 I6 hl4 hl5 hS7 g8 hm9
      refine tr_iload_n dX8_findLight_2 hl5 ?_
      refine tr_aload_n dX8_findLight_3 hl4 ?_
      obtain ⟨v11, c12⟩ : ∃ v, I0 a0 0 = v := ⟨_, rfl⟩
      have b13 := iv12_0 hW0 ta0 c12
      refine q_getI dX8_findLight_4 fl8_46 (kR12 hS7.1 ta0) ((hS7.cell ta0 (by decide +kernel)).trans c12) ?_
      refine q_icmp_ge 120 dX8_findLight_7 (by decide) (fun h14 => ?_) (fun h14 => ?_)
      · skip
        exact tr_vret hZ dX8_findLight_120 rfl (by decide) (by decide) ⟨rfl, rfl, rfl, rfl, rfl, rfl, hS7, trivial⟩
      · skip
        refine tr_aload_n dX8_findLight_10 hl4 ?_
        obtain ⟨a15, d16, ta15⟩ := rf12_6 hW0 ta0
        refine tr_getR dX8_findLight_11 fl8_25 (kR12 hS7.1 ta0) d16 ?_
        refine tr_iload_n dX8_findLight_14 hl5 ?_
        refine tr_aload_n dX8_findLight_15 hl4 ?_
        refine tr_iload_n dX8_findLight_16 hl5 ?_
        refine q_callVi hE (M' := mX8_isBright) (as := [_]) dX8_findLight_17 lk8_105 inX8_isBright seX8_isBright myX8_isBright (by decide) ⟨by decide, by decide⟩ rfl (kR12 hS7.1 ta0) (Nat.le_of_ble_eq_true rfl) rfl rfl (by decide) (by decide) (k_X8_isBright hS7.1 ta0 (by exact om_95f0bf21 g8 b13.2 b13.1 h14)) ?_
        rintro v21 cn' K' N' I17 R18 L19 ⟨rfl, rfl, rfl, rfl, rfl, rfl, h22, -⟩
        refine q_if_eq 39 dX8_findLight_20 (by decide) (fun h23 => ?_) (fun h23 => ?_)
        · skip
          refine q_iconst dX8_findLight_39 (by decide) ?_
          intro v24 h25
          refine q_iast dX8_findLight_40 (kR39 hS7.1 ta15) (ti_in (nR39 hS7.1 ta15) (by exact om_2cfcd5a5 g8) (by exact om_6fd76572 b13.2 b13.1 h14)) hS7 ta15 (iokF rfl) rfl (by rfl) ?_
          intro I26 hS27 e29 f28
          refine tr_aload_n dX8_findLight_41 hl4 ?_
          obtain ⟨a30, d31, ta30⟩ := rf12_7 hW0 ta0
          refine tr_getR dX8_findLight_42 fl8_28 (kR12 hS27.1 ta0) d31 ?_
          refine tr_iload_n dX8_findLight_45 hl5 ?_
          refine tr_dup2 dX8_findLight_46 rfl rfl ?_
          refine q_iald dX8_findLight_47 (kR40 hS27.1 ta30) (ti_in (nR40 hS27.1 ta30) (by exact om_2cfcd5a5 g8) (by exact om_6fd76572 b13.2 b13.1 h14)) ?_
          intro v32 c33
          refine tr_aload_n dX8_findLight_48 hl4 ?_
          refine tr_getR dX8_findLight_49 fl8_25 (kR12 hS27.1 ta0) d16 ?_
          refine tr_iload_n dX8_findLight_52 hl5 ?_
          refine q_iald dX8_findLight_53 (kR39 hS27.1 ta15) (ti_in (nR39 hS27.1 ta15) (by exact om_2cfcd5a5 g8) (by exact om_6fd76572 b13.2 b13.1 h14)) ?_
          intro v34 c35
          refine q_ior dX8_findLight_54 ?_
          intro v36
          refine q_iast dX8_findLight_55 (kR40 hS27.1 ta30) (ti_in (nR40 hS27.1 ta30) (by exact om_2cfcd5a5 g8) (by exact om_6fd76572 b13.2 b13.1 h14)) hS27 ta30 (iokF rfl) rfl (by rfl) ?_
          intro I37 hS38 e40 f39
          refine tr_aload_n dX8_findLight_56 hl4 ?_
          obtain ⟨a41, d42, ta41⟩ := rf12_8 hW0 ta0
          refine tr_getR dX8_findLight_57 fl8_31 (kR12 hS38.1 ta0) d42 ?_
          refine tr_iload_n dX8_findLight_60 hl5 ?_
          refine tr_iload_n dX8_findLight_61 hl5 ?_
          refine q_if_ne 69 dX8_findLight_62 (by decide) (fun h43 => ?_) (fun h43 => ?_)
          · skip
            refine tr_aload_n dX8_findLight_69 hl4 ?_
            refine tr_getR dX8_findLight_70 fl8_25 (kR12 hS38.1 ta0) d16 ?_
            refine tr_iload_n dX8_findLight_73 hl5 ?_
            refine q_iald dX8_findLight_74 (kR39 hS38.1 ta15) (ti_in (nR39 hS38.1 ta15) (by exact om_2cfcd5a5 g8) (by exact om_6fd76572 b13.2 b13.1 h14)) ?_
            intro v44 c45
            refine tr_aload_n dX8_findLight_75 hl4 ?_
            refine tr_getR dX8_findLight_76 fl8_25 (kR12 hS38.1 ta0) d16 ?_
            refine tr_iload_n dX8_findLight_79 hl5 ?_
            refine q_iconst dX8_findLight_80 (by decide) ?_
            intro v46 h47
            refine q_isubE dX8_findLight_81 (by intro j1 j2 j3 j4; exact om_f051deed g8 b13.2 b13.1 h14 h47 j2) ?_
            intro v48 h49
            refine q_iald dX8_findLight_82 (kR39 hS38.1 ta15) (ti_in (nR39 hS38.1 ta15) (by exact om_e044a0f7 g8 h43 h47 h49) (by exact om_3413c1b9 b13.2 b13.1 h14 h47 h49)) ?_
            intro v50 c51
            refine q_ixor dX8_findLight_83 ?_
            intro v52
            refine q_iast dX8_findLight_84 (kR41 hS38.1 ta41) (ti_in (nR41 hS38.1 ta41) (by exact om_2cfcd5a5 g8) (by exact om_8d984ce0 b13.2 b13.1 h14 h47 h49)) hS38 ta41 (iokF rfl) rfl (by rfl) ?_
            intro I53 hS54 e56 f55
            refine tr_aload_n dX8_findLight_85 hl4 ?_
            obtain ⟨a57, d58, ta57⟩ := rf12_9 hW0 ta0
            refine tr_getR dX8_findLight_86 fl8_34 (kR12 hS54.1 ta0) d58 ?_
            refine tr_iload_n dX8_findLight_89 hl5 ?_
            refine tr_iload_n dX8_findLight_90 hl5 ?_
            refine q_if_ne 98 dX8_findLight_91 (by decide) (fun h59 => ?_) (fun h59 => ?_)
            · skip
              refine tr_aload_n dX8_findLight_98 hl4 ?_
              refine tr_getR dX8_findLight_99 fl8_28 (kR12 hS54.1 ta0) d31 ?_
              refine tr_iload_n dX8_findLight_102 hl5 ?_
              refine q_iald dX8_findLight_103 (kR40 hS54.1 ta30) (ti_in (nR40 hS54.1 ta30) (by exact om_2cfcd5a5 g8) (by exact om_8d984ce0 b13.2 b13.1 h14 h47 h49)) ?_
              intro v60 c61
              refine tr_aload_n dX8_findLight_104 hl4 ?_
              refine tr_getR dX8_findLight_105 fl8_28 (kR12 hS54.1 ta0) d31 ?_
              refine tr_iload_n dX8_findLight_108 hl5 ?_
              refine q_iconst dX8_findLight_109 (by decide) ?_
              intro v62 h63
              refine q_isubE dX8_findLight_110 (by intro j1 j2 j3 j4; exact om_30599c08 g8 b13.2 b13.1 h14 h47 h49 h63 j2) ?_
              intro v64 h65
              refine q_iald dX8_findLight_111 (kR40 hS54.1 ta30) (ti_in (nR40 hS54.1 ta30) (by exact om_4100254b g8 h47 h49 h59 h63 h65) (by exact om_afc93394 b13.2 b13.1 h14 h47 h49 h63 h65)) ?_
              intro v66 c67
              refine q_ixor dX8_findLight_112 ?_
              intro v68
              refine q_iast dX8_findLight_113 (kR42 hS54.1 ta57) (ti_in (nR42 hS54.1 ta57) (by exact om_2cfcd5a5 g8) (by exact om_f63f4e7a b13.2 b13.1 h14 h47 h49 h63 h65)) hS54 ta57 (iokF rfl) rfl (by rfl) ?_
              intro I69 hS70 e72 f71
              refine q_iincE dX8_findLight_114 hl5 (by decide) (by decide) (by intro j1 j2; exact om_a4695c49 g8 b13.2 b13.1 h14 h47 h49 h63 h65 j2) ?_
              intro v73 h74
              refine tr_goto 2 dX8_findLight_117 (by decide) ?_
              exact ih9 _ v73 I69 hl4 rfl hS70 (by exact om_48a1345a g8 h47 h49 h63 h65 h74) (by exact om_f98f030f g8 hm9 b13.2 b13.1 h14 h43 h47 h49 h59 h63 h65 h74)
            · skip
              exfalso; exact om_14a2221f h43 h47 h49 h59
          · skip
            refine q_iconst dX8_findLight_65 (by decide) ?_
            intro v75 h76
            refine tr_goto 84 dX8_findLight_66 (by decide) ?_
            refine q_iast dX8_findLight_84 (kR41 hS38.1 ta41) (ti_in (nR41 hS38.1 ta41) (by exact om_2cfcd5a5 g8) (by exact om_1b13f499 h43)) hS38 ta41 (iokF rfl) rfl (by rfl) ?_
            intro I77 hS78 e80 f79
            refine tr_aload_n dX8_findLight_85 hl4 ?_
            obtain ⟨a81, d82, ta81⟩ := rf12_9 hW0 ta0
            refine tr_getR dX8_findLight_86 fl8_34 (kR12 hS78.1 ta0) d82 ?_
            refine tr_iload_n dX8_findLight_89 hl5 ?_
            refine tr_iload_n dX8_findLight_90 hl5 ?_
            refine q_if_ne 98 dX8_findLight_91 (by decide) (fun h83 => ?_) (fun h83 => ?_)
            · skip
              exfalso; exact om_3a97d4a5 h43 h83
            · skip
              refine q_iconst dX8_findLight_94 (by decide) ?_
              intro v84 h85
              refine tr_goto 113 dX8_findLight_95 (by decide) ?_
              refine q_iast dX8_findLight_113 (kR42 hS78.1 ta81) (ti_in (nR42 hS78.1 ta81) (by exact om_2cfcd5a5 g8) (by exact om_1b13f499 h43)) hS78 ta81 (iokF rfl) rfl (by rfl) ?_
              intro I86 hS87 e89 f88
              refine q_iincE dX8_findLight_114 hl5 (by decide) (by decide) (by intro j1 j2; exact om_502d7b61 h43) ?_
              intro v90 h91
              refine tr_goto 2 dX8_findLight_117 (by decide) ?_
              exact ih9 _ v90 I86 hl4 rfl hS87 (by exact om_402918db h43 h91) (by exact om_a33c9c89 hm9 h43 h91)
        · skip
          refine tr_aload_n dX8_findLight_23 hl4 ?_
          obtain ⟨v92, c93⟩ : ∃ v, I0 a0 1 = v := ⟨_, rfl⟩
          refine q_getI dX8_findLight_24 fl8_50 (kR12 hS7.1 ta0) ((hS7.cell ta0 (by decide +kernel)).trans c93) ?_
          refine tr_aload_n dX8_findLight_27 hl4 ?_
          obtain ⟨a94, d95, ta94⟩ := rf12_5 hW0 ta0
          refine tr_getR dX8_findLight_28 fl8_21 (kR12 hS7.1 ta0) d95 ?_
          refine tr_iload_n dX8_findLight_31 hl5 ?_
          refine q_iald dX8_findLight_32 (kR38 hS7.1 ta94) (ti_in (nR38 hS7.1 ta94) (by exact om_2cfcd5a5 g8) (by exact om_6fd76572 b13.2 b13.1 h14)) ?_
          intro v96 c97
          refine q_iconst dX8_findLight_33 (by decide) ?_
          intro v98 h99
          refine q_ixor dX8_findLight_34 ?_
          intro v100
          refine q_iand dX8_findLight_35 ?_
          intro v101
          refine tr_goto 40 dX8_findLight_36 (by decide) ?_
          refine q_iast dX8_findLight_40 (kR39 hS7.1 ta15) (ti_in (nR39 hS7.1 ta15) (by exact om_2cfcd5a5 g8) (by exact om_6fd76572 b13.2 b13.1 h14)) hS7 ta15 (iokF rfl) rfl (by rfl) ?_
          intro I102 hS103 e105 f104
          refine tr_aload_n dX8_findLight_41 hl4 ?_
          obtain ⟨a106, d107, ta106⟩ := rf12_7 hW0 ta0
          refine tr_getR dX8_findLight_42 fl8_28 (kR12 hS103.1 ta0) d107 ?_
          refine tr_iload_n dX8_findLight_45 hl5 ?_
          refine tr_dup2 dX8_findLight_46 rfl rfl ?_
          refine q_iald dX8_findLight_47 (kR40 hS103.1 ta106) (ti_in (nR40 hS103.1 ta106) (by exact om_2cfcd5a5 g8) (by exact om_6fd76572 b13.2 b13.1 h14)) ?_
          intro v108 c109
          refine tr_aload_n dX8_findLight_48 hl4 ?_
          refine tr_getR dX8_findLight_49 fl8_25 (kR12 hS103.1 ta0) d16 ?_
          refine tr_iload_n dX8_findLight_52 hl5 ?_
          refine q_iald dX8_findLight_53 (kR39 hS103.1 ta15) (ti_in (nR39 hS103.1 ta15) (by exact om_2cfcd5a5 g8) (by exact om_6fd76572 b13.2 b13.1 h14)) ?_
          intro v110 c111
          refine q_ior dX8_findLight_54 ?_
          intro v112
          refine q_iast dX8_findLight_55 (kR40 hS103.1 ta106) (ti_in (nR40 hS103.1 ta106) (by exact om_2cfcd5a5 g8) (by exact om_6fd76572 b13.2 b13.1 h14)) hS103 ta106 (iokF rfl) rfl (by rfl) ?_
          intro I113 hS114 e116 f115
          refine tr_aload_n dX8_findLight_56 hl4 ?_
          obtain ⟨a117, d118, ta117⟩ := rf12_8 hW0 ta0
          refine tr_getR dX8_findLight_57 fl8_31 (kR12 hS114.1 ta0) d118 ?_
          refine tr_iload_n dX8_findLight_60 hl5 ?_
          refine tr_iload_n dX8_findLight_61 hl5 ?_
          refine q_if_ne 69 dX8_findLight_62 (by decide) (fun h119 => ?_) (fun h119 => ?_)
          · skip
            refine tr_aload_n dX8_findLight_69 hl4 ?_
            refine tr_getR dX8_findLight_70 fl8_25 (kR12 hS114.1 ta0) d16 ?_
            refine tr_iload_n dX8_findLight_73 hl5 ?_
            refine q_iald dX8_findLight_74 (kR39 hS114.1 ta15) (ti_in (nR39 hS114.1 ta15) (by exact om_2cfcd5a5 g8) (by exact om_6fd76572 b13.2 b13.1 h14)) ?_
            intro v120 c121
            refine tr_aload_n dX8_findLight_75 hl4 ?_
            refine tr_getR dX8_findLight_76 fl8_25 (kR12 hS114.1 ta0) d16 ?_
            refine tr_iload_n dX8_findLight_79 hl5 ?_
            refine q_iconst dX8_findLight_80 (by decide) ?_
            intro v122 h123
            refine q_isubE dX8_findLight_81 (by intro j1 j2 j3 j4; exact om_f051deed g8 b13.2 b13.1 h14 h123 j2) ?_
            intro v124 h125
            refine q_iald dX8_findLight_82 (kR39 hS114.1 ta15) (ti_in (nR39 hS114.1 ta15) (by exact om_e044a0f7 g8 h119 h123 h125) (by exact om_3413c1b9 b13.2 b13.1 h14 h123 h125)) ?_
            intro v126 c127
            refine q_ixor dX8_findLight_83 ?_
            intro v128
            refine q_iast dX8_findLight_84 (kR41 hS114.1 ta117) (ti_in (nR41 hS114.1 ta117) (by exact om_2cfcd5a5 g8) (by exact om_8d984ce0 b13.2 b13.1 h14 h123 h125)) hS114 ta117 (iokF rfl) rfl (by rfl) ?_
            intro I129 hS130 e132 f131
            refine tr_aload_n dX8_findLight_85 hl4 ?_
            obtain ⟨a133, d134, ta133⟩ := rf12_9 hW0 ta0
            refine tr_getR dX8_findLight_86 fl8_34 (kR12 hS130.1 ta0) d134 ?_
            refine tr_iload_n dX8_findLight_89 hl5 ?_
            refine tr_iload_n dX8_findLight_90 hl5 ?_
            refine q_if_ne 98 dX8_findLight_91 (by decide) (fun h135 => ?_) (fun h135 => ?_)
            · skip
              refine tr_aload_n dX8_findLight_98 hl4 ?_
              refine tr_getR dX8_findLight_99 fl8_28 (kR12 hS130.1 ta0) d107 ?_
              refine tr_iload_n dX8_findLight_102 hl5 ?_
              refine q_iald dX8_findLight_103 (kR40 hS130.1 ta106) (ti_in (nR40 hS130.1 ta106) (by exact om_2cfcd5a5 g8) (by exact om_8d984ce0 b13.2 b13.1 h14 h123 h125)) ?_
              intro v136 c137
              refine tr_aload_n dX8_findLight_104 hl4 ?_
              refine tr_getR dX8_findLight_105 fl8_28 (kR12 hS130.1 ta0) d107 ?_
              refine tr_iload_n dX8_findLight_108 hl5 ?_
              refine q_iconst dX8_findLight_109 (by decide) ?_
              intro v138 h139
              refine q_isubE dX8_findLight_110 (by intro j1 j2 j3 j4; exact om_30599c08 g8 b13.2 b13.1 h14 h123 h125 h139 j2) ?_
              intro v140 h141
              refine q_iald dX8_findLight_111 (kR40 hS130.1 ta106) (ti_in (nR40 hS130.1 ta106) (by exact om_4100254b g8 h123 h125 h135 h139 h141) (by exact om_afc93394 b13.2 b13.1 h14 h123 h125 h139 h141)) ?_
              intro v142 c143
              refine q_ixor dX8_findLight_112 ?_
              intro v144
              refine q_iast dX8_findLight_113 (kR42 hS130.1 ta133) (ti_in (nR42 hS130.1 ta133) (by exact om_2cfcd5a5 g8) (by exact om_f63f4e7a b13.2 b13.1 h14 h123 h125 h139 h141)) hS130 ta133 (iokF rfl) rfl (by rfl) ?_
              intro I145 hS146 e148 f147
              refine q_iincE dX8_findLight_114 hl5 (by decide) (by decide) (by intro j1 j2; exact om_a4695c49 g8 b13.2 b13.1 h14 h123 h125 h139 h141 j2) ?_
              intro v149 h150
              refine tr_goto 2 dX8_findLight_117 (by decide) ?_
              exact ih9 _ v149 I145 hl4 rfl hS146 (by exact om_48a1345a g8 h123 h125 h139 h141 h150) (by exact om_310ee804 g8 hm9 b13.2 b13.1 h14 h22.2 h22.1 h23 h119 h123 h125 h135 h139 h141 h150)
            · skip
              exfalso; exact om_14a2221f h119 h123 h125 h135
          · skip
            refine q_iconst dX8_findLight_65 (by decide) ?_
            intro v151 h152
            refine tr_goto 84 dX8_findLight_66 (by decide) ?_
            refine q_iast dX8_findLight_84 (kR41 hS114.1 ta117) (ti_in (nR41 hS114.1 ta117) (by exact om_2cfcd5a5 g8) (by exact om_1b13f499 h119)) hS114 ta117 (iokF rfl) rfl (by rfl) ?_
            intro I153 hS154 e156 f155
            refine tr_aload_n dX8_findLight_85 hl4 ?_
            obtain ⟨a157, d158, ta157⟩ := rf12_9 hW0 ta0
            refine tr_getR dX8_findLight_86 fl8_34 (kR12 hS154.1 ta0) d158 ?_
            refine tr_iload_n dX8_findLight_89 hl5 ?_
            refine tr_iload_n dX8_findLight_90 hl5 ?_
            refine q_if_ne 98 dX8_findLight_91 (by decide) (fun h159 => ?_) (fun h159 => ?_)
            · skip
              exfalso; exact om_3a97d4a5 h119 h159
            · skip
              refine q_iconst dX8_findLight_94 (by decide) ?_
              intro v160 h161
              refine tr_goto 113 dX8_findLight_95 (by decide) ?_
              refine q_iast dX8_findLight_113 (kR42 hS154.1 ta157) (ti_in (nR42 hS154.1 ta157) (by exact om_2cfcd5a5 g8) (by exact om_1b13f499 h119)) hS154 ta157 (iokF rfl) rfl (by rfl) ?_
              intro I162 hS163 e165 f164
              refine q_iincE dX8_findLight_114 hl5 (by decide) (by decide) (by intro j1 j2; exact om_502d7b61 h119) ?_
              intro v166 h167
              refine tr_goto 2 dX8_findLight_117 (by decide) ?_
              exact ih9 _ v166 I162 hl4 rfl hS163 (by exact om_402918db h119 h167) (by exact om_ae35c316 hm9 h22.2 h22.1 h23 h119 h167)
  exact lp9 _ _ v1 I0 rfl rfl hS0 (by exact om_d99fa9e4 h2) (Nat.lt_succ_self _)
set_option maxHeartbeats 4000000 in
theorem k_X4_holds {l : Launch} {T : Nat → Nat} {cn : Nat} {K N : Nat → Nat} {I0 : cz_I} {R0 : cz_R} {L0 : cz_L} {d : Int} (hW0 : Wf T cn K N I0 R0 d) {a0 : Nat} (ta0 : T a0 = 6) {x1 : Int32} : ConE l mX4_holds [.ref a0, .int x1] cn K N I0 R0 L0 (ca_i (fun v cn' K' N' I' R' L' => cn = cn' ∧ K = K' ∧ N = N' ∧ I0 = I' ∧ R0 = R' ∧ L0 = L' ∧ (0 ≤ v.toInt ∧ v.toInt ≤ 1) ∧ True)) := by
  refine ConE.of (by decide +kernel) rfl (Nat.le_of_ble_eq_true rfl) rfl (fun X hX hZ hE => ?_)
  subst hX
  refine q_iconst dX4_holds_0 (by decide) ?_
  intro v1 h2
  refine tr_istore_n dX4_holds_1 (by decide) (by decide) ?_
  have lp8 : ∀ (fu : Nat) (ls : Nat → Option Value) (v3 : Int32), ls 0 = some (.ref a0) → ls 1 = some (.int x1) → ls 2 = some (.int v3) → 0 ≤ v3.toInt → (-v3.toInt + 2147483647).toNat < fu → Tr X mX4_holds 2 ls [] cn K N I0 R0 L0 0 0 := by
    intro fu
    induction fu with
    | zero => intros; rename_i hz; exact absurd hz (Nat.not_lt_zero _)
    | succ fu ih8 =>
      intro ls v3 hl4 hl5 hl6 g7 hm8
      refine tr_iload_n dX4_holds_2 hl6 ?_
      refine tr_aload_n dX4_holds_3 hl4 ?_
      obtain ⟨v10, c11⟩ : ∃ v, I0 a0 0 = v := ⟨_, rfl⟩
      have b12 := iv6_0 hW0 ta0 c11
      refine q_getI dX4_holds_4 fl4_15 (kR6 hW0 ta0) c11 ?_
      refine q_icmp_ge 28 dX4_holds_7 (by decide) (fun h13 => ?_) (fun h13 => ?_)
      · skip
        refine q_iconst dX4_holds_28 (by decide) ?_
        intro v14 h15
        exact tr_zret hZ dX4_holds_29 rfl (ti_b01 (by exact om_d99fa9e4 h15) (by exact om_d3de7ec9 h15)) (by decide) (by decide) ⟨v14, rfl, rfl, rfl, rfl, rfl, rfl, rfl, (by exact om_3b50ecb9 h15), trivial⟩
      · skip
        refine tr_aload_n dX4_holds_10 hl4 ?_
        obtain ⟨a16, d17, ta16⟩ := rf6_1 hW0 ta0
        refine tr_getR dX4_holds_11 fl4_9 (kR6 hW0 ta0) d17 ?_
        refine tr_iload_n dX4_holds_14 hl6 ?_
        refine q_iald dX4_holds_15 (kR24 hW0 ta16) (ti_in (nR24 hW0 ta16) (by exact om_2cfcd5a5 g7) (by exact om_5f13cc30 b12.2 b12.1 h13)) ?_
        intro v18 c19
        have b20 := iv24 hW0 ta16 c19
        refine tr_iload_n dX4_holds_16 hl5 ?_
        refine q_icmp_ne 22 dX4_holds_17 (by decide) (fun h21 => ?_) (fun h21 => ?_)
        · skip
          refine q_iincE dX4_holds_22 hl6 (by decide) (by decide) (by intro j1 j2; exact om_4034714d g7 b12.2 b12.1 h13 j2) ?_
          intro v22 h23
          refine tr_goto 2 dX4_holds_25 (by decide) ?_
          exact ih8 _ v22 hl4 hl5 rfl (by exact om_68881c41 g7 h23) (by exact om_8ec43a4b g7 hm8 b12.2 b12.1 h13 h21 h23)
        · skip
          refine q_iconst dX4_holds_20 (by decide) ?_
          intro v24 h25
          exact tr_zret hZ dX4_holds_21 rfl (ti_b01 (by exact om_f9079521 h25) (by exact om_e6632817 h25)) (by decide) (by decide) ⟨v24, rfl, rfl, rfl, rfl, rfl, rfl, rfl, (by exact om_d753bc65 h25), trivial⟩
  exact lp8 _ _ v1 rfl rfl rfl (by exact om_d99fa9e4 h2) (Nat.lt_succ_self _)
def wi_X8_findStirs : List Nat := [778, 2815]
def wr_X8_findStirs : List Nat := []
set_option maxHeartbeats 4000000 in
theorem k_X8_findStirs {l : Launch} {T : Nat → Nat} {cn : Nat} {K N : Nat → Nat} {I0 : cz_I} {R0 : cz_R} {L0 : cz_L} {d : Int} (hW0 : Wf T cn K N I0 R0 d) {a0 : Nat} (ta0 : T a0 = 12) {a1 : Nat} (ta1 : T a1 = 6) : ConE l mX8_findStirs [.ref a0, .ref a1] cn K N I0 R0 L0 (ca_v (fun cn' K' N' I' R' L' => cn = cn' ∧ K = K' ∧ N = N' ∧ R0 = R' ∧ L0 = L' ∧ St T cn K N d wi_X8_findStirs wr_X8_findStirs I0 R0 I' R0 ∧ True)) := by
  refine ConE.of (by decide +kernel) rfl (Nat.le_of_ble_eq_true rfl) rfl (fun X hX hZ hE => ?_)
  subst hX
  have hS0 : St T cn K N d wi_X8_findStirs wr_X8_findStirs I0 R0 I0 R0 := St.rf0 hW0
  refine tr_aload_n dX8_findStirs_0 rfl ?_
  refine q_iconst dX8_findStirs_1 (by decide) ?_
  intro v1 h2
  refine q_putI dX8_findStirs_2 fl8_109 (kR12 hS0.1 ta0) (Or.inl rfl) hS0 ta0 (by show (0 : Int) ≤ v1.toInt ∧ v1.toInt ≤ (240 : Int); exact om_9ed8f7f4 h2) rfl (by decide +kernel) ?_
  intro I3 hS4 e5 f6
  refine q_iconst dX8_findStirs_5 (by decide) ?_
  intro v7 h8
  refine tr_istore_n dX8_findStirs_6 (by decide) (by decide) ?_
  have lp19 : ∀ (fu : Nat) (ls : Nat → Option Value) (v9 : Int32) (I13 : cz_I) (v15 : Int32), ls 0 = some (.ref a0) → ls 1 = some (.ref a1) → ls 2 = some (.int v9) → St T cn K N d wi_X8_findStirs wr_X8_findStirs I0 R0 I13 R0 → I13 a0 10 = v15 → v15.toInt ≤ v9.toInt → 0 ≤ v9.toInt → (-v9.toInt + 2147483647).toNat < fu → Tr X mX8_findStirs 7 ls [] cn K N I13 R0 L0 0 0 := by
    intro fu
    induction fu with
    | zero => intros; rename_i hz; exact absurd hz (Nat.not_lt_zero _)
    | succ fu ih19 =>
      intro ls v9 I13 v15 hl10 hl11 hl12 hS14 c16 g17 g18 hm19
      have b21 := iv12_10 hS14.1 ta0 c16
      refine tr_iload_n dX8_findStirs_7 hl12 ?_
      refine tr_aload_n dX8_findStirs_8 hl10 ?_
      obtain ⟨v22, c23⟩ : ∃ v, I0 a0 0 = v := ⟨_, rfl⟩
      have b24 := iv12_0 hW0 ta0 c23
      refine q_getI dX8_findStirs_9 fl8_46 (kR12 hS14.1 ta0) ((hS14.cell ta0 (by decide +kernel)).trans c23) ?_
      refine q_icmp_ge 76 dX8_findStirs_12 (by decide) (fun h25 => ?_) (fun h25 => ?_)
      · skip
        exact tr_vret hZ dX8_findStirs_76 rfl (by decide) (by decide) ⟨rfl, rfl, rfl, rfl, rfl, rfl, hS14, trivial⟩
      · skip
        refine tr_aload_n dX8_findStirs_15 hl10 ?_
        obtain ⟨a26, d27, ta26⟩ := rf12_8 hW0 ta0
        refine tr_getR dX8_findStirs_16 fl8_31 (kR12 hS14.1 ta0) d27 ?_
        refine tr_iload_n dX8_findStirs_19 hl12 ?_
        refine q_iald dX8_findStirs_20 (kR41 hS14.1 ta26) (ti_in (nR41 hS14.1 ta26) (by exact om_2cfcd5a5 g18) (by exact om_6fd76572 b24.2 b24.1 h25)) ?_
        intro v28 c29
        refine q_if_ne 50 dX8_findStirs_21 (by decide) (fun h30 => ?_) (fun h30 => ?_)
        · skip
          refine tr_aload_n dX8_findStirs_50 hl10 ?_
          obtain ⟨a31, d32, ta31⟩ := rf12_11 hW0 ta0
          refine tr_getR dX8_findStirs_51 fl8_37 (kR12 hS14.1 ta0) d32 ?_
          refine tr_aload_n dX8_findStirs_54 hl10 ?_
          refine q_getI dX8_findStirs_55 fl8_109 (kR12 hS14.1 ta0) c16 ?_
          refine tr_iload_n dX8_findStirs_58 hl12 ?_
          refine q_iast dX8_findStirs_59 (kR43 hS14.1 ta31) (ti_in (nR43 hS14.1 ta31) (by exact om_047ac1ac b21.2 b21.1) (by exact om_6f3ae6d1 g17 b21.2 b21.1 b24.2 b24.1 h25)) hS14 ta31 (by show (0 : Int) ≤ v9.toInt ∧ v9.toInt ≤ (239 : Int); exact om_95f0bf21 g18 b24.2 b24.1 h25) rfl (by rfl) ?_
          intro I33 hS34 e36 f35
          have c37 : I33 a0 10 = v15 := (f35 _ _ (fun q => by have z := ta0; rw [q.1, ta31] at z; exact absurd z (by decide))).trans c16
          refine tr_aload_n dX8_findStirs_60 hl10 ?_
          refine tr_dup dX8_findStirs_61 rfl ?_
          refine q_getI dX8_findStirs_62 fl8_109 (kR12 hS34.1 ta0) c37 ?_
          refine q_iconst dX8_findStirs_65 (by decide) ?_
          intro v38 h39
          refine q_iaddE dX8_findStirs_66 (by intro j1 j2 j3 j4; exact om_57019d10 b21.2 b21.1 h39) ?_
          intro v40 h41
          refine q_putI dX8_findStirs_67 fl8_109 (kR12 hS34.1 ta0) (Or.inl rfl) hS34 ta0 (by show (0 : Int) ≤ v40.toInt ∧ v40.toInt ≤ (240 : Int); exact om_7b5e6c39 g17 g18 b21.2 b21.1 b24.2 b24.1 h25 h39 h41) rfl (by decide +kernel) ?_
          intro I42 hS43 e44 f45
          refine q_iincE dX8_findStirs_70 hl12 (by decide) (by decide) (by intro j1 j2; exact om_c21242c3 g18 b24.2 b24.1 h25 j2) ?_
          intro v46 h47
          refine tr_goto 7 dX8_findStirs_73 (by decide) ?_
          exact ih19 _ v46 I42 v40 hl10 hl11 rfl hS43 e44 (by exact om_836ee404 g17 h39 h41 h47) (by exact om_68881c41 g18 h47) (by exact om_42183fab g18 hm19 b24.2 b24.1 h25 h30 h47)
        · skip
          refine tr_aload_n dX8_findStirs_24 hl10 ?_
          obtain ⟨a48, d49, ta48⟩ := rf12_9 hW0 ta0
          refine tr_getR dX8_findStirs_25 fl8_34 (kR12 hS14.1 ta0) d49 ?_
          refine tr_iload_n dX8_findStirs_28 hl12 ?_
          refine q_iald dX8_findStirs_29 (kR42 hS14.1 ta48) (ti_in (nR42 hS14.1 ta48) (by exact om_2cfcd5a5 g18) (by exact om_6fd76572 b24.2 b24.1 h25)) ?_
          intro v50 c51
          refine q_if_ne 50 dX8_findStirs_30 (by decide) (fun h52 => ?_) (fun h52 => ?_)
          · skip
            refine tr_aload_n dX8_findStirs_50 hl10 ?_
            obtain ⟨a53, d54, ta53⟩ := rf12_11 hW0 ta0
            refine tr_getR dX8_findStirs_51 fl8_37 (kR12 hS14.1 ta0) d54 ?_
            refine tr_aload_n dX8_findStirs_54 hl10 ?_
            refine q_getI dX8_findStirs_55 fl8_109 (kR12 hS14.1 ta0) c16 ?_
            refine tr_iload_n dX8_findStirs_58 hl12 ?_
            refine q_iast dX8_findStirs_59 (kR43 hS14.1 ta53) (ti_in (nR43 hS14.1 ta53) (by exact om_047ac1ac b21.2 b21.1) (by exact om_6f3ae6d1 g17 b21.2 b21.1 b24.2 b24.1 h25)) hS14 ta53 (by show (0 : Int) ≤ v9.toInt ∧ v9.toInt ≤ (239 : Int); exact om_95f0bf21 g18 b24.2 b24.1 h25) rfl (by rfl) ?_
            intro I55 hS56 e58 f57
            have c59 : I55 a0 10 = v15 := (f57 _ _ (fun q => by have z := ta0; rw [q.1, ta53] at z; exact absurd z (by decide))).trans c16
            refine tr_aload_n dX8_findStirs_60 hl10 ?_
            refine tr_dup dX8_findStirs_61 rfl ?_
            refine q_getI dX8_findStirs_62 fl8_109 (kR12 hS56.1 ta0) c59 ?_
            refine q_iconst dX8_findStirs_65 (by decide) ?_
            intro v60 h61
            refine q_iaddE dX8_findStirs_66 (by intro j1 j2 j3 j4; exact om_57019d10 b21.2 b21.1 h61) ?_
            intro v62 h63
            refine q_putI dX8_findStirs_67 fl8_109 (kR12 hS56.1 ta0) (Or.inl rfl) hS56 ta0 (by show (0 : Int) ≤ v62.toInt ∧ v62.toInt ≤ (240 : Int); exact om_7b5e6c39 g17 g18 b21.2 b21.1 b24.2 b24.1 h25 h61 h63) rfl (by decide +kernel) ?_
            intro I64 hS65 e66 f67
            refine q_iincE dX8_findStirs_70 hl12 (by decide) (by decide) (by intro j1 j2; exact om_c21242c3 g18 b24.2 b24.1 h25 j2) ?_
            intro v68 h69
            refine tr_goto 7 dX8_findStirs_73 (by decide) ?_
            exact ih19 _ v68 I64 v62 hl10 hl11 rfl hS65 e66 (by exact om_836ee404 g17 h61 h63 h69) (by exact om_68881c41 g18 h69) (by exact om_42183fab g18 hm19 b24.2 b24.1 h25 h52 h69)
          · skip
            refine tr_aload_n dX8_findStirs_33 hl10 ?_
            obtain ⟨a70, d71, ta70⟩ := rf12_3 hW0 ta0
            refine tr_getR dX8_findStirs_34 fl8_15 (kR12 hS14.1 ta0) d71 ?_
            refine tr_iload_n dX8_findStirs_37 hl12 ?_
            refine q_zald dX8_findStirs_38 (kR36 hS14.1 ta70) (ti_in (nR36 hS14.1 ta70) (by exact om_2cfcd5a5 g18) (by exact om_6fd76572 b24.2 b24.1 h25)) ?_
            intro v72 c73
            have b74 := iv36 hS14.1 ta70 c73
            refine q_if_ne 50 dX8_findStirs_39 (by decide) (fun h75 => ?_) (fun h75 => ?_)
            · skip
              refine tr_aload_n dX8_findStirs_50 hl10 ?_
              obtain ⟨a76, d77, ta76⟩ := rf12_11 hW0 ta0
              refine tr_getR dX8_findStirs_51 fl8_37 (kR12 hS14.1 ta0) d77 ?_
              refine tr_aload_n dX8_findStirs_54 hl10 ?_
              refine q_getI dX8_findStirs_55 fl8_109 (kR12 hS14.1 ta0) c16 ?_
              refine tr_iload_n dX8_findStirs_58 hl12 ?_
              refine q_iast dX8_findStirs_59 (kR43 hS14.1 ta76) (ti_in (nR43 hS14.1 ta76) (by exact om_047ac1ac b21.2 b21.1) (by exact om_6f3ae6d1 g17 b21.2 b21.1 b24.2 b24.1 h25)) hS14 ta76 (by show (0 : Int) ≤ v9.toInt ∧ v9.toInt ≤ (239 : Int); exact om_95f0bf21 g18 b24.2 b24.1 h25) rfl (by rfl) ?_
              intro I78 hS79 e81 f80
              have c82 : I78 a0 10 = v15 := (f80 _ _ (fun q => by have z := ta0; rw [q.1, ta76] at z; exact absurd z (by decide))).trans c16
              refine tr_aload_n dX8_findStirs_60 hl10 ?_
              refine tr_dup dX8_findStirs_61 rfl ?_
              refine q_getI dX8_findStirs_62 fl8_109 (kR12 hS79.1 ta0) c82 ?_
              refine q_iconst dX8_findStirs_65 (by decide) ?_
              intro v83 h84
              refine q_iaddE dX8_findStirs_66 (by intro j1 j2 j3 j4; exact om_57019d10 b21.2 b21.1 h84) ?_
              intro v85 h86
              refine q_putI dX8_findStirs_67 fl8_109 (kR12 hS79.1 ta0) (Or.inl rfl) hS79 ta0 (by show (0 : Int) ≤ v85.toInt ∧ v85.toInt ≤ (240 : Int); exact om_7b5e6c39 g17 g18 b21.2 b21.1 b24.2 b24.1 h25 h84 h86) rfl (by decide +kernel) ?_
              intro I87 hS88 e89 f90
              refine q_iincE dX8_findStirs_70 hl12 (by decide) (by decide) (by intro j1 j2; exact om_c21242c3 g18 b24.2 b24.1 h25 j2) ?_
              intro v91 h92
              refine tr_goto 7 dX8_findStirs_73 (by decide) ?_
              exact ih19 _ v91 I87 v85 hl10 hl11 rfl hS88 e89 (by exact om_836ee404 g17 h84 h86 h92) (by exact om_68881c41 g18 h92) (by exact om_6783ebda g18 hm19 b24.2 b24.1 h25 b74.2 b74.1 h75 h92)
            · skip
              refine tr_aload_n dX8_findStirs_42 hl11 ?_
              refine tr_iload_n dX8_findStirs_43 hl12 ?_
              refine q_callVi hE (M' := mX4_holds) (as := [_]) dX8_findStirs_44 lk8_112 inX4_holds seX4_holds myX4_holds (by decide) ⟨by decide, by decide⟩ rfl (kR6 hS14.1 ta1) (Nat.le_of_ble_eq_true rfl) rfl rfl (by decide) (by decide) (k_X4_holds hS14.1 ta1) ?_
              rintro v97 cn' K' N' I93 R94 L95 ⟨rfl, rfl, rfl, rfl, rfl, rfl, h98, -⟩
              refine q_if_eq 70 dX8_findStirs_47 (by decide) (fun h99 => ?_) (fun h99 => ?_)
              · skip
                refine q_iincE dX8_findStirs_70 hl12 (by decide) (by decide) (by intro j1 j2; exact om_c21242c3 g18 b24.2 b24.1 h25 j2) ?_
                intro v100 h101
                refine tr_goto 7 dX8_findStirs_73 (by decide) ?_
                exact ih19 _ v100 I13 v15 hl10 hl11 rfl hS14 c16 (by exact om_182c4689 g17 h101) (by exact om_68881c41 g18 h101) (by exact om_c0b231d9 g18 hm19 b24.2 b24.1 h25 h101)
              · skip
                refine tr_aload_n dX8_findStirs_50 hl10 ?_
                obtain ⟨a102, d103, ta102⟩ := rf12_11 hW0 ta0
                refine tr_getR dX8_findStirs_51 fl8_37 (kR12 hS14.1 ta0) d103 ?_
                refine tr_aload_n dX8_findStirs_54 hl10 ?_
                refine q_getI dX8_findStirs_55 fl8_109 (kR12 hS14.1 ta0) c16 ?_
                refine tr_iload_n dX8_findStirs_58 hl12 ?_
                refine q_iast dX8_findStirs_59 (kR43 hS14.1 ta102) (ti_in (nR43 hS14.1 ta102) (by exact om_047ac1ac b21.2 b21.1) (by exact om_6f3ae6d1 g17 b21.2 b21.1 b24.2 b24.1 h25)) hS14 ta102 (by show (0 : Int) ≤ v9.toInt ∧ v9.toInt ≤ (239 : Int); exact om_95f0bf21 g18 b24.2 b24.1 h25) rfl (by rfl) ?_
                intro I104 hS105 e107 f106
                have c108 : I104 a0 10 = v15 := (f106 _ _ (fun q => by have z := ta0; rw [q.1, ta102] at z; exact absurd z (by decide))).trans c16
                refine tr_aload_n dX8_findStirs_60 hl10 ?_
                refine tr_dup dX8_findStirs_61 rfl ?_
                refine q_getI dX8_findStirs_62 fl8_109 (kR12 hS105.1 ta0) c108 ?_
                refine q_iconst dX8_findStirs_65 (by decide) ?_
                intro v109 h110
                refine q_iaddE dX8_findStirs_66 (by intro j1 j2 j3 j4; exact om_57019d10 b21.2 b21.1 h110) ?_
                intro v111 h112
                refine q_putI dX8_findStirs_67 fl8_109 (kR12 hS105.1 ta0) (Or.inl rfl) hS105 ta0 (by show (0 : Int) ≤ v111.toInt ∧ v111.toInt ≤ (240 : Int); exact om_7b5e6c39 g17 g18 b21.2 b21.1 b24.2 b24.1 h25 h110 h112) rfl (by decide +kernel) ?_
                intro I113 hS114 e115 f116
                refine q_iincE dX8_findStirs_70 hl12 (by decide) (by decide) (by intro j1 j2; exact om_c21242c3 g18 b24.2 b24.1 h25 j2) ?_
                intro v117 h118
                refine tr_goto 7 dX8_findStirs_73 (by decide) ?_
                exact ih19 _ v117 I113 v111 hl10 hl11 rfl hS114 e115 (by exact om_836ee404 g17 h110 h112 h118) (by exact om_68881c41 g18 h118) (by exact om_6783ebda g18 hm19 b24.2 b24.1 h25 h98.2 h98.1 h99 h118)
  exact lp19 _ _ v7 I3 v1 rfl rfl rfl hS4 e5 (by exact om_52c36dab h2 h8) (by exact om_d99fa9e4 h8) (Nat.lt_succ_self _)
def wi_X8_layCloud : List Nat := [2431]
def wr_X8_layCloud : List Nat := []
set_option maxHeartbeats 4000000 in
theorem k_X8_layCloud {l : Launch} {T : Nat → Nat} {cn : Nat} {K N : Nat → Nat} {I0 : cz_I} {R0 : cz_R} {L0 : cz_L} {d : Int} (hW0 : Wf T cn K N I0 R0 d) {a0 : Nat} (ta0 : T a0 = 12) {x1 : Int32} (hx1 : 0 ≤ x1.toInt ∧ x1.toInt ≤ 240) {x2 : Int32} (hx2 : 0 ≤ x2.toInt ∧ x2.toInt ≤ 240) : ConE l mX8_layCloud [.ref a0, .int x1, .int x2] cn K N I0 R0 L0 (ca_v (fun cn' K' N' I' R' L' => cn = cn' ∧ K = K' ∧ N = N' ∧ R0 = R' ∧ L0 = L' ∧ St T cn K N d wi_X8_layCloud wr_X8_layCloud I0 R0 I' R0 ∧ True)) := by
  refine ConE.of (by decide +kernel) rfl (Nat.le_of_ble_eq_true rfl) rfl (fun X hX hZ hE => ?_)
  subst hX
  have hS0 : St T cn K N d wi_X8_layCloud wr_X8_layCloud I0 R0 I0 R0 := St.rf0 hW0
  refine tr_iload_n dX8_layCloud_0 rfl ?_
  refine tr_istore_n dX8_layCloud_1 (by decide) (by decide) ?_
  have lp9 : ∀ (fu : Nat) (ls : Nat → Option Value) (v1 : Int32) (I6 : cz_I), ls 0 = some (.ref a0) → ls 1 = some (.int x1) → ls 2 = some (.int x2) → ls 3 = some (.int v1) → St T cn K N d wi_X8_layCloud wr_X8_layCloud I0 R0 I6 R0 → 0 ≤ v1.toInt → (-v1.toInt + 2147483647).toNat < fu → Tr X mX8_layCloud 2 ls [] cn K N I6 R0 L0 0 0 := by
    intro fu
    induction fu with
    | zero => intros; rename_i hz; exact absurd hz (Nat.not_lt_zero _)
    | succ fu ih9 =>
      intro ls v1 I6 hl2 hl3 hl4 hl5 hS7 g8 hm9
      refine tr_iload_n dX8_layCloud_2 hl5 ?_
      refine tr_iload_n dX8_layCloud_3 hl4 ?_
      refine q_icmp_ge 20 dX8_layCloud_4 (by decide) (fun h11 => ?_) (fun h11 => ?_)
      · skip
        exact tr_vret hZ dX8_layCloud_20 rfl (by decide) (by decide) ⟨rfl, rfl, rfl, rfl, rfl, rfl, hS7, trivial⟩
      · skip
        refine tr_aload_n dX8_layCloud_7 hl2 ?_
        obtain ⟨a12, d13, ta12⟩ := rf12_4 hW0 ta0
        refine tr_getR dX8_layCloud_8 fl8_18 (kR12 hS7.1 ta0) d13 ?_
        refine tr_iload_n dX8_layCloud_11 hl5 ?_
        refine q_iconst dX8_layCloud_12 (by decide) ?_
        intro v14 h15
        refine q_zast dX8_layCloud_13 (kR37 hS7.1 ta12) (ti_in (nR37 hS7.1 ta12) (by exact om_2cfcd5a5 g8) (by exact om_6fd76572 hx2.2 hx2.1 h11)) hS7 ta12 (by exact om_d753bc65 h15) rfl rfl (by rfl) ?_
        intro I16 hS17 f18
        refine q_iincE dX8_layCloud_14 hl5 (by decide) (by decide) (by intro j1 j2; exact om_c1baff6f hx2.2 hx2.1 g8 h11 j2) ?_
        intro v20 h21
        refine tr_goto 2 dX8_layCloud_17 (by decide) ?_
        exact ih9 _ v20 I16 hl2 hl3 hl4 rfl hS17 (by exact om_68881c41 g8 h21) (by exact om_2e8c00e6 hx2.2 hx2.1 g8 hm9 h11 h21)
  exact lp9 _ _ x1 I0 rfl rfl rfl rfl hS0 (by exact om_047ac1ac hx1.2 hx1.1) (Nat.lt_succ_self _)
def wi_X8_layEvent : List Nat := [2303, 2367, 2431, 2495, 2623]
def wr_X8_layEvent : List Nat := []
set_option maxHeartbeats 4000000 in
theorem k_X8_layEvent {l : Launch} {T : Nat → Nat} {cn : Nat} {K N : Nat → Nat} {I0 : cz_I} {R0 : cz_R} {L0 : cz_L} {d : Int} (hW0 : Wf T cn K N I0 R0 d) {a0 : Nat} (ta0 : T a0 = 12) {a1 : Nat} (ta1 : T a1 = 3) : ConE l mX8_layEvent [.ref a0, .ref a1] cn K N I0 R0 L0 (ca_v (fun cn' K' N' I' R' L' => cn = cn' ∧ K = K' ∧ N = N' ∧ R0 = R' ∧ L0 = L' ∧ St T cn K N d wi_X8_layEvent wr_X8_layEvent I0 R0 I' R0 ∧ True)) := by
  refine ConE.of (by decide +kernel) rfl (Nat.le_of_ble_eq_true rfl) rfl (fun X hX hZ hE => ?_)
  subst hX
  have hS0 : St T cn K N d wi_X8_layEvent wr_X8_layEvent I0 R0 I0 R0 := St.rf0 hW0
  refine tr_aload_n dX8_layEvent_0 rfl ?_
  obtain ⟨v1, c2⟩ : ∃ v, I0 a1 2 = v := ⟨_, rfl⟩
  have b3 := iv3_2 hW0 ta1 c2
  refine q_getI dX8_layEvent_1 fl8_93 (kR3 hS0.1 ta1) c2 ?_
  refine tr_istore_n dX8_layEvent_4 (by decide) (by decide) ?_
  have lp11 : ∀ (fu : Nat) (ls : Nat → Option Value) (v4 : Int32) (I8 : cz_I), ls 0 = some (.ref a0) → ls 1 = some (.ref a1) → ls 2 = some (.int v4) → St T cn K N d wi_X8_layEvent wr_X8_layEvent I0 R0 I8 R0 → 0 ≤ v4.toInt → (-v4.toInt + 2147483647).toNat < fu → Tr X mX8_layEvent 5 ls [] cn K N I8 R0 L0 0 0 := by
    intro fu
    induction fu with
    | zero => intros; rename_i hz; exact absurd hz (Nat.not_lt_zero _)
    | succ fu ih11 =>
      intro ls v4 I8 hl5 hl6 hl7 hS9 g10 hm11
      refine tr_iload_n dX8_layEvent_5 hl7 ?_
      refine tr_aload_n dX8_layEvent_6 hl6 ?_
      obtain ⟨v13, c14⟩ : ∃ v, I0 a1 3 = v := ⟨_, rfl⟩
      have b15 := iv3_3 hW0 ta1 c14
      refine q_getI dX8_layEvent_7 fl8_97 (kR3 hS9.1 ta1) ((hS9.cell ta1 (by decide +kernel)).trans c14) ?_
      refine q_icmp_ge 117 dX8_layEvent_10 (by decide) (fun h16 => ?_) (fun h16 => ?_)
      · skip
        exact tr_vret hZ dX8_layEvent_117 rfl (by decide) (by decide) ⟨rfl, rfl, rfl, rfl, rfl, rfl, hS9, trivial⟩
      · skip
        refine tr_aload_n dX8_layEvent_13 hl6 ?_
        obtain ⟨v17, c18⟩ : ∃ v, I0 a1 0 = v := ⟨_, rfl⟩
        refine q_getI dX8_layEvent_14 fl8_99 (kR3 hS9.1 ta1) ((hS9.cell ta1 (by decide +kernel)).trans c18) ?_
        by_cases h19 : v17.toInt = 0
        · skip
          refine tr_tabIn (off := 31) 48 dX8_layEvent_17 (by exact om_7c055b42 h19) (by exact om_0e9741b2 h19) (by rw [h19]; decide +kernel) (by decide) ?_
          refine tr_aload_n dX8_layEvent_48 hl5 ?_
          obtain ⟨a20, d21, ta20⟩ := rf12_4 hW0 ta0
          refine tr_getR dX8_layEvent_49 fl8_18 (kR12 hS9.1 ta0) d21 ?_
          refine tr_iload_n dX8_layEvent_52 hl7 ?_
          refine q_iconst dX8_layEvent_53 (by decide) ?_
          intro v22 h23
          refine q_zast dX8_layEvent_54 (kR37 hS9.1 ta20) (ti_in (nR37 hS9.1 ta20) (by exact om_2cfcd5a5 g10) (by exact om_6fd76572 b15.2 b15.1 h16)) hS9 ta20 (by exact om_d753bc65 h23) rfl rfl (by rfl) ?_
          intro I24 hS25 f26
          refine tr_goto 111 dX8_layEvent_55 (by decide) ?_
          refine q_iincE dX8_layEvent_111 hl7 (by decide) (by decide) (by intro j1 j2; exact om_c21242c3 g10 b15.2 b15.1 h16 j2) ?_
          intro v28 h29
          refine tr_goto 5 dX8_layEvent_114 (by decide) ?_
          exact ih11 _ v28 I24 hl5 hl6 rfl hS25 (by exact om_68881c41 g10 h29) (by exact om_c0b231d9 g10 hm11 b15.2 b15.1 h16 h29)
        · skip
          by_cases h30 : v17.toInt = 1
          · skip
            refine tr_tabIn (off := 41) 58 dX8_layEvent_17 (by exact om_6183b2fb h30) (by exact om_abf3c1b2 h30) (by rw [h30]; decide +kernel) (by decide) ?_
            refine tr_aload_n dX8_layEvent_58 hl5 ?_
            obtain ⟨a31, d32, ta31⟩ := rf12_2 hW0 ta0
            refine tr_getR dX8_layEvent_59 fl8_9 (kR12 hS9.1 ta0) d32 ?_
            refine tr_iload_n dX8_layEvent_62 hl7 ?_
            refine q_iconst dX8_layEvent_63 (by decide) ?_
            intro v33 h34
            refine q_zast dX8_layEvent_64 (kR35 hS9.1 ta31) (ti_in (nR35 hS9.1 ta31) (by exact om_2cfcd5a5 g10) (by exact om_6fd76572 b15.2 b15.1 h16)) hS9 ta31 (by exact om_d753bc65 h34) rfl rfl (by rfl) ?_
            intro I35 hS36 f37
            refine tr_goto 111 dX8_layEvent_65 (by decide) ?_
            refine q_iincE dX8_layEvent_111 hl7 (by decide) (by decide) (by intro j1 j2; exact om_c21242c3 g10 b15.2 b15.1 h16 j2) ?_
            intro v39 h40
            refine tr_goto 5 dX8_layEvent_114 (by decide) ?_
            exact ih11 _ v39 I35 hl5 hl6 rfl hS36 (by exact om_68881c41 g10 h40) (by exact om_3119c355 g10 hm11 b15.2 b15.1 h16 h19 h30 h40)
          · skip
            by_cases h41 : v17.toInt = 2
            · skip
              refine tr_tabIn (off := 51) 68 dX8_layEvent_17 (by exact om_1174f472 h41) (by exact om_1555d2b1 h41) (by rw [h41]; decide +kernel) (by decide) ?_
              refine tr_aload_n dX8_layEvent_68 hl5 ?_
              obtain ⟨a42, d43, ta42⟩ := rf12_7 hW0 ta0
              refine tr_getR dX8_layEvent_69 fl8_28 (kR12 hS9.1 ta0) d43 ?_
              refine tr_iload_n dX8_layEvent_72 hl7 ?_
              refine tr_dup2 dX8_layEvent_73 rfl rfl ?_
              refine q_iald dX8_layEvent_74 (kR40 hS9.1 ta42) (ti_in (nR40 hS9.1 ta42) (by exact om_2cfcd5a5 g10) (by exact om_6fd76572 b15.2 b15.1 h16)) ?_
              intro v44 c45
              refine q_iconst dX8_layEvent_75 (by decide) ?_
              intro v46 h47
              refine tr_aload_n dX8_layEvent_76 hl6 ?_
              obtain ⟨v48, c49⟩ : ∃ v, I0 a1 1 = v := ⟨_, rfl⟩
              refine q_getI dX8_layEvent_77 fl8_102 (kR3 hS9.1 ta1) ((hS9.cell ta1 (by decide +kernel)).trans c49) ?_
              refine q_ishl dX8_layEvent_80 ?_
              intro v50
              refine q_ior dX8_layEvent_81 ?_
              intro v51
              refine q_iast dX8_layEvent_82 (kR40 hS9.1 ta42) (ti_in (nR40 hS9.1 ta42) (by exact om_2cfcd5a5 g10) (by exact om_6fd76572 b15.2 b15.1 h16)) hS9 ta42 (iokF rfl) rfl (by rfl) ?_
              intro I52 hS53 e55 f54
              refine tr_goto 111 dX8_layEvent_83 (by decide) ?_
              refine q_iincE dX8_layEvent_111 hl7 (by decide) (by decide) (by intro j1 j2; exact om_c21242c3 g10 b15.2 b15.1 h16 j2) ?_
              intro v56 h57
              refine tr_goto 5 dX8_layEvent_114 (by decide) ?_
              exact ih11 _ v56 I52 hl5 hl6 rfl hS53 (by exact om_68881c41 g10 h57) (by exact om_5f85e4fa g10 hm11 b15.2 b15.1 h16 h19 h30 h41 h57)
            · skip
              by_cases h58 : v17.toInt = 3
              · skip
                refine tr_tabIn (off := 69) 86 dX8_layEvent_17 (by exact om_d4b200a6 h58) (by exact om_52bff43b h58) (by rw [h58]; decide +kernel) (by decide) ?_
                refine tr_aload_n dX8_layEvent_86 hl5 ?_
                obtain ⟨a59, d60, ta59⟩ := rf12_5 hW0 ta0
                refine tr_getR dX8_layEvent_87 fl8_21 (kR12 hS9.1 ta0) d60 ?_
                refine tr_iload_n dX8_layEvent_90 hl7 ?_
                refine tr_dup2 dX8_layEvent_91 rfl rfl ?_
                refine q_iald dX8_layEvent_92 (kR38 hS9.1 ta59) (ti_in (nR38 hS9.1 ta59) (by exact om_2cfcd5a5 g10) (by exact om_6fd76572 b15.2 b15.1 h16)) ?_
                intro v61 c62
                refine q_iconst dX8_layEvent_93 (by decide) ?_
                intro v63 h64
                refine tr_aload_n dX8_layEvent_94 hl6 ?_
                obtain ⟨v65, c66⟩ : ∃ v, I0 a1 1 = v := ⟨_, rfl⟩
                refine q_getI dX8_layEvent_95 fl8_102 (kR3 hS9.1 ta1) ((hS9.cell ta1 (by decide +kernel)).trans c66) ?_
                refine q_ishl dX8_layEvent_98 ?_
                intro v67
                refine q_ior dX8_layEvent_99 ?_
                intro v68
                refine q_iast dX8_layEvent_100 (kR38 hS9.1 ta59) (ti_in (nR38 hS9.1 ta59) (by exact om_2cfcd5a5 g10) (by exact om_6fd76572 b15.2 b15.1 h16)) hS9 ta59 (iokF rfl) rfl (by rfl) ?_
                intro I69 hS70 e72 f71
                refine tr_goto 111 dX8_layEvent_101 (by decide) ?_
                refine q_iincE dX8_layEvent_111 hl7 (by decide) (by decide) (by intro j1 j2; exact om_c21242c3 g10 b15.2 b15.1 h16 j2) ?_
                intro v73 h74
                refine tr_goto 5 dX8_layEvent_114 (by decide) ?_
                exact ih11 _ v73 I69 hl5 hl6 rfl hS70 (by exact om_68881c41 g10 h74) (by exact om_2ca108d8 g10 hm11 b15.2 b15.1 h16 h19 h30 h41 h58 h74)
              · skip
                refine tr_tabOut 104 dX8_layEvent_17 (by exact om_4f2b3e28 h19 h30 h41 h58) (by decide) ?_
                refine tr_aload_n dX8_layEvent_104 hl5 ?_
                obtain ⟨a75, d76, ta75⟩ := rf12_3 hW0 ta0
                refine tr_getR dX8_layEvent_105 fl8_15 (kR12 hS9.1 ta0) d76 ?_
                refine tr_iload_n dX8_layEvent_108 hl7 ?_
                refine q_iconst dX8_layEvent_109 (by decide) ?_
                intro v77 h78
                refine q_zast dX8_layEvent_110 (kR36 hS9.1 ta75) (ti_in (nR36 hS9.1 ta75) (by exact om_2cfcd5a5 g10) (by exact om_6fd76572 b15.2 b15.1 h16)) hS9 ta75 (by exact om_d753bc65 h78) rfl rfl (by rfl) ?_
                intro I79 hS80 f81
                refine q_iincE dX8_layEvent_111 hl7 (by decide) (by decide) (by intro j1 j2; exact om_c21242c3 g10 b15.2 b15.1 h16 j2) ?_
                intro v83 h84
                refine tr_goto 5 dX8_layEvent_114 (by decide) ?_
                exact ih11 _ v83 I79 hl5 hl6 rfl hS80 (by exact om_68881c41 g10 h84) (by exact om_fa733042 g10 hm11 b15.2 b15.1 h16 h19 h30 h41 h58 h84)
  exact lp11 _ _ v1 I0 rfl rfl rfl hS0 (by exact om_047ac1ac b3.2 b3.1) (Nat.lt_succ_self _)
def wi_X8_build : List Nat := [768, 769, 778, 2303, 2367, 2431, 2495, 2559, 2623, 2687, 2751, 2815]
def wr_X8_build : List Nat := []
set_option maxHeartbeats 4000000 in
theorem k_X8_build {l : Launch} {T : Nat → Nat} {cn : Nat} {K N : Nat → Nat} {I0 : cz_I} {R0 : cz_R} {L0 : cz_L} {d : Int} (hW0 : Wf T cn K N I0 R0 d) {a0 : Nat} (ta0 : T a0 = 12) {a1 : Nat} (ta1 : T a1 = 2) {a2 : Nat} (ta2 : T a2 = 8) {x3 : Int32} : ConE l mX8_build [.ref a0, .ref a1, .ref a2, .int x3] cn K N I0 R0 L0 (ca_v (fun cn' K' N' I' R' L' => cn = cn' ∧ K = K' ∧ N = N' ∧ R0 = R' ∧ L0 = L' ∧ St T cn K N d wi_X8_build wr_X8_build I0 R0 I' R0 ∧ True)) := by
  refine ConE.of (by decide +kernel) rfl (Nat.le_of_ble_eq_true rfl) rfl (fun X hX hZ hE => ?_)
  subst hX
  have hS0 : St T cn K N d wi_X8_build wr_X8_build I0 R0 I0 R0 := St.rf0 hW0
  refine tr_aload_n dX8_build_0 rfl ?_
  refine tr_aload_n dX8_build_1 rfl ?_
  obtain ⟨v1, c2⟩ : ∃ v, I0 a1 0 = v := ⟨_, rfl⟩
  have b3 := iv2_0 hW0 ta1 c2
  refine q_getI dX8_build_2 fl8_40 (kR2 hS0.1 ta1) c2 ?_
  refine q_putI dX8_build_5 fl8_46 (kR12 hS0.1 ta0) (Or.inl rfl) hS0 ta0 (by show (0 : Int) ≤ v1.toInt ∧ v1.toInt ≤ (240 : Int); exact om_d956ef70 b3) rfl (by decide +kernel) ?_
  intro I4 hS5 e6 f7
  refine tr_aload_n dX8_build_8 rfl ?_
  refine q_iconst dX8_build_9 (by decide) ?_
  intro v8 h9
  refine tr_aload_n dX8_build_10 rfl ?_
  obtain ⟨v10, c11⟩ : ∃ v, I0 a1 1 = v := ⟨_, rfl⟩
  have b12 := iv2_1 hW0 ta1 c11
  refine q_getI dX8_build_11 fl8_47 (kR2 hS5.1 ta1) ((hS5.cell ta1 (by decide +kernel)).trans c11) ?_
  refine q_ishlE dX8_build_14 (by exact om_ee8a1e2d h9) (by exact om_182edae7 b12.2 b12.1) ?_
  intro v13 h14
  refine q_iconst dX8_build_15 (by decide) ?_
  intro v15 h16
  refine q_isubE dX8_build_16 (by intro j1 j2 j3 j4; exact om_87919627 h14.2 h14.1 h16) ?_
  intro v17 h18
  refine q_putI dX8_build_17 fl8_50 (kR12 hS5.1 ta0) (Or.inl rfl) hS5 ta0 (iokF rfl) rfl (by decide +kernel) ?_
  intro I19 hS20 e21 f22
  have c23 : I19 a0 0 = v1 := (f22 _ _ (fun q => absurd q.2 (by decide))).trans e6
  refine tr_aload_n dX8_build_20 rfl ?_
  refine q_callVv hE (M' := mX8_wipe) (as := []) dX8_build_21 lk8_53 inX8_wipe seX8_wipe myX8_wipe (by decide) ⟨by decide, by decide⟩ rfl (kR12 hS20.1 ta0) (Nat.le_of_ble_eq_true rfl) rfl rfl (by decide) (by decide) (k_X8_wipe hS20.1 ta0) ?_
  rintro cn' K' N' I24 R25 L26 ⟨rfl, rfl, rfl, rfl, rfl, g27, -⟩
  have hS29 := hS20.tr g27 (by decide +kernel) (by decide +kernel)
  have c30 : I24 a0 0 = v1 := (g27.cell ta0 (by decide +kernel)).trans c23
  have c31 : I24 a0 1 = v17 := (g27.cell ta0 (by decide +kernel)).trans e21
  refine q_iconst dX8_build_24 (by decide) ?_
  intro v32 h33
  refine tr_istore dX8_build_25 (by decide) (by decide) ?_
  have lp43 : ∀ (fu : Nat) (ls : Nat → Option Value) (v34 : Int32) (I40 : cz_I), ls 0 = some (.ref a0) → ls 1 = some (.ref a1) → ls 2 = some (.ref a2) → ls 3 = some (.int x3) → ls 4 = some (.int v34) → St T cn K N d wi_X8_build wr_X8_build I0 R0 I40 R0 → 0 ≤ v34.toInt → (-v34.toInt + 2147483647).toNat < fu → Tr X mX8_build 27 ls [] cn K N I40 R0 L0 0 0 := by
    intro fu
    induction fu with
    | zero => intros; rename_i hz; exact absurd hz (Nat.not_lt_zero _)
    | succ fu ih43 =>
      intro ls v34 I40 hl35 hl36 hl37 hl38 hl39 hS41 g42 hm43
      refine tr_iload dX8_build_27 hl39 ?_
      refine tr_aload_n dX8_build_29 hl36 ?_
      obtain ⟨v45, c46⟩ : ∃ v, I0 a1 3 = v := ⟨_, rfl⟩
      have b47 := iv2_3 hW0 ta1 c46
      refine q_getI dX8_build_30 fl8_56 (kR2 hS41.1 ta1) ((hS41.cell ta1 (by decide +kernel)).trans c46) ?_
      refine q_icmp_ge 59 dX8_build_33 (by decide) (fun h48 => ?_) (fun h48 => ?_)
      · skip
        refine q_iconst dX8_build_59 (by decide) ?_
        intro v49 h50
        refine tr_istore dX8_build_60 (by decide) (by decide) ?_
        have lp60 : ∀ (fu : Nat) (ls : Nat → Option Value) (v51 : Int32) (I57 : cz_I), ls 0 = some (.ref a0) → ls 1 = some (.ref a1) → ls 2 = some (.ref a2) → ls 3 = some (.int x3) → ls 4 = some (.int v51) → St T cn K N d wi_X8_build wr_X8_build I0 R0 I57 R0 → 0 ≤ v51.toInt → (-v51.toInt + 2147483647).toNat < fu → Tr X mX8_build 62 ls [] cn K N I57 R0 L0 0 0 := by
          intro fu
          induction fu with
          | zero => intros; rename_i hz; exact absurd hz (Nat.not_lt_zero _)
          | succ fu ih60 =>
            intro ls v51 I57 hl52 hl53 hl54 hl55 hl56 hS58 g59 hm60
            refine tr_iload dX8_build_62 hl56 ?_
            refine tr_aload_n dX8_build_64 hl54 ?_
            obtain ⟨v62, c63⟩ : ∃ v, I0 a2 2 = v := ⟨_, rfl⟩
            have b64 := iv8_2 hW0 ta2 c63
            refine q_getI dX8_build_65 fl8_67 (kR8 hS58.1 ta2) ((hS58.cell ta2 (by decide +kernel)).trans c63) ?_
            refine q_icmp_ge 106 dX8_build_68 (by decide) (fun h65 => ?_) (fun h65 => ?_)
            · skip
              refine tr_aload_n dX8_build_106 hl52 ?_
              refine q_callVv hE (M' := mX8_findLight) (as := []) dX8_build_107 lk8_82 inX8_findLight seX8_findLight myX8_findLight (by decide) ⟨by decide, by decide⟩ rfl (kR12 hS58.1 ta0) (Nat.le_of_ble_eq_true rfl) rfl rfl (by decide) (by decide) (k_X8_findLight hS58.1 ta0) ?_
              rintro cn' K' N' I66 R67 L68 ⟨rfl, rfl, rfl, rfl, rfl, g69, -⟩
              have hS71 := hS58.tr g69 (by decide +kernel) (by decide +kernel)
              refine tr_aload_n dX8_build_110 hl52 ?_
              refine tr_aload_n dX8_build_111 hl53 ?_
              obtain ⟨a72, d73, ta72⟩ := rf2_8 hW0 ta1
              refine tr_getR dX8_build_112 fl8_85 (kR2 hS71.1 ta1) d73 ?_
              refine q_callVv hE (M' := mX8_findStirs) (as := [_]) dX8_build_115 lk8_89 inX8_findStirs seX8_findStirs myX8_findStirs (by decide) ⟨by decide, by decide⟩ rfl (kR12 hS71.1 ta0) (Nat.le_of_ble_eq_true rfl) rfl rfl (by decide) (by decide) (k_X8_findStirs hS71.1 ta0 ta72) ?_
              rintro cn' K' N' I74 R75 L76 ⟨rfl, rfl, rfl, rfl, rfl, g77, -⟩
              have hS79 := hS71.tr g77 (by decide +kernel) (by decide +kernel)
              exact tr_vret hZ dX8_build_118 rfl (by decide) (by decide) ⟨rfl, rfl, rfl, rfl, rfl, rfl, hS79, trivial⟩
            · skip
              refine tr_aload_n dX8_build_71 hl53 ?_
              refine q_getI dX8_build_72 fl8_56 (kR2 hS58.1 ta1) ((hS58.cell ta1 (by decide +kernel)).trans c46) ?_
              refine tr_iload dX8_build_75 hl56 ?_
              refine q_iaddE dX8_build_77 (by intro j1 j2 j3 j4; exact om_f7f8d2ed b47.2 b47.1 g59 b64.2 b64.1 h65 j4) ?_
              intro v80 h81
              refine tr_iload_n dX8_build_78 hl55 ?_
              refine q_icmp_eq 100 dX8_build_79 (by decide) (fun h82 => ?_) (fun h82 => ?_)
              · skip
                refine q_iincE dX8_build_100 hl56 (by decide) (by decide) (by intro j1 j2; exact om_1c62f9ff g59 b64.2 b64.1 h65 j2) ?_
                intro v83 h84
                refine tr_goto 62 dX8_build_103 (by decide) ?_
                exact ih60 _ v83 I57 hl52 hl53 hl54 hl55 rfl hS58 (by exact om_68881c41 g59 h84) (by exact om_78718bb6 g59 hm60 b64.2 b64.1 h65 h84)
              · skip
                refine tr_aload_n dX8_build_82 hl52 ?_
                refine tr_aload_n dX8_build_83 hl54 ?_
                obtain ⟨a85, d86, ta85⟩ := rf8_3 hW0 ta2
                refine tr_getR dX8_build_84 fl8_72 (kR8 hS58.1 ta2) d86 ?_
                refine tr_iload dX8_build_87 hl56 ?_
                refine q_iald dX8_build_89 (kR27 hS58.1 ta85) (ti_in (nR27 hS58.1 ta85) (by exact om_2cfcd5a5 g59) (by exact om_2b874313 b64.2 b64.1 h65)) ?_
                intro v87 c88
                have b89 := iv27 hS58.1 ta85 c88
                refine tr_aload_n dX8_build_90 hl54 ?_
                obtain ⟨a90, d91, ta90⟩ := rf8_4 hW0 ta2
                refine tr_getR dX8_build_91 fl8_75 (kR8 hS58.1 ta2) d91 ?_
                refine tr_iload dX8_build_94 hl56 ?_
                refine q_iald dX8_build_96 (kR28 hS58.1 ta90) (ti_in (nR28 hS58.1 ta90) (by exact om_2cfcd5a5 g59) (by exact om_2b874313 b64.2 b64.1 h65)) ?_
                intro v92 c93
                have b94 := iv28 hS58.1 ta90 c93
                refine q_callVv hE (M' := mX8_layCloud) (as := [_, _]) dX8_build_97 lk8_78 inX8_layCloud seX8_layCloud myX8_layCloud (by decide) ⟨by decide, by decide⟩ rfl (kR12 hS58.1 ta0) (Nat.le_of_ble_eq_true rfl) rfl rfl (by decide) (by decide) (k_X8_layCloud hS58.1 ta0 (by exact om_d956ef70 b89) (by exact om_d956ef70 b94)) ?_
                rintro cn' K' N' I95 R96 L97 ⟨rfl, rfl, rfl, rfl, rfl, g98, -⟩
                have hS100 := hS58.tr g98 (by decide +kernel) (by decide +kernel)
                refine q_iincE dX8_build_100 hl56 (by decide) (by decide) (by intro j1 j2; exact om_1c62f9ff g59 b64.2 b64.1 h65 j2) ?_
                intro v101 h102
                refine tr_goto 62 dX8_build_103 (by decide) ?_
                exact ih60 _ v101 I95 hl52 hl53 hl54 hl55 rfl hS100 (by exact om_68881c41 g59 h102) (by exact om_cf5afe83 g59 hm60 b64.2 b64.1 h65 h82 h102)
        exact lp60 _ _ v49 I40 hl35 hl36 hl37 hl38 rfl hS41 (by exact om_d99fa9e4 h50) (Nat.lt_succ_self _)
      · skip
        refine tr_iload dX8_build_36 hl39 ?_
        refine tr_iload_n dX8_build_38 hl38 ?_
        refine q_icmp_eq 53 dX8_build_39 (by decide) (fun h103 => ?_) (fun h103 => ?_)
        · skip
          refine q_iincE dX8_build_53 hl39 (by decide) (by decide) (by intro j1 j2; exact om_e4f88b50 g42 b47.2 b47.1 h48 h103 j2) ?_
          intro v104 h105
          refine tr_goto 27 dX8_build_56 (by decide) ?_
          exact ih43 _ v104 I40 hl35 hl36 hl37 hl38 rfl hS41 (by exact om_075c04dc g42 h103 h105) (by exact om_04adf890 g42 hm43 b47.2 b47.1 h48 h103 h105)
        · skip
          refine tr_aload_n dX8_build_42 hl35 ?_
          refine tr_aload_n dX8_build_43 hl36 ?_
          obtain ⟨a106, d107, ta106⟩ := rf2_4 hW0 ta1
          refine tr_getR dX8_build_44 fl8_59 (kR2 hS41.1 ta1) d107 ?_
          refine tr_iload dX8_build_47 hl39 ?_
          obtain ⟨a108, d109, ta108⟩ := rf19 hS41.1 ta106 (j := v34.toNatClampNeg) (ti_lt (by exact om_2cfcd5a5 g42) (by exact om_d7ac722a b47.2 b47.1 h48))
          refine tr_aald dX8_build_49 (kR19 hS41.1 ta106) (by decide) (by decide) (ti_in (nR19 hS41.1 ta106) (by exact om_2cfcd5a5 g42) (by exact om_d7ac722a b47.2 b47.1 h48)) d109 ?_
          refine q_callVv hE (M' := mX8_layEvent) (as := [_]) dX8_build_50 lk8_63 inX8_layEvent seX8_layEvent myX8_layEvent (by decide) ⟨by decide, by decide⟩ rfl (kR12 hS41.1 ta0) (Nat.le_of_ble_eq_true rfl) rfl rfl (by decide) (by decide) (k_X8_layEvent hS41.1 ta0 ta108) ?_
          rintro cn' K' N' I110 R111 L112 ⟨rfl, rfl, rfl, rfl, rfl, g113, -⟩
          have hS115 := hS41.tr g113 (by decide +kernel) (by decide +kernel)
          refine q_iincE dX8_build_53 hl39 (by decide) (by decide) (by have z0 := x3.toInt_lt; have y0 := x3.le_toInt; intros; omega) ?_
          intro v116 h117
          refine tr_goto 27 dX8_build_56 (by decide) ?_
          exact ih43 _ v116 I110 hl35 hl36 hl37 hl38 rfl hS115 (by exact om_68881c41 g42 h117) (by exact om_062a9da4 g42 hm43 b47.2 b47.1 h48 h103 h117)
  exact lp43 _ _ v32 I24 rfl rfl rfl rfl rfl hS29 (by exact om_d99fa9e4 h33) (Nat.lt_succ_self _)
def wi_X10_presentSky : List Nat := [73, 768, 769, 778, 2303, 2367, 2431, 2495, 2559, 2623, 2687, 2751, 2815]
def wr_X10_presentSky : List Nat := []
set_option maxHeartbeats 4000000 in
theorem k_X10_presentSky {l : Launch} {T : Nat → Nat} {cn : Nat} {K N : Nat → Nat} {I0 : cz_I} {R0 : cz_R} {L0 : cz_L} {d : Int} (hW0 : Wf T cn K N I0 R0 d) {a0 : Nat} (ta0 : T a0 = 1) : ConE l mX10_presentSky [.ref a0] cn K N I0 R0 L0 (ca_r (fun v cn' K' N' I' R' L' => cn = cn' ∧ K = K' ∧ N = N' ∧ R0 = R' ∧ L0 = L' ∧ St T cn K N d wi_X10_presentSky wr_X10_presentSky I0 R0 I' R0 ∧ T v = 12 ∧ True)) := by
  refine ConE.of (by decide +kernel) rfl (Nat.le_of_ble_eq_true rfl) rfl (fun X hX hZ hE => ?_)
  subst hX
  have hS0 : St T cn K N d wi_X10_presentSky wr_X10_presentSky I0 R0 I0 R0 := St.rf0 hW0
  refine tr_aload_n dX10_presentSky_0 rfl ?_
  obtain ⟨v1, c2⟩ : ∃ v, I0 a0 9 = v := ⟨_, rfl⟩
  have b3 := iv1_9 hS0.1 ta0 c2
  refine q_getZ dX10_presentSky_1 fl10_358 (kR1 hS0.1 ta0) c2 ?_
  refine q_if_ne 28 dX10_presentSky_4 (by decide) (fun h4 => ?_) (fun h4 => ?_)
  · skip
    refine tr_aload_n dX10_presentSky_28 rfl ?_
    obtain ⟨a5, d6, ta5⟩ := rf1_8 hW0 ta0
    refine tr_getR dX10_presentSky_29 fl10_49 (kR1 hS0.1 ta0) d6 ?_
    exact tr_aret hZ dX10_presentSky_32 rfl (by decide) (by decide) ⟨a5, rfl, rfl, rfl, rfl, rfl, rfl, hS0, ta5, trivial⟩
  · skip
    refine tr_aload_n dX10_presentSky_7 rfl ?_
    obtain ⟨a7, d8, ta7⟩ := rf1_8 hW0 ta0
    refine tr_getR dX10_presentSky_8 fl10_49 (kR1 hS0.1 ta0) d8 ?_
    refine tr_aload_n dX10_presentSky_11 rfl ?_
    obtain ⟨a9, d10, ta9⟩ := rf1_2 hW0 ta0
    refine tr_getR dX10_presentSky_12 fl10_16 (kR1 hS0.1 ta0) d10 ?_
    refine tr_aload_n dX10_presentSky_15 rfl ?_
    obtain ⟨a11, d12, ta11⟩ := rf1_6 hW0 ta0
    refine tr_getR dX10_presentSky_16 fl10_35 (kR1 hS0.1 ta0) d12 ?_
    refine q_iconst dX10_presentSky_19 (by decide) ?_
    intro v13 h14
    refine q_callVv hE (M' := mX8_build) (as := [_, _, _]) dX10_presentSky_20 lk10_237 inX8_build seX8_build myX8_build (by decide) ⟨by decide, by decide⟩ rfl (kR12 hS0.1 ta7) (Nat.le_of_ble_eq_true rfl) rfl rfl (by decide) (by decide) (k_X8_build hS0.1 ta7 ta9 ta11) ?_
    rintro cn' K' N' I15 R16 L17 ⟨rfl, rfl, rfl, rfl, rfl, g18, -⟩
    have hS20 := hS0.tr g18 (by decide +kernel) (by decide +kernel)
    have c21 : I15 a0 9 = v1 := (g18.cell ta0 (by decide +kernel)).trans c2
    refine tr_aload_n dX10_presentSky_23 rfl ?_
    refine q_iconst dX10_presentSky_24 (by decide) ?_
    intro v22 h23
    refine q_putZ dX10_presentSky_25 fl10_358 (kR1 hS20.1 ta0) (Or.inl rfl) hS20 ta0 (by exact om_d753bc65 h23) (by show (0 : Int) ≤ v22.toInt ∧ v22.toInt ≤ (1 : Int); exact om_d753bc65 h23) rfl (by decide +kernel) ?_
    intro I24 hS25 e26 f27
    refine tr_aload_n dX10_presentSky_28 rfl ?_
    refine tr_getR dX10_presentSky_29 fl10_49 (kR1 hS25.1 ta0) d8 ?_
    exact tr_aret hZ dX10_presentSky_32 rfl (by decide) (by decide) ⟨a7, rfl, rfl, rfl, rfl, rfl, rfl, hS25, ta7, trivial⟩
def wi_X10_sky : List Nat := [73, 81, 768, 769, 778, 2303, 2367, 2431, 2495, 2559, 2623, 2687, 2751, 2815]
def wr_X10_sky : List Nat := []
set_option maxHeartbeats 4000000 in
theorem k_X10_sky {l : Launch} {T : Nat → Nat} {cn : Nat} {K N : Nat → Nat} {I0 : cz_I} {R0 : cz_R} {L0 : cz_L} {d : Int} (hW0 : Wf T cn K N I0 R0 d) {a0 : Nat} (ta0 : T a0 = 1) {x1 : Int32} : ConE l mX10_sky [.ref a0, .int x1] cn K N I0 R0 L0 (ca_i (fun v cn' K' N' I' R' L' => cn = cn' ∧ K = K' ∧ N = N' ∧ R0 = R' ∧ L0 = L' ∧ St T cn K N d wi_X10_sky wr_X10_sky I0 R0 I' R0 ∧ True)) := by
  refine ConE.of (by decide +kernel) rfl (Nat.le_of_ble_eq_true rfl) rfl (fun X hX hZ hE => ?_)
  subst hX
  have hS0 : St T cn K N d wi_X10_sky wr_X10_sky I0 R0 I0 R0 := St.rf0 hW0
  refine tr_aload_n dX10_sky_0 rfl ?_
  obtain ⟨v1, c2⟩ : ∃ v, I0 a0 5 = v := ⟨_, rfl⟩
  have b3 := iv1_5 hW0 ta0 c2
  refine q_getZ dX10_sky_1 fl10_95 (kR1 hS0.1 ta0) c2 ?_
  refine q_if_ne 13 dX10_sky_4 (by decide) (fun h4 => ?_) (fun h4 => ?_)
  · skip
    refine tr_aload_n dX10_sky_13 rfl ?_
    refine tr_iload_n dX10_sky_14 rfl ?_
    refine q_callVi hE (M' := mX10_isMinute) (as := [_]) dX10_sky_15 lk10_115 inX10_isMinute seX10_isMinute myX10_isMinute (by decide) ⟨by decide, by decide⟩ rfl (kR1 hS0.1 ta0) (Nat.le_of_ble_eq_true rfl) rfl rfl (by decide) (by decide) (k_X10_isMinute hS0.1 ta0) ?_
    rintro v9 cn' K' N' I5 R6 L7 ⟨rfl, rfl, rfl, rfl, rfl, rfl, h10, p11, -⟩
    refine q_if_ne 27 dX10_sky_18 (by decide) (fun h12 => ?_) (fun h12 => ?_)
    · skip
      refine tr_aload_n dX10_sky_27 rfl ?_
      refine tr_aload_n dX10_sky_28 rfl ?_
      refine q_callVr hE (M' := mX10_presentSky) (as := []) dX10_sky_29 lk10_119 inX10_presentSky seX10_presentSky myX10_presentSky (by decide) ⟨by decide, by decide⟩ rfl (kR1 hS0.1 ta0) (Nat.le_of_ble_eq_true rfl) rfl rfl (by decide) (by decide) (k_X10_presentSky hS0.1 ta0) ?_
      rintro a17 cn' K' N' I13 R14 L15 ⟨rfl, rfl, rfl, rfl, rfl, g16, ta17, -⟩
      have hS18 := hS0.tr g16 (by decide +kernel) (by decide +kernel)
      refine tr_iload_n dX10_sky_32 rfl ?_
      refine q_callVi hE (M' := mX8_isBright) (as := [_]) dX10_sky_33 lk10_123 inX8_isBright seX8_isBright myX8_isBright (by decide) ⟨by decide, by decide⟩ rfl (kR12 hS18.1 ta17) (Nat.le_of_ble_eq_true rfl) rfl rfl (by decide) (by decide) (k_X8_isBright hS18.1 ta17 (by exact om_ec1a32e4 h10.2 h10.1 p11 h12)) ?_
      rintro v23 cn' K' N' I19 R20 L21 ⟨rfl, rfl, rfl, rfl, rfl, rfl, h24, -⟩
      refine q_if_eq 43 dX10_sky_36 (by decide) (fun h25 => ?_) (fun h25 => ?_)
      · skip
        refine q_iconst dX10_sky_43 (by decide) ?_
        intro v26 h27
        refine q_callVi hE (M' := mX10_answered) (as := [_]) dX10_sky_44 lk10_109 inX10_answered seX10_answered myX10_answered (by decide) ⟨by decide, by decide⟩ rfl (kR1 hS18.1 ta0) (Nat.le_of_ble_eq_true rfl) rfl rfl (by decide) (by decide) (k_X10_answered hS18.1 ta0) ?_
        rintro v32 cn' K' N' I28 R29 L30 ⟨rfl, rfl, rfl, rfl, rfl, g31, -⟩
        have hS33 := hS18.tr g31 (by decide +kernel) (by decide +kernel)
        exact tr_iret hZ dX10_sky_47 rfl (by decide) (by decide) ⟨v32, rfl, rfl, rfl, rfl, rfl, rfl, hS33, trivial⟩
      · skip
        refine q_iconst dX10_sky_39 (by decide) ?_
        intro v34 h35
        refine tr_goto 44 dX10_sky_40 (by decide) ?_
        refine q_callVi hE (M' := mX10_answered) (as := [_]) dX10_sky_44 lk10_109 inX10_answered seX10_answered myX10_answered (by decide) ⟨by decide, by decide⟩ rfl (kR1 hS18.1 ta0) (Nat.le_of_ble_eq_true rfl) rfl rfl (by decide) (by decide) (k_X10_answered hS18.1 ta0) ?_
        rintro v40 cn' K' N' I36 R37 L38 ⟨rfl, rfl, rfl, rfl, rfl, g39, -⟩
        have hS41 := hS18.tr g39 (by decide +kernel) (by decide +kernel)
        exact tr_iret hZ dX10_sky_47 rfl (by decide) (by decide) ⟨v40, rfl, rfl, rfl, rfl, rfl, rfl, hS41, trivial⟩
    · skip
      refine tr_aload_n dX10_sky_21 rfl ?_
      refine q_iconst dX10_sky_22 (by decide) ?_
      intro v42 h43
      refine q_callVi hE (M' := mX10_refused) (as := [_]) dX10_sky_23 lk10_79 inX10_refused seX10_refused myX10_refused (by decide) ⟨by decide, by decide⟩ rfl (kR1 hS0.1 ta0) (Nat.le_of_ble_eq_true rfl) rfl rfl (by decide) (by decide) (k_X10_refused hS0.1 ta0) ?_
      rintro v48 cn' K' N' I44 R45 L46 ⟨rfl, rfl, rfl, rfl, rfl, g47, -⟩
      have hS49 := hS0.tr g47 (by decide +kernel) (by decide +kernel)
      exact tr_iret hZ dX10_sky_26 rfl (by decide) (by decide) ⟨v48, rfl, rfl, rfl, rfl, rfl, rfl, hS49, trivial⟩
  · skip
    refine tr_aload_n dX10_sky_7 rfl ?_
    refine q_iconst dX10_sky_8 (by decide) ?_
    intro v50 h51
    refine q_callVi hE (M' := mX10_refused) (as := [_]) dX10_sky_9 lk10_79 inX10_refused seX10_refused myX10_refused (by decide) ⟨by decide, by decide⟩ rfl (kR1 hS0.1 ta0) (Nat.le_of_ble_eq_true rfl) rfl rfl (by decide) (by decide) (k_X10_refused hS0.1 ta0) ?_
    rintro v56 cn' K' N' I52 R53 L54 ⟨rfl, rfl, rfl, rfl, rfl, g55, -⟩
    have hS57 := hS0.tr g55 (by decide +kernel) (by decide +kernel)
    exact tr_iret hZ dX10_sky_12 rfl (by decide) (by decide) ⟨v56, rfl, rfl, rfl, rfl, rfl, rfl, hS57, trivial⟩
set_option maxHeartbeats 4000000 in
theorem k_X10_isHut {l : Launch} {T : Nat → Nat} {cn : Nat} {K N : Nat → Nat} {I0 : cz_I} {R0 : cz_R} {L0 : cz_L} {d : Int} (hW0 : Wf T cn K N I0 R0 d) {a0 : Nat} (ta0 : T a0 = 1) {x1 : Int32} : ConE l mX10_isHut [.ref a0, .int x1] cn K N I0 R0 L0 (ca_i (fun v cn' K' N' I' R' L' => cn = cn' ∧ K = K' ∧ N = N' ∧ I0 = I' ∧ R0 = R' ∧ L0 = L' ∧ (0 ≤ v.toInt ∧ v.toInt ≤ 1) ∧ True)) := by
  refine ConE.of (by decide +kernel) rfl (Nat.le_of_ble_eq_true rfl) rfl (fun X hX hZ hE => ?_)
  subst hX
  refine tr_iload_n dX10_isHut_0 rfl ?_
  refine q_if_lt 19 dX10_isHut_1 (by decide) (fun h1 => ?_) (fun h1 => ?_)
  · skip
    refine q_iconst dX10_isHut_19 (by decide) ?_
    intro v2 h3
    exact tr_zret hZ dX10_isHut_20 rfl (ti_b01 (by exact om_d99fa9e4 h3) (by exact om_d3de7ec9 h3)) (by decide) (by decide) ⟨v2, rfl, rfl, rfl, rfl, rfl, rfl, rfl, (by exact om_3b50ecb9 h3), trivial⟩
  · skip
    refine tr_iload_n dX10_isHut_4 rfl ?_
    refine tr_aload_n dX10_isHut_5 rfl ?_
    obtain ⟨a4, d5, ta4⟩ := rf1_2 hW0 ta0
    refine tr_getR dX10_isHut_6 fl10_16 (kR1 hW0 ta0) d5 ?_
    obtain ⟨v6, c7⟩ : ∃ v, I0 a4 1 = v := ⟨_, rfl⟩
    have b8 := iv2_1 hW0 ta4 c7
    refine q_getI dX10_isHut_9 fl10_332 (kR2 hW0 ta4) c7 ?_
    refine q_icmp_ge 19 dX10_isHut_12 (by decide) (fun h9 => ?_) (fun h9 => ?_)
    · skip
      refine q_iconst dX10_isHut_19 (by decide) ?_
      intro v10 h11
      exact tr_zret hZ dX10_isHut_20 rfl (ti_b01 (by exact om_d99fa9e4 h11) (by exact om_d3de7ec9 h11)) (by decide) (by decide) ⟨v10, rfl, rfl, rfl, rfl, rfl, rfl, rfl, (by exact om_3b50ecb9 h11), trivial⟩
    · skip
      refine q_iconst dX10_isHut_15 (by decide) ?_
      intro v12 h13
      refine tr_goto 20 dX10_isHut_16 (by decide) ?_
      exact tr_zret hZ dX10_isHut_20 rfl (ti_b01 (by exact om_f9079521 h13) (by exact om_e6632817 h13)) (by decide) (by decide) ⟨v12, rfl, rfl, rfl, rfl, rfl, rfl, rfl, (by exact om_d753bc65 h13), trivial⟩
def wi_X10_light : List Nat := [73, 81, 768, 769, 778, 2303, 2367, 2431, 2495, 2559, 2623, 2687, 2751, 2815]
def wr_X10_light : List Nat := []
set_option maxHeartbeats 4000000 in
theorem k_X10_light {l : Launch} {T : Nat → Nat} {cn : Nat} {K N : Nat → Nat} {I0 : cz_I} {R0 : cz_R} {L0 : cz_L} {d : Int} (hW0 : Wf T cn K N I0 R0 d) {a0 : Nat} (ta0 : T a0 = 1) {x1 : Int32} {x2 : Int32} {x3 : Int32} : ConE l mX10_light [.ref a0, .int x1, .int x2, .int x3] cn K N I0 R0 L0 (ca_i (fun v cn' K' N' I' R' L' => cn = cn' ∧ K = K' ∧ N = N' ∧ R0 = R' ∧ L0 = L' ∧ St T cn K N d wi_X10_light wr_X10_light I0 R0 I' R0 ∧ True)) := by
  refine ConE.of (by decide +kernel) rfl (Nat.le_of_ble_eq_true rfl) rfl (fun X hX hZ hE => ?_)
  subst hX
  have hS0 : St T cn K N d wi_X10_light wr_X10_light I0 R0 I0 R0 := St.rf0 hW0
  refine tr_aload_n dX10_light_0 rfl ?_
  refine tr_iload_n dX10_light_1 rfl ?_
  refine q_callVi hE (M' := mX10_isHut) (as := [_]) dX10_light_2 lk10_126 inX10_isHut seX10_isHut myX10_isHut (by decide) ⟨by decide, by decide⟩ rfl (kR1 hS0.1 ta0) (Nat.le_of_ble_eq_true rfl) rfl rfl (by decide) (by decide) (k_X10_isHut hS0.1 ta0) ?_
  rintro v5 cn' K' N' I1 R2 L3 ⟨rfl, rfl, rfl, rfl, rfl, rfl, h6, -⟩
  refine q_if_ne 14 dX10_light_5 (by decide) (fun h7 => ?_) (fun h7 => ?_)
  · skip
    refine tr_aload_n dX10_light_14 rfl ?_
    refine tr_iload_n dX10_light_15 rfl ?_
    refine q_callVi hE (M' := mX10_isMinute) (as := [_]) dX10_light_16 lk10_115 inX10_isMinute seX10_isMinute myX10_isMinute (by decide) ⟨by decide, by decide⟩ rfl (kR1 hS0.1 ta0) (Nat.le_of_ble_eq_true rfl) rfl rfl (by decide) (by decide) (k_X10_isMinute hS0.1 ta0) ?_
    rintro v12 cn' K' N' I8 R9 L10 ⟨rfl, rfl, rfl, rfl, rfl, rfl, h13, p14, -⟩
    refine q_if_ne 28 dX10_light_19 (by decide) (fun h15 => ?_) (fun h15 => ?_)
    · skip
      refine tr_aload_n dX10_light_28 rfl ?_
      refine q_callVr hE (M' := mX10_presentSky) (as := []) dX10_light_29 lk10_119 inX10_presentSky seX10_presentSky myX10_presentSky (by decide) ⟨by decide, by decide⟩ rfl (kR1 hS0.1 ta0) (Nat.le_of_ble_eq_true rfl) rfl rfl (by decide) (by decide) (k_X10_presentSky hS0.1 ta0) ?_
      rintro a20 cn' K' N' I16 R17 L18 ⟨rfl, rfl, rfl, rfl, rfl, g19, ta20, -⟩
      have hS21 := hS0.tr g19 (by decide +kernel) (by decide +kernel)
      refine tr_astore dX10_light_32 (by decide) (by decide) ?_
      refine tr_iload_n dX10_light_34 rfl ?_
      refine q_if_eq 46 dX10_light_35 (by decide) (fun h22 => ?_) (fun h22 => ?_)
      · skip
        refine tr_aload dX10_light_46 rfl ?_
        obtain ⟨a23, d24, ta23⟩ := rf12_6 hW0 ta20
        refine tr_getR dX10_light_48 fl10_133 (kR12 hS21.1 ta20) d24 ?_
        refine tr_astore dX10_light_51 (by decide) (by decide) ?_
        refine tr_aload_n dX10_light_53 rfl ?_
        refine tr_aload dX10_light_54 rfl ?_
        refine tr_iload_n dX10_light_56 rfl ?_
        refine q_iald dX10_light_57 (kR39 hS21.1 ta23) (ti_in (nR39 hS21.1 ta23) (by exact om_3510717c h13.2 h13.1 p14 h15) (by exact om_97a3ce2b h13.2 h13.1 p14 h15)) ?_
        intro v25 c26
        refine tr_iload_n dX10_light_58 rfl ?_
        refine q_callSi hE (M' := mX10_bit) (as := [_, _]) dX10_light_59 lk10_136 inX10_bit myX10_bit ⟨by decide, by decide⟩ rfl (Nat.le_of_ble_eq_true rfl) rfl rfl (by decide) (by decide) (k_X10_bit hS21.1 ) ?_
        rintro v31 cn' K' N' I27 R28 L29 ⟨rfl, rfl, rfl, rfl, rfl, rfl, -⟩
        refine q_callVi hE (M' := mX10_answered) (as := [_]) dX10_light_62 lk10_109 inX10_answered seX10_answered myX10_answered (by decide) ⟨by decide, by decide⟩ rfl (kR1 hS21.1 ta0) (Nat.le_of_ble_eq_true rfl) rfl rfl (by decide) (by decide) (k_X10_answered hS21.1 ta0) ?_
        rintro v36 cn' K' N' I32 R33 L34 ⟨rfl, rfl, rfl, rfl, rfl, g35, -⟩
        have hS37 := hS21.tr g35 (by decide +kernel) (by decide +kernel)
        exact tr_iret hZ dX10_light_65 rfl (by decide) (by decide) ⟨v36, rfl, rfl, rfl, rfl, rfl, rfl, hS37, trivial⟩
      · skip
        refine tr_aload dX10_light_38 rfl ?_
        obtain ⟨a38, d39, ta38⟩ := rf12_7 hW0 ta20
        refine tr_getR dX10_light_40 fl10_129 (kR12 hS21.1 ta20) d39 ?_
        refine tr_goto 51 dX10_light_43 (by decide) ?_
        refine tr_astore dX10_light_51 (by decide) (by decide) ?_
        refine tr_aload_n dX10_light_53 rfl ?_
        refine tr_aload dX10_light_54 rfl ?_
        refine tr_iload_n dX10_light_56 rfl ?_
        refine q_iald dX10_light_57 (kR40 hS21.1 ta38) (ti_in (nR40 hS21.1 ta38) (by exact om_b80aec74 h13.2 h13.1 p14 h15 h22) (by exact om_bec72316 h13.2 h13.1 p14 h15 h22)) ?_
        intro v40 c41
        refine tr_iload_n dX10_light_58 rfl ?_
        refine q_callSi hE (M' := mX10_bit) (as := [_, _]) dX10_light_59 lk10_136 inX10_bit myX10_bit ⟨by decide, by decide⟩ rfl (Nat.le_of_ble_eq_true rfl) rfl rfl (by decide) (by decide) (k_X10_bit hS21.1 ) ?_
        rintro v46 cn' K' N' I42 R43 L44 ⟨rfl, rfl, rfl, rfl, rfl, rfl, -⟩
        refine q_callVi hE (M' := mX10_answered) (as := [_]) dX10_light_62 lk10_109 inX10_answered seX10_answered myX10_answered (by decide) ⟨by decide, by decide⟩ rfl (kR1 hS21.1 ta0) (Nat.le_of_ble_eq_true rfl) rfl rfl (by decide) (by decide) (k_X10_answered hS21.1 ta0) ?_
        rintro v51 cn' K' N' I47 R48 L49 ⟨rfl, rfl, rfl, rfl, rfl, g50, -⟩
        have hS52 := hS21.tr g50 (by decide +kernel) (by decide +kernel)
        exact tr_iret hZ dX10_light_65 rfl (by decide) (by decide) ⟨v51, rfl, rfl, rfl, rfl, rfl, rfl, hS52, trivial⟩
    · skip
      refine tr_aload_n dX10_light_22 rfl ?_
      refine q_iconst dX10_light_23 (by decide) ?_
      intro v53 h54
      refine q_callVi hE (M' := mX10_refused) (as := [_]) dX10_light_24 lk10_79 inX10_refused seX10_refused myX10_refused (by decide) ⟨by decide, by decide⟩ rfl (kR1 hS0.1 ta0) (Nat.le_of_ble_eq_true rfl) rfl rfl (by decide) (by decide) (k_X10_refused hS0.1 ta0) ?_
      rintro v59 cn' K' N' I55 R56 L57 ⟨rfl, rfl, rfl, rfl, rfl, g58, -⟩
      have hS60 := hS0.tr g58 (by decide +kernel) (by decide +kernel)
      exact tr_iret hZ dX10_light_27 rfl (by decide) (by decide) ⟨v59, rfl, rfl, rfl, rfl, rfl, rfl, hS60, trivial⟩
  · skip
    refine tr_aload_n dX10_light_8 rfl ?_
    refine q_iconst dX10_light_9 (by decide) ?_
    intro v61 h62
    refine q_callVi hE (M' := mX10_refused) (as := [_]) dX10_light_10 lk10_79 inX10_refused seX10_refused myX10_refused (by decide) ⟨by decide, by decide⟩ rfl (kR1 hS0.1 ta0) (Nat.le_of_ble_eq_true rfl) rfl rfl (by decide) (by decide) (k_X10_refused hS0.1 ta0) ?_
    rintro v67 cn' K' N' I63 R64 L65 ⟨rfl, rfl, rfl, rfl, rfl, g66, -⟩
    have hS68 := hS0.tr g66 (by decide +kernel) (by decide +kernel)
    exact tr_iret hZ dX10_light_13 rfl (by decide) (by decide) ⟨v67, rfl, rfl, rfl, rfl, rfl, rfl, hS68, trivial⟩
def wi_X10_changes : List Nat := [73, 81, 768, 769, 778, 2303, 2367, 2431, 2495, 2559, 2623, 2687, 2751, 2815]
def wr_X10_changes : List Nat := []
set_option maxHeartbeats 4000000 in
theorem k_X10_changes {l : Launch} {T : Nat → Nat} {cn : Nat} {K N : Nat → Nat} {I0 : cz_I} {R0 : cz_R} {L0 : cz_L} {d : Int} (hW0 : Wf T cn K N I0 R0 d) {a0 : Nat} (ta0 : T a0 = 1) {x1 : Int32} {x2 : Int32} : ConE l mX10_changes [.ref a0, .int x1, .int x2] cn K N I0 R0 L0 (ca_i (fun v cn' K' N' I' R' L' => cn = cn' ∧ K = K' ∧ N = N' ∧ R0 = R' ∧ L0 = L' ∧ St T cn K N d wi_X10_changes wr_X10_changes I0 R0 I' R0 ∧ True)) := by
  refine ConE.of (by decide +kernel) rfl (Nat.le_of_ble_eq_true rfl) rfl (fun X hX hZ hE => ?_)
  subst hX
  have hS0 : St T cn K N d wi_X10_changes wr_X10_changes I0 R0 I0 R0 := St.rf0 hW0
  refine tr_aload_n dX10_changes_0 rfl ?_
  refine tr_iload_n dX10_changes_1 rfl ?_
  refine q_callVi hE (M' := mX10_isHut) (as := [_]) dX10_changes_2 lk10_126 inX10_isHut seX10_isHut myX10_isHut (by decide) ⟨by decide, by decide⟩ rfl (kR1 hS0.1 ta0) (Nat.le_of_ble_eq_true rfl) rfl rfl (by decide) (by decide) (k_X10_isHut hS0.1 ta0) ?_
  rintro v5 cn' K' N' I1 R2 L3 ⟨rfl, rfl, rfl, rfl, rfl, rfl, h6, -⟩
  refine q_if_ne 14 dX10_changes_5 (by decide) (fun h7 => ?_) (fun h7 => ?_)
  · skip
    refine tr_aload_n dX10_changes_14 rfl ?_
    refine q_callVr hE (M' := mX10_presentSky) (as := []) dX10_changes_15 lk10_119 inX10_presentSky seX10_presentSky myX10_presentSky (by decide) ⟨by decide, by decide⟩ rfl (kR1 hS0.1 ta0) (Nat.le_of_ble_eq_true rfl) rfl rfl (by decide) (by decide) (k_X10_presentSky hS0.1 ta0) ?_
    rintro a12 cn' K' N' I8 R9 L10 ⟨rfl, rfl, rfl, rfl, rfl, g11, ta12, -⟩
    have hS13 := hS0.tr g11 (by decide +kernel) (by decide +kernel)
    refine tr_astore_n dX10_changes_18 (by decide) (by decide) ?_
    refine tr_iload_n dX10_changes_19 rfl ?_
    refine q_if_eq 30 dX10_changes_20 (by decide) (fun h14 => ?_) (fun h14 => ?_)
    · skip
      refine tr_aload_n dX10_changes_30 rfl ?_
      obtain ⟨a15, d16, ta15⟩ := rf12_8 hW0 ta12
      refine tr_getR dX10_changes_31 fl10_143 (kR12 hS13.1 ta12) d16 ?_
      refine tr_astore dX10_changes_34 (by decide) (by decide) ?_
      refine q_iconst dX10_changes_36 (by decide) ?_
      intro v17 h18
      refine tr_istore dX10_changes_37 (by decide) (by decide) ?_
      refine q_iconst dX10_changes_39 (by decide) ?_
      intro v19 h20
      refine tr_istore dX10_changes_40 (by decide) (by decide) ?_
      have lp33 : ∀ (fu : Nat) (ls : Nat → Option Value) (v21 : Int32) (v22 : Int32) (I30 : cz_I), ls 0 = some (.ref a0) → ls 1 = some (.int x1) → ls 2 = some (.int x2) → ls 3 = some (.ref a12) → ls 4 = some (.ref a15) → ls 5 = some (.int v21) → ls 6 = some (.int v22) → St T cn K N d wi_X10_changes wr_X10_changes I0 R0 I30 R0 → 0 ≤ v22.toInt → (-v22.toInt + 2147483647).toNat < fu → Tr X mX10_changes 42 ls [] cn K N I30 R0 L0 0 0 := by
        intro fu
        induction fu with
        | zero => intros; rename_i hz; exact absurd hz (Nat.not_lt_zero _)
        | succ fu ih33 =>
          intro ls v21 v22 I30 hl23 hl24 hl25 hl26 hl27 hl28 hl29 hS31 g32 hm33
          refine tr_iload dX10_changes_42 hl29 ?_
          refine tr_aload_n dX10_changes_44 hl23 ?_
          obtain ⟨a35, d36, ta35⟩ := rf1_2 hW0 ta0
          refine tr_getR dX10_changes_45 fl10_16 (kR1 hS31.1 ta0) d36 ?_
          obtain ⟨v37, c38⟩ : ∃ v, I0 a35 0 = v := ⟨_, rfl⟩
          have b39 := iv2_0 hW0 ta35 c38
          refine q_getI dX10_changes_48 fl10_146 (kR2 hS31.1 ta35) ((hS31.cell ta35 (by decide +kernel)).trans c38) ?_
          refine q_icmp_ge 74 dX10_changes_51 (by decide) (fun h40 => ?_) (fun h40 => ?_)
          · skip
            refine tr_aload_n dX10_changes_74 hl23 ?_
            refine tr_iload dX10_changes_75 hl28 ?_
            refine q_callVi hE (M' := mX10_answered) (as := [_]) dX10_changes_77 lk10_109 inX10_answered seX10_answered myX10_answered (by decide) ⟨by decide, by decide⟩ rfl (kR1 hS31.1 ta0) (Nat.le_of_ble_eq_true rfl) rfl rfl (by decide) (by decide) (k_X10_answered hS31.1 ta0) ?_
            rintro v45 cn' K' N' I41 R42 L43 ⟨rfl, rfl, rfl, rfl, rfl, g44, -⟩
            have hS46 := hS31.tr g44 (by decide +kernel) (by decide +kernel)
            exact tr_iret hZ dX10_changes_80 rfl (by decide) (by decide) ⟨v45, rfl, rfl, rfl, rfl, rfl, rfl, hS46, trivial⟩
          · skip
            refine tr_iload dX10_changes_54 hl28 ?_
            refine tr_aload dX10_changes_56 hl27 ?_
            refine tr_iload dX10_changes_58 hl29 ?_
            refine q_iald dX10_changes_60 (kR41 hS31.1 ta15) (ti_in (nR41 hS31.1 ta15) (by exact om_2cfcd5a5 g32) (by exact om_6fd76572 b39.2 b39.1 h40)) ?_
            intro v47 c48
            refine tr_iload_n dX10_changes_61 hl24 ?_
            refine q_callSi hE (M' := mX10_bit) (as := [_, _]) dX10_changes_62 lk10_136 inX10_bit myX10_bit ⟨by decide, by decide⟩ rfl (Nat.le_of_ble_eq_true rfl) rfl rfl (by decide) (by decide) (k_X10_bit hS31.1 ) ?_
            rintro v53 cn' K' N' I49 R50 L51 ⟨rfl, rfl, rfl, rfl, rfl, rfl, -⟩
            refine q_iadd dX10_changes_65 ?_
            intro v54
            refine tr_istore dX10_changes_66 (by decide) (by decide) ?_
            refine q_iincE dX10_changes_68 hl29 (by decide) (by decide) (by intro j1 j2; exact om_c21242c3 g32 b39.2 b39.1 h40 j2) ?_
            intro v55 h56
            refine tr_goto 42 dX10_changes_71 (by decide) ?_
            exact ih33 _ v54 v55 I30 hl23 hl24 hl25 hl26 hl27 rfl rfl hS31 (by exact om_68881c41 g32 h56) (by exact om_c0b231d9 g32 hm33 b39.2 b39.1 h40 h56)
      exact lp33 _ _ v17 v19 I8 rfl rfl rfl rfl rfl rfl rfl hS13 (by exact om_d99fa9e4 h20) (Nat.lt_succ_self _)
    · skip
      refine tr_aload_n dX10_changes_23 rfl ?_
      obtain ⟨a57, d58, ta57⟩ := rf12_9 hW0 ta12
      refine tr_getR dX10_changes_24 fl10_140 (kR12 hS13.1 ta12) d58 ?_
      refine tr_goto 34 dX10_changes_27 (by decide) ?_
      refine tr_astore dX10_changes_34 (by decide) (by decide) ?_
      refine q_iconst dX10_changes_36 (by decide) ?_
      intro v59 h60
      refine tr_istore dX10_changes_37 (by decide) (by decide) ?_
      refine q_iconst dX10_changes_39 (by decide) ?_
      intro v61 h62
      refine tr_istore dX10_changes_40 (by decide) (by decide) ?_
      have lp75 : ∀ (fu : Nat) (ls : Nat → Option Value) (v63 : Int32) (v64 : Int32) (I72 : cz_I), ls 0 = some (.ref a0) → ls 1 = some (.int x1) → ls 2 = some (.int x2) → ls 3 = some (.ref a12) → ls 4 = some (.ref a57) → ls 5 = some (.int v63) → ls 6 = some (.int v64) → St T cn K N d wi_X10_changes wr_X10_changes I0 R0 I72 R0 → 0 ≤ v64.toInt → (-v64.toInt + 2147483647).toNat < fu → Tr X mX10_changes 42 ls [] cn K N I72 R0 L0 0 0 := by
        intro fu
        induction fu with
        | zero => intros; rename_i hz; exact absurd hz (Nat.not_lt_zero _)
        | succ fu ih75 =>
          intro ls v63 v64 I72 hl65 hl66 hl67 hl68 hl69 hl70 hl71 hS73 g74 hm75
          refine tr_iload dX10_changes_42 hl71 ?_
          refine tr_aload_n dX10_changes_44 hl65 ?_
          obtain ⟨a77, d78, ta77⟩ := rf1_2 hW0 ta0
          refine tr_getR dX10_changes_45 fl10_16 (kR1 hS73.1 ta0) d78 ?_
          obtain ⟨v79, c80⟩ : ∃ v, I0 a77 0 = v := ⟨_, rfl⟩
          have b81 := iv2_0 hW0 ta77 c80
          refine q_getI dX10_changes_48 fl10_146 (kR2 hS73.1 ta77) ((hS73.cell ta77 (by decide +kernel)).trans c80) ?_
          refine q_icmp_ge 74 dX10_changes_51 (by decide) (fun h82 => ?_) (fun h82 => ?_)
          · skip
            refine tr_aload_n dX10_changes_74 hl65 ?_
            refine tr_iload dX10_changes_75 hl70 ?_
            refine q_callVi hE (M' := mX10_answered) (as := [_]) dX10_changes_77 lk10_109 inX10_answered seX10_answered myX10_answered (by decide) ⟨by decide, by decide⟩ rfl (kR1 hS73.1 ta0) (Nat.le_of_ble_eq_true rfl) rfl rfl (by decide) (by decide) (k_X10_answered hS73.1 ta0) ?_
            rintro v87 cn' K' N' I83 R84 L85 ⟨rfl, rfl, rfl, rfl, rfl, g86, -⟩
            have hS88 := hS73.tr g86 (by decide +kernel) (by decide +kernel)
            exact tr_iret hZ dX10_changes_80 rfl (by decide) (by decide) ⟨v87, rfl, rfl, rfl, rfl, rfl, rfl, hS88, trivial⟩
          · skip
            refine tr_iload dX10_changes_54 hl70 ?_
            refine tr_aload dX10_changes_56 hl69 ?_
            refine tr_iload dX10_changes_58 hl71 ?_
            refine q_iald dX10_changes_60 (kR42 hS73.1 ta57) (ti_in (nR42 hS73.1 ta57) (by exact om_2cfcd5a5 g74) (by exact om_6fd76572 b81.2 b81.1 h82)) ?_
            intro v89 c90
            refine tr_iload_n dX10_changes_61 hl66 ?_
            refine q_callSi hE (M' := mX10_bit) (as := [_, _]) dX10_changes_62 lk10_136 inX10_bit myX10_bit ⟨by decide, by decide⟩ rfl (Nat.le_of_ble_eq_true rfl) rfl rfl (by decide) (by decide) (k_X10_bit hS73.1 ) ?_
            rintro v95 cn' K' N' I91 R92 L93 ⟨rfl, rfl, rfl, rfl, rfl, rfl, -⟩
            refine q_iadd dX10_changes_65 ?_
            intro v96
            refine tr_istore dX10_changes_66 (by decide) (by decide) ?_
            refine q_iincE dX10_changes_68 hl71 (by decide) (by decide) (by intro j1 j2; exact om_c21242c3 g74 b81.2 b81.1 h82 j2) ?_
            intro v97 h98
            refine tr_goto 42 dX10_changes_71 (by decide) ?_
            exact ih75 _ v96 v97 I72 hl65 hl66 hl67 hl68 hl69 rfl rfl hS73 (by exact om_68881c41 g74 h98) (by exact om_c0b231d9 g74 hm75 b81.2 b81.1 h82 h98)
      exact lp75 _ _ v59 v61 I8 rfl rfl rfl rfl rfl rfl rfl hS13 (by exact om_d99fa9e4 h62) (Nat.lt_succ_self _)
  · skip
    refine tr_aload_n dX10_changes_8 rfl ?_
    refine q_iconst dX10_changes_9 (by decide) ?_
    intro v99 h100
    refine q_callVi hE (M' := mX10_refused) (as := [_]) dX10_changes_10 lk10_79 inX10_refused seX10_refused myX10_refused (by decide) ⟨by decide, by decide⟩ rfl (kR1 hS0.1 ta0) (Nat.le_of_ble_eq_true rfl) rfl rfl (by decide) (by decide) (k_X10_refused hS0.1 ta0) ?_
    rintro v105 cn' K' N' I101 R102 L103 ⟨rfl, rfl, rfl, rfl, rfl, g104, -⟩
    have hS106 := hS0.tr g104 (by decide +kernel) (by decide +kernel)
    exact tr_iret hZ dX10_changes_13 rfl (by decide) (by decide) ⟨v105, rfl, rfl, rfl, rfl, rfl, rfl, hS106, trivial⟩
def wi_X10_change : List Nat := [73, 81, 768, 769, 778, 2303, 2367, 2431, 2495, 2559, 2623, 2687, 2751, 2815]
def wr_X10_change : List Nat := []
set_option maxHeartbeats 4000000 in
theorem k_X10_change {l : Launch} {T : Nat → Nat} {cn : Nat} {K N : Nat → Nat} {I0 : cz_I} {R0 : cz_R} {L0 : cz_L} {d : Int} (hW0 : Wf T cn K N I0 R0 d) {a0 : Nat} (ta0 : T a0 = 1) {x1 : Int32} {x2 : Int32} : ConE l mX10_change [.ref a0, .int x1, .int x2] cn K N I0 R0 L0 (ca_i (fun v cn' K' N' I' R' L' => cn = cn' ∧ K = K' ∧ N = N' ∧ R0 = R' ∧ L0 = L' ∧ St T cn K N d wi_X10_change wr_X10_change I0 R0 I' R0 ∧ True)) := by
  refine ConE.of (by decide +kernel) rfl (Nat.le_of_ble_eq_true rfl) rfl (fun X hX hZ hE => ?_)
  subst hX
  have hS0 : St T cn K N d wi_X10_change wr_X10_change I0 R0 I0 R0 := St.rf0 hW0
  refine tr_aload_n dX10_change_0 rfl ?_
  refine tr_iload_n dX10_change_1 rfl ?_
  refine q_callVi hE (M' := mX10_isHut) (as := [_]) dX10_change_2 lk10_126 inX10_isHut seX10_isHut myX10_isHut (by decide) ⟨by decide, by decide⟩ rfl (kR1 hS0.1 ta0) (Nat.le_of_ble_eq_true rfl) rfl rfl (by decide) (by decide) (k_X10_isHut hS0.1 ta0) ?_
  rintro v5 cn' K' N' I1 R2 L3 ⟨rfl, rfl, rfl, rfl, rfl, rfl, h6, -⟩
  refine q_if_ne 14 dX10_change_5 (by decide) (fun h7 => ?_) (fun h7 => ?_)
  · skip
    refine tr_aload_n dX10_change_14 rfl ?_
    refine q_callVr hE (M' := mX10_presentSky) (as := []) dX10_change_15 lk10_119 inX10_presentSky seX10_presentSky myX10_presentSky (by decide) ⟨by decide, by decide⟩ rfl (kR1 hS0.1 ta0) (Nat.le_of_ble_eq_true rfl) rfl rfl (by decide) (by decide) (k_X10_presentSky hS0.1 ta0) ?_
    rintro a12 cn' K' N' I8 R9 L10 ⟨rfl, rfl, rfl, rfl, rfl, g11, ta12, -⟩
    have hS13 := hS0.tr g11 (by decide +kernel) (by decide +kernel)
    refine tr_astore_n dX10_change_18 (by decide) (by decide) ?_
    refine q_iconst dX10_change_19 (by decide) ?_
    intro v14 h15
    refine tr_istore dX10_change_20 (by decide) (by decide) ?_
    refine q_iconst dX10_change_22 (by decide) ?_
    intro v16 h17
    refine tr_istore dX10_change_23 (by decide) (by decide) ?_
    have lp29 : ∀ (fu : Nat) (ls : Nat → Option Value) (v18 : Int32) (v19 : Int32) (I26 : cz_I), ls 0 = some (.ref a0) → ls 1 = some (.int x1) → ls 2 = some (.int x2) → ls 3 = some (.ref a12) → ls 4 = some (.int v18) → ls 5 = some (.int v19) → St T cn K N d wi_X10_change wr_X10_change I0 R0 I26 R0 → 0 ≤ v19.toInt → (-v19.toInt + 2147483647).toNat < fu → Tr X mX10_change 25 ls [] cn K N I26 R0 L0 0 0 := by
      intro fu
      induction fu with
      | zero => intros; rename_i hz; exact absurd hz (Nat.not_lt_zero _)
      | succ fu ih29 =>
        intro ls v18 v19 I26 hl20 hl21 hl22 hl23 hl24 hl25 hS27 g28 hm29
        refine tr_iload dX10_change_25 hl25 ?_
        refine tr_aload_n dX10_change_27 hl20 ?_
        obtain ⟨a31, d32, ta31⟩ := rf1_2 hW0 ta0
        refine tr_getR dX10_change_28 fl10_16 (kR1 hS27.1 ta0) d32 ?_
        obtain ⟨v33, c34⟩ : ∃ v, I0 a31 0 = v := ⟨_, rfl⟩
        have b35 := iv2_0 hW0 ta31 c34
        refine q_getI dX10_change_31 fl10_146 (kR2 hS27.1 ta31) ((hS27.cell ta31 (by decide +kernel)).trans c34) ?_
        refine q_icmp_ge 74 dX10_change_34 (by decide) (fun h36 => ?_) (fun h36 => ?_)
        · skip
          refine tr_aload_n dX10_change_74 hl20 ?_
          refine q_iconst dX10_change_75 (by decide) ?_
          intro v37 h38
          refine q_callVi hE (M' := mX10_refused) (as := [_]) dX10_change_76 lk10_79 inX10_refused seX10_refused myX10_refused (by decide) ⟨by decide, by decide⟩ rfl (kR1 hS27.1 ta0) (Nat.le_of_ble_eq_true rfl) rfl rfl (by decide) (by decide) (k_X10_refused hS27.1 ta0) ?_
          rintro v43 cn' K' N' I39 R40 L41 ⟨rfl, rfl, rfl, rfl, rfl, g42, -⟩
          have hS44 := hS27.tr g42 (by decide +kernel) (by decide +kernel)
          exact tr_iret hZ dX10_change_79 rfl (by decide) (by decide) ⟨v43, rfl, rfl, rfl, rfl, rfl, rfl, hS44, trivial⟩
        · skip
          refine tr_aload_n dX10_change_37 hl23 ?_
          obtain ⟨a45, d46, ta45⟩ := rf12_8 hW0 ta12
          refine tr_getR dX10_change_38 fl10_143 (kR12 hS27.1 ta12) d46 ?_
          refine tr_iload dX10_change_41 hl25 ?_
          refine q_iald dX10_change_43 (kR41 hS27.1 ta45) (ti_in (nR41 hS27.1 ta45) (by exact om_2cfcd5a5 g28) (by exact om_6fd76572 b35.2 b35.1 h36)) ?_
          intro v47 c48
          refine tr_iload_n dX10_change_44 hl21 ?_
          refine q_callSi hE (M' := mX10_bit) (as := [_, _]) dX10_change_45 lk10_136 inX10_bit myX10_bit ⟨by decide, by decide⟩ rfl (Nat.le_of_ble_eq_true rfl) rfl rfl (by decide) (by decide) (k_X10_bit hS27.1 ) ?_
          rintro v53 cn' K' N' I49 R50 L51 ⟨rfl, rfl, rfl, rfl, rfl, rfl, -⟩
          refine q_iconst dX10_change_48 (by decide) ?_
          intro v54 h55
          refine q_icmp_ne 68 dX10_change_49 (by decide) (fun h56 => ?_) (fun h56 => ?_)
          · skip
            refine q_iincE dX10_change_68 hl25 (by decide) (by decide) (by intro j1 j2; exact om_c21242c3 g28 b35.2 b35.1 h36 j2) ?_
            intro v57 h58
            refine tr_goto 25 dX10_change_71 (by decide) ?_
            exact ih29 _ v18 v57 I26 hl20 hl21 hl22 hl23 hl24 rfl hS27 (by exact om_68881c41 g28 h58) (by exact om_169556ca g28 hm29 b35.2 b35.1 h36 h56 h58)
          · skip
            refine tr_iload dX10_change_52 hl24 ?_
            refine tr_iload_n dX10_change_54 hl22 ?_
            refine q_icmp_ne 65 dX10_change_55 (by decide) (fun h59 => ?_) (fun h59 => ?_)
            · skip
              refine q_iinc dX10_change_65 hl24 (by decide) ?_
              intro v60
              refine q_iincE dX10_change_68 hl25 (by decide) (by decide) (by intro j1 j2; exact om_c21242c3 g28 b35.2 b35.1 h36 j2) ?_
              intro v61 h62
              refine tr_goto 25 dX10_change_71 (by decide) ?_
              exact ih29 _ v60 v61 I26 hl20 hl21 hl22 hl23 rfl rfl hS27 (by exact om_68881c41 g28 h62) (by exact om_169556ca g28 hm29 b35.2 b35.1 h36 h59 h62)
            · skip
              refine tr_aload_n dX10_change_58 hl20 ?_
              refine tr_iload dX10_change_59 hl25 ?_
              refine q_callVi hE (M' := mX10_answered) (as := [_]) dX10_change_61 lk10_109 inX10_answered seX10_answered myX10_answered (by decide) ⟨by decide, by decide⟩ rfl (kR1 hS27.1 ta0) (Nat.le_of_ble_eq_true rfl) rfl rfl (by decide) (by decide) (k_X10_answered hS27.1 ta0) ?_
              rintro v67 cn' K' N' I63 R64 L65 ⟨rfl, rfl, rfl, rfl, rfl, g66, -⟩
              have hS68 := hS27.tr g66 (by decide +kernel) (by decide +kernel)
              exact tr_iret hZ dX10_change_64 rfl (by decide) (by decide) ⟨v67, rfl, rfl, rfl, rfl, rfl, rfl, hS68, trivial⟩
    exact lp29 _ _ v14 v16 I8 rfl rfl rfl rfl rfl rfl hS13 (by exact om_d99fa9e4 h17) (Nat.lt_succ_self _)
  · skip
    refine tr_aload_n dX10_change_8 rfl ?_
    refine q_iconst dX10_change_9 (by decide) ?_
    intro v69 h70
    refine q_callVi hE (M' := mX10_refused) (as := [_]) dX10_change_10 lk10_79 inX10_refused seX10_refused myX10_refused (by decide) ⟨by decide, by decide⟩ rfl (kR1 hS0.1 ta0) (Nat.le_of_ble_eq_true rfl) rfl rfl (by decide) (by decide) (k_X10_refused hS0.1 ta0) ?_
    rintro v75 cn' K' N' I71 R72 L73 ⟨rfl, rfl, rfl, rfl, rfl, g74, -⟩
    have hS76 := hS0.tr g74 (by decide +kernel) (by decide +kernel)
    exact tr_iret hZ dX10_change_13 rfl (by decide) (by decide) ⟨v75, rfl, rfl, rfl, rfl, rfl, rfl, hS76, trivial⟩
set_option maxHeartbeats 4000000 in
theorem k_X0_cheesesIn {l : Launch} {T : Nat → Nat} {cn : Nat} {K N : Nat → Nat} {I0 : cz_I} {R0 : cz_R} {L0 : cz_L} {d : Int} (hW0 : Wf T cn K N I0 R0 d) {a0 : Nat} (ta0 : T a0 = 2) {x1 : Int32} : ConE l mX0_cheesesIn [.ref a0, .int x1] cn K N I0 R0 L0 (ca_i (fun v cn' K' N' I' R' L' => cn = cn' ∧ K = K' ∧ N = N' ∧ I0 = I' ∧ R0 = R' ∧ L0 = L' ∧ True)) := by
  refine ConE.of (by decide +kernel) rfl (Nat.le_of_ble_eq_true rfl) rfl (fun X hX hZ hE => ?_)
  subst hX
  refine q_iconst dX0_cheesesIn_0 (by decide) ?_
  intro v1 h2
  refine tr_istore_n dX0_cheesesIn_1 (by decide) (by decide) ?_
  refine q_iconst dX0_cheesesIn_2 (by decide) ?_
  intro v3 h4
  refine tr_istore_n dX0_cheesesIn_3 (by decide) (by decide) ?_
  have lp12 : ∀ (fu : Nat) (ls : Nat → Option Value) (v5 : Int32) (v6 : Int32), ls 0 = some (.ref a0) → ls 1 = some (.int x1) → ls 2 = some (.int v5) → ls 3 = some (.int v6) → 0 ≤ v6.toInt → (-v6.toInt + 2147483647).toNat < fu → Tr X mX0_cheesesIn 4 ls [] cn K N I0 R0 L0 0 0 := by
    intro fu
    induction fu with
    | zero => intros; rename_i hz; exact absurd hz (Nat.not_lt_zero _)
    | succ fu ih12 =>
      intro ls v5 v6 hl7 hl8 hl9 hl10 g11 hm12
      refine tr_iload_n dX0_cheesesIn_4 hl10 ?_
      refine tr_aload_n dX0_cheesesIn_5 hl7 ?_
      obtain ⟨v14, c15⟩ : ∃ v, I0 a0 5 = v := ⟨_, rfl⟩
      have b16 := iv2_5 hW0 ta0 c15
      refine q_getI dX0_cheesesIn_6 fl0_60 (kR2 hW0 ta0) c15 ?_
      refine q_icmp_ge 31 dX0_cheesesIn_9 (by decide) (fun h17 => ?_) (fun h17 => ?_)
      · skip
        refine tr_iload_n dX0_cheesesIn_31 hl9 ?_
        exact tr_iret hZ dX0_cheesesIn_32 rfl (by decide) (by decide) ⟨v5, rfl, rfl, rfl, rfl, rfl, rfl, rfl, trivial⟩
      · skip
        refine tr_iload_n dX0_cheesesIn_12 hl9 ?_
        refine tr_iload_n dX0_cheesesIn_13 hl8 ?_
        refine tr_aload_n dX0_cheesesIn_14 hl7 ?_
        obtain ⟨a18, d19, ta18⟩ := rf2_6 hW0 ta0
        refine tr_getR dX0_cheesesIn_15 fl0_21 (kR2 hW0 ta0) d19 ?_
        refine tr_iload_n dX0_cheesesIn_18 hl10 ?_
        refine q_iald dX0_cheesesIn_19 (kR20 hW0 ta18) (ti_in (nR20 hW0 ta18) (by exact om_2cfcd5a5 g11) (by exact om_5f13cc30 b16.2 b16.1 h17)) ?_
        intro v20 c21
        refine q_callSNi hE (M' := mX10_bit) (as := [_, _]) dX0_cheesesIn_20 lk0_78 inX10_bit myX10_bit ⟨by decide, by decide⟩ rfl (Nat.le_of_ble_eq_true rfl) rfl rfl (by decide) (by decide) (k_X10_bit hW0 ) ?_
        rintro v26 cn' K' N' I22 R23 L24 ⟨rfl, rfl, rfl, rfl, rfl, rfl, -⟩
        refine q_iadd dX0_cheesesIn_23 ?_
        intro v27
        refine tr_istore_n dX0_cheesesIn_24 (by decide) (by decide) ?_
        refine q_iincE dX0_cheesesIn_25 hl10 (by decide) (by decide) (by intro j1 j2; exact om_4034714d g11 b16.2 b16.1 h17 j2) ?_
        intro v28 h29
        refine tr_goto 4 dX0_cheesesIn_28 (by decide) ?_
        exact ih12 _ v27 v28 hl7 hl8 rfl rfl (by exact om_68881c41 g11 h29) (by exact om_fc025699 g11 hm12 b16.2 b16.1 h17 h29)
  exact lp12 _ _ v1 v3 rfl rfl rfl rfl (by exact om_d99fa9e4 h4) (Nat.lt_succ_self _)
def wi_X10_peak : List Nat := [73, 81, 768, 769, 778, 2303, 2367, 2431, 2495, 2559, 2623, 2687, 2751, 2815]
def wr_X10_peak : List Nat := []
set_option maxHeartbeats 4000000 in
theorem k_X10_peak {l : Launch} {T : Nat → Nat} {cn : Nat} {K N : Nat → Nat} {I0 : cz_I} {R0 : cz_R} {L0 : cz_L} {d : Int} (hW0 : Wf T cn K N I0 R0 d) {a0 : Nat} (ta0 : T a0 = 1) : ConE l mX10_peak [.ref a0] cn K N I0 R0 L0 (ca_i (fun v cn' K' N' I' R' L' => cn = cn' ∧ K = K' ∧ N = N' ∧ R0 = R' ∧ L0 = L' ∧ St T cn K N d wi_X10_peak wr_X10_peak I0 R0 I' R0 ∧ True)) := by
  refine ConE.of (by decide +kernel) rfl (Nat.le_of_ble_eq_true rfl) rfl (fun X hX hZ hE => ?_)
  subst hX
  have hS0 : St T cn K N d wi_X10_peak wr_X10_peak I0 R0 I0 R0 := St.rf0 hW0
  refine tr_aload_n dX10_peak_0 rfl ?_
  obtain ⟨v1, c2⟩ : ∃ v, I0 a0 5 = v := ⟨_, rfl⟩
  have b3 := iv1_5 hW0 ta0 c2
  refine q_getZ dX10_peak_1 fl10_95 (kR1 hS0.1 ta0) c2 ?_
  refine q_if_ne 13 dX10_peak_4 (by decide) (fun h4 => ?_) (fun h4 => ?_)
  · skip
    refine tr_aload_n dX10_peak_13 rfl ?_
    refine q_callVr hE (M' := mX10_presentSky) (as := []) dX10_peak_14 lk10_119 inX10_presentSky seX10_presentSky myX10_presentSky (by decide) ⟨by decide, by decide⟩ rfl (kR1 hS0.1 ta0) (Nat.le_of_ble_eq_true rfl) rfl rfl (by decide) (by decide) (k_X10_presentSky hS0.1 ta0) ?_
    rintro a9 cn' K' N' I5 R6 L7 ⟨rfl, rfl, rfl, rfl, rfl, g8, ta9, -⟩
    have hS10 := hS0.tr g8 (by decide +kernel) (by decide +kernel)
    refine tr_astore_n dX10_peak_17 (by decide) (by decide) ?_
    refine q_iconst dX10_peak_18 (by decide) ?_
    intro v11 h12
    refine tr_istore_n dX10_peak_19 (by decide) (by decide) ?_
    refine q_bipush dX10_peak_20 (by decide +kernel) ?_
    intro v13 h14
    refine tr_istore_n dX10_peak_22 (by decide) (by decide) ?_
    refine q_iconst dX10_peak_23 (by decide) ?_
    intro v15 h16
    refine tr_istore dX10_peak_24 (by decide) (by decide) ?_
    have lp28 : ∀ (fu : Nat) (ls : Nat → Option Value) (v17 : Int32) (v18 : Int32) (v19 : Int32) (I25 : cz_I), ls 0 = some (.ref a0) → ls 1 = some (.ref a9) → ls 2 = some (.int v17) → ls 3 = some (.int v18) → ls 4 = some (.int v19) → St T cn K N d wi_X10_peak wr_X10_peak I0 R0 I25 R0 → 0 ≤ v19.toInt → (-v19.toInt + 2147483647).toNat < fu → Tr X mX10_peak 26 ls [] cn K N I25 R0 L0 0 0 := by
      intro fu
      induction fu with
      | zero => intros; rename_i hz; exact absurd hz (Nat.not_lt_zero _)
      | succ fu ih28 =>
        intro ls v17 v18 v19 I25 hl20 hl21 hl22 hl23 hl24 hS26 g27 hm28
        refine tr_iload dX10_peak_26 hl24 ?_
        refine tr_aload_n dX10_peak_28 hl20 ?_
        obtain ⟨a30, d31, ta30⟩ := rf1_2 hW0 ta0
        refine tr_getR dX10_peak_29 fl10_16 (kR1 hS26.1 ta0) d31 ?_
        obtain ⟨v32, c33⟩ : ∃ v, I0 a30 0 = v := ⟨_, rfl⟩
        have b34 := iv2_0 hW0 ta30 c33
        refine q_getI dX10_peak_32 fl10_146 (kR2 hS26.1 ta30) ((hS26.cell ta30 (by decide +kernel)).trans c33) ?_
        refine q_icmp_ge 72 dX10_peak_35 (by decide) (fun h35 => ?_) (fun h35 => ?_)
        · skip
          refine tr_aload_n dX10_peak_72 hl20 ?_
          refine tr_iload_n dX10_peak_73 hl23 ?_
          refine q_callVi hE (M' := mX10_answered) (as := [_]) dX10_peak_74 lk10_109 inX10_answered seX10_answered myX10_answered (by decide) ⟨by decide, by decide⟩ rfl (kR1 hS26.1 ta0) (Nat.le_of_ble_eq_true rfl) rfl rfl (by decide) (by decide) (k_X10_answered hS26.1 ta0) ?_
          rintro v40 cn' K' N' I36 R37 L38 ⟨rfl, rfl, rfl, rfl, rfl, g39, -⟩
          have hS41 := hS26.tr g39 (by decide +kernel) (by decide +kernel)
          exact tr_iret hZ dX10_peak_77 rfl (by decide) (by decide) ⟨v40, rfl, rfl, rfl, rfl, rfl, rfl, hS41, trivial⟩
        · skip
          refine tr_aload_n dX10_peak_38 hl20 ?_
          refine tr_getR dX10_peak_39 fl10_16 (kR1 hS26.1 ta0) d31 ?_
          refine tr_aload_n dX10_peak_42 hl21 ?_
          obtain ⟨a42, d43, ta42⟩ := rf12_8 hW0 ta9
          refine tr_getR dX10_peak_43 fl10_143 (kR12 hS26.1 ta9) d43 ?_
          refine tr_iload dX10_peak_46 hl24 ?_
          refine q_iald dX10_peak_48 (kR41 hS26.1 ta42) (ti_in (nR41 hS26.1 ta42) (by exact om_2cfcd5a5 g27) (by exact om_6fd76572 b34.2 b34.1 h35)) ?_
          intro v44 c45
          refine q_callVi hE (M' := mX0_cheesesIn) (as := [_]) dX10_peak_49 lk10_149 inX0_cheesesIn seX0_cheesesIn myX0_cheesesIn (by decide) ⟨by decide, by decide⟩ rfl (kR2 hS26.1 ta30) (Nat.le_of_ble_eq_true rfl) rfl rfl (by decide) (by decide) (k_X0_cheesesIn hS26.1 ta30) ?_
          rintro v50 cn' K' N' I46 R47 L48 ⟨rfl, rfl, rfl, rfl, rfl, rfl, -⟩
          refine tr_istore dX10_peak_52 (by decide) (by decide) ?_
          refine tr_iload dX10_peak_54 rfl ?_
          refine tr_iload_n dX10_peak_56 hl22 ?_
          refine q_icmp_le 66 dX10_peak_57 (by decide) (fun h51 => ?_) (fun h51 => ?_)
          · skip
            refine q_iincE dX10_peak_66 hl24 (by decide) (by decide) (by intro j1 j2; exact om_c21242c3 g27 b34.2 b34.1 h35 j2) ?_
            intro v52 h53
            refine tr_goto 26 dX10_peak_69 (by decide) ?_
            exact ih28 _ v17 v18 v52 I25 hl20 hl21 hl22 hl23 rfl hS26 (by exact om_68881c41 g27 h53) (by exact om_c0b231d9 g27 hm28 b34.2 b34.1 h35 h53)
          · skip
            refine tr_iload dX10_peak_60 rfl ?_
            refine tr_istore_n dX10_peak_62 (by decide) (by decide) ?_
            refine tr_iload dX10_peak_63 hl24 ?_
            refine tr_istore_n dX10_peak_65 (by decide) (by decide) ?_
            refine q_iincE dX10_peak_66 hl24 (by decide) (by decide) (by intro j1 j2; exact om_c21242c3 g27 b34.2 b34.1 h35 j2) ?_
            intro v54 h55
            refine tr_goto 26 dX10_peak_69 (by decide) ?_
            exact ih28 _ v50 v19 v54 I25 hl20 hl21 rfl rfl rfl hS26 (by exact om_68881c41 g27 h55) (by exact om_c0b231d9 g27 hm28 b34.2 b34.1 h35 h55)
    exact lp28 _ _ v11 v13 v15 I5 rfl rfl rfl rfl rfl hS10 (by exact om_d99fa9e4 h16) (Nat.lt_succ_self _)
  · skip
    refine tr_aload_n dX10_peak_7 rfl ?_
    refine q_iconst dX10_peak_8 (by decide) ?_
    intro v56 h57
    refine q_callVi hE (M' := mX10_refused) (as := [_]) dX10_peak_9 lk10_79 inX10_refused seX10_refused myX10_refused (by decide) ⟨by decide, by decide⟩ rfl (kR1 hS0.1 ta0) (Nat.le_of_ble_eq_true rfl) rfl rfl (by decide) (by decide) (k_X10_refused hS0.1 ta0) ?_
    rintro v62 cn' K' N' I58 R59 L60 ⟨rfl, rfl, rfl, rfl, rfl, g61, -⟩
    have hS63 := hS0.tr g61 (by decide +kernel) (by decide +kernel)
    exact tr_iret hZ dX10_peak_12 rfl (by decide) (by decide) ⟨v62, rfl, rfl, rfl, rfl, rfl, rfl, hS63, trivial⟩
