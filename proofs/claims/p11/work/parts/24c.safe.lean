def wi_X10_answered : List Nat := [81]
def wr_X10_answered : List Nat := []
set_option maxHeartbeats 4000000 in
theorem k_X10_answered {l : Launch} {T : Nat → Nat} {cn : Nat} {K N : Nat → Nat} {I0 : cz_I} {R0 : cz_R} {L0 : cz_L} {d : Int} (hW0 : Wf T cn K N I0 R0 d) {a0 : Nat} (ta0 : T a0 = 1) {x1 : Int32} : ConE l mX10_answered [.ref a0, .int x1] cn K N I0 R0 L0 (ca_i (fun v cn' K' N' I' R' L' => cn = cn' ∧ K = K' ∧ N = N' ∧ R0 = R' ∧ L0 = L' ∧ St T cn K N d wi_X10_answered wr_X10_answered I0 R0 I' R0 ∧ True)) := by
  refine ConE.of (by decide +kernel) rfl (Nat.le_of_ble_eq_true rfl) rfl (fun X hX hZ hE => ?_)
  subst hX
  have hS0 : St T cn K N d wi_X10_answered wr_X10_answered I0 R0 I0 R0 := St.rf0 hW0
  refine tr_aload_n dX10_answered_0 rfl ?_
  refine q_iconst dX10_answered_1 (by decide) ?_
  intro v1 h2
  refine q_putI dX10_answered_2 fl10_112 (kR1 hS0.1 ta0) (Or.inl rfl) hS0 ta0 (iokF rfl) rfl (by decide +kernel) ?_
  intro I3 hS4 e5 f6
  refine tr_iload_n dX10_answered_5 rfl ?_
  exact tr_iret hZ dX10_answered_6 rfl (by decide) (by decide) ⟨x1, rfl, rfl, rfl, rfl, rfl, rfl, hS4, trivial⟩
set_option maxHeartbeats 4000000 in
theorem k_X10_fault {l : Launch} {T : Nat → Nat} {cn : Nat} {K N : Nat → Nat} {I0 : cz_I} {R0 : cz_R} {L0 : cz_L} {d : Int} (hW0 : Wf T cn K N I0 R0 d) {a0 : Nat} (ta0 : T a0 = 1) : ConE l mX10_fault [.ref a0] cn K N I0 R0 L0 (ca_i (fun v cn' K' N' I' R' L' => cn = cn' ∧ K = K' ∧ N = N' ∧ I0 = I' ∧ R0 = R' ∧ L0 = L' ∧ (v.toInt = (I0 a0 15).toInt) ∧ True)) := by
  refine ConE.of (by decide +kernel) rfl (Nat.le_of_ble_eq_true rfl) rfl (fun X hX hZ hE => ?_)
  subst hX
  obtain ⟨v1, c2⟩ : ∃ v, I0 a0 15 = v := ⟨_, rfl⟩
  refine tr_aload_n dX10_fault_0 rfl ?_
  refine q_getI dX10_fault_1 fl10_90 (kR1 hW0 ta0) c2 ?_
  exact tr_iret hZ dX10_fault_4 rfl (by decide) (by decide) ⟨v1, rfl, rfl, rfl, rfl, rfl, rfl, rfl, (by (try rw [c2]); (try omega)), trivial⟩
set_option maxHeartbeats 4000000 in
theorem k_X10_where {l : Launch} {T : Nat → Nat} {cn : Nat} {K N : Nat → Nat} {I0 : cz_I} {R0 : cz_R} {L0 : cz_L} {d : Int} (hW0 : Wf T cn K N I0 R0 d) {a0 : Nat} (ta0 : T a0 = 1) : ConE l mX10_where [.ref a0] cn K N I0 R0 L0 (ca_i (fun v cn' K' N' I' R' L' => cn = cn' ∧ K = K' ∧ N = N' ∧ I0 = I' ∧ R0 = R' ∧ L0 = L' ∧ True)) := by
  refine ConE.of (by decide +kernel) rfl (Nat.le_of_ble_eq_true rfl) rfl (fun X hX hZ hE => ?_)
  subst hX
  refine tr_aload_n dX10_where_0 rfl ?_
  obtain ⟨v1, c2⟩ : ∃ v, I0 a0 17 = v := ⟨_, rfl⟩
  refine q_getI dX10_where_1 fl10_112 (kR1 hW0 ta0) c2 ?_
  refine q_iconst dX10_where_4 (by decide) ?_
  intro v3 h4
  refine q_icmp_ne 15 dX10_where_5 (by decide) (fun h5 => ?_) (fun h5 => ?_)
  · skip
    refine q_iconst dX10_where_15 (by decide) ?_
    intro v6 h7
    exact tr_iret hZ dX10_where_16 rfl (by decide) (by decide) ⟨v6, rfl, rfl, rfl, rfl, rfl, rfl, rfl, trivial⟩
  · skip
    refine tr_aload_n dX10_where_8 rfl ?_
    obtain ⟨v8, c9⟩ : ∃ v, I0 a0 16 = v := ⟨_, rfl⟩
    refine q_getI dX10_where_9 fl10_94 (kR1 hW0 ta0) c9 ?_
    refine tr_goto 16 dX10_where_12 (by decide) ?_
    exact tr_iret hZ dX10_where_16 rfl (by decide) (by decide) ⟨v8, rfl, rfl, rfl, rfl, rfl, rfl, rfl, trivial⟩
set_option maxHeartbeats 4000000 in
theorem k_X4_holds {l : Launch} {T : Nat → Nat} {cn : Nat} {K N : Nat → Nat} {I0 : cz_I} {R0 : cz_R} {L0 : cz_L} {d : Int} (hW0 : Wf T cn K N I0 R0 d) {a0 : Nat} (ta0 : T a0 = 6) {x1 : Int32} : ConE l mX4_holds [.ref a0, .int x1] cn K N I0 R0 L0 (ca_i (fun v cn' K' N' I' R' L' => cn = cn' ∧ K = K' ∧ N = N' ∧ I0 = I' ∧ R0 = R' ∧ L0 = L' ∧ (0 ≤ v.toInt ∧ v.toInt ≤ 1) ∧ True)) := by
  refine ConE.of (by decide +kernel) rfl (Nat.le_of_ble_eq_true rfl) rfl (fun X hX hZ hE => ?_)
  subst hX
  refine q_iconst dX4_holds_0 (by decide) ?_
  intro v1 h2
  refine tr_istore_n dX4_holds_1 (by decide) (by decide) ?_
  have lp8 : ∀ (fu : Nat) (ls : Nat → Option Value) (v3 : Int32), ls 0 = some (.ref a0) → ls 1 = some (.int x1) → ls 2 = some (.int v3) → 0 ≤ v3.toInt → (-v3.toInt + 2147483647).toNat < fu → Tr X mX4_holds 2 ls [] cn K N I0 R0 L0 0 0 := by
    intro fu
    induction fu with
    | zero => intros; rename_i hz; exact absurd hz (Nat.not_lt_zero _)
    | succ fu ih8 =>
      intro ls v3 hl4 hl5 hl6 g7 hm8
      refine tr_iload_n dX4_holds_2 hl6 ?_
      refine tr_aload_n dX4_holds_3 hl4 ?_
      obtain ⟨v10, c11⟩ : ∃ v, I0 a0 0 = v := ⟨_, rfl⟩
      have b12 := iv6_0 hW0 ta0 c11
      refine q_getI dX4_holds_4 fl4_15 (kR6 hW0 ta0) c11 ?_
      refine q_icmp_ge 28 dX4_holds_7 (by decide) (fun h13 => ?_) (fun h13 => ?_)
      · skip
        refine q_iconst dX4_holds_28 (by decide) ?_
        intro v14 h15
        exact tr_zret hZ dX4_holds_29 rfl (ti_b01 (by exact om_d99fa9e4 h15) (by exact om_d3de7ec9 h15)) (by decide) (by decide) ⟨v14, rfl, rfl, rfl, rfl, rfl, rfl, rfl, (by exact om_3b50ecb9 h15), trivial⟩
      · skip
        refine tr_aload_n dX4_holds_10 hl4 ?_
        obtain ⟨a16, d17, ta16⟩ := rf6_1 hW0 ta0
        refine tr_getR dX4_holds_11 fl4_9 (kR6 hW0 ta0) d17 ?_
        refine tr_iload_n dX4_holds_14 hl6 ?_
        refine q_iald dX4_holds_15 (kR24 hW0 ta16) (ti_in (nR24 hW0 ta16) (by exact om_2cfcd5a5 g7) (by exact om_5f13cc30 b12.2 b12.1 h13)) ?_
        intro v18 c19
        have b20 := iv24 hW0 ta16 c19
        refine tr_iload_n dX4_holds_16 hl5 ?_
        refine q_icmp_ne 22 dX4_holds_17 (by decide) (fun h21 => ?_) (fun h21 => ?_)
        · skip
          refine q_iincE dX4_holds_22 hl6 (by decide) (by decide) (by intro j1 j2; exact om_4034714d g7 b12.2 b12.1 h13 j2) ?_
          intro v22 h23
          refine tr_goto 2 dX4_holds_25 (by decide) ?_
          exact ih8 _ v22 hl4 hl5 rfl (by exact om_68881c41 g7 h23) (by exact om_8ec43a4b g7 hm8 b12.2 b12.1 h13 h21 h23)
        · skip
          refine q_iconst dX4_holds_20 (by decide) ?_
          intro v24 h25
          exact tr_zret hZ dX4_holds_21 rfl (ti_b01 (by exact om_f9079521 h25) (by exact om_e6632817 h25)) (by decide) (by decide) ⟨v24, rfl, rfl, rfl, rfl, rfl, rfl, rfl, (by exact om_d753bc65 h25), trivial⟩
  exact lp8 _ _ v1 rfl rfl rfl (by exact om_d99fa9e4 h2) (Nat.lt_succ_self _)
