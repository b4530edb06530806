def wi_X10_refused : List Nat := [81]
def wr_X10_refused : List Nat := []
set_option maxHeartbeats 4000000 in
theorem k_X10_refused {l : Launch} {T : Nat → Nat} {cn : Nat} {K N : Nat → Nat} {I0 : cz_I} {R0 : cz_R} {L0 : cz_L} {d : Int} (hW0 : Wf T cn K N I0 R0 d) {a0 : Nat} (ta0 : T a0 = 1) {x1 : Int32} : ConE l mX10_refused [.ref a0, .int x1] cn K N I0 R0 L0 (ca_i (fun v cn' K' N' I' R' L' => cn = cn' ∧ K = K' ∧ N = N' ∧ R0 = R' ∧ L0 = L' ∧ St T cn K N d wi_X10_refused wr_X10_refused I0 R0 I' R0 ∧ True)) := by
  refine ConE.of (by decide +kernel) rfl (Nat.le_of_ble_eq_true rfl) rfl (fun X hX hZ hE => ?_)
  subst hX
  have hS0 : St T cn K N d wi_X10_refused wr_X10_refused I0 R0 I0 R0 := St.rf0 hW0
  refine tr_aload_n dX10_refused_0 rfl ?_
  refine tr_iload_n dX10_refused_1 rfl ?_
  refine q_putI dX10_refused_2 fl10_112 (kR1 hS0.1 ta0) (Or.inl rfl) hS0 ta0 (iokF rfl) rfl (by decide +kernel) ?_
  intro I1 hS2 e3 f4
  refine q_iconst dX10_refused_5 (by decide) ?_
  intro v5 h6
  exact tr_iret hZ dX10_refused_6 rfl (by decide) (by decide) ⟨v5, rfl, rfl, rfl, rfl, rfl, rfl, hS2, trivial⟩
set_option maxHeartbeats 4000000 in
theorem k_X10_bit {l : Launch} {T : Nat → Nat} {cn : Nat} {K N : Nat → Nat} {I0 : cz_I} {R0 : cz_R} {L0 : cz_L} {d : Int} (hW0 : Wf T cn K N I0 R0 d) {x0 : Int32} {x1 : Int32} : ConE l mX10_bit [.int x0, .int x1] cn K N I0 R0 L0 (ca_i (fun v cn' K' N' I' R' L' => cn = cn' ∧ K = K' ∧ N = N' ∧ I0 = I' ∧ R0 = R' ∧ L0 = L' ∧ True)) := by
  refine ConE.of (by decide +kernel) rfl (Nat.le_of_ble_eq_true rfl) rfl (fun X hX hZ hE => ?_)
  subst hX
  refine tr_iload_n dX10_bit_0 rfl ?_
  refine tr_iload_n dX10_bit_1 rfl ?_
  refine q_iushr dX10_bit_2 ?_
  intro v1
  refine q_iconst dX10_bit_3 (by decide) ?_
  intro v2 h3
  refine q_iand dX10_bit_4 ?_
  intro v4
  exact tr_iret hZ dX10_bit_5 rfl (by decide) (by decide) ⟨v4, rfl, rfl, rfl, rfl, rfl, rfl, rfl, trivial⟩
