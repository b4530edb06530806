set_option maxHeartbeats 1000000 in
theorem f_X10_bitX {l : Launch} {cn : Nat} {K N : Nat → Nat} {I0 : cz_I} {R0 : cz_R} {L0 : cz_L} {x0 x1 : Int32} (h0 : 0 ≤ x0.toInt ∧ x0.toInt ≤ 255) (h1 : 0 ≤ x1.toInt ∧ x1.toInt ≤ 7) : ConE l mX10_bit [.int x0, .int x1] cn K N I0 R0 L0 (ca_i (fun v cn' K' N' I' R' L' => cn = cn' ∧ K = K' ∧ N = N' ∧ I0 = I' ∧ R0 = R' ∧ L0 = L' ∧ (v.toInt = (bt x0.toInt x1.toInt)) ∧ True)) := by
  refine ConE.of (by decide +kernel) rfl (Nat.le_of_ble_eq_true rfl) rfl (fun X hX hZ hE => ?_)
  subst hX
  refine tr_iload_n dX10_bit_0 rfl ?_
  refine tr_iload_n dX10_bit_1 rfl ?_
  refine tr_iushr dX10_bit_2 ?_
  refine tr_iconst (v := 1) dX10_bit_3 rfl ?_
  refine tr_iand dX10_bit_4 ?_
  refine tr_iret hZ dX10_bit_5 rfl (by decide) (by decide) ⟨_, rfl, rfl, rfl, rfl, rfl, rfl, rfl, ?_, trivial⟩
  obtain ⟨a, ha, rfl, ea⟩ := i32_nat (n := 256) h0.1 (by omega) (by omega)
  obtain ⟨b, hb2, rfl, eb⟩ := i32_nat (n := 8) h1.1 (by omega) (by omega)
  rw [ea, eb]
  exact bt_X a ha b hb2

