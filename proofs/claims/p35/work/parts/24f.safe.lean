set_option maxHeartbeats 4000000 in
theorem k_X10_trouble {l : Launch} {T : Nat → Nat} {cn : Nat} {K N : Nat → Nat} {I0 : cz_I} {R0 : cz_R} {L0 : cz_L} {d : Int} (hW0 : Wf T cn K N I0 R0 d) {a0 : Nat} (ta0 : T a0 = 1) : ConE l mX10_trouble [.ref a0] cn K N I0 R0 L0 (ca_i (fun v cn' K' N' I' R' L' => cn = cn' ∧ K = K' ∧ N = N' ∧ I0 = I' ∧ R0 = R' ∧ L0 = L' ∧ True)) := by
  refine ConE.of (by decide +kernel) rfl (Nat.le_of_ble_eq_true rfl) rfl (fun X hX hZ hE => ?_)
  subst hX
  refine tr_aload_n dX10_trouble_0 rfl ?_
  obtain ⟨v1, c2⟩ : ∃ v, I0 a0 17 = v := ⟨_, rfl⟩
  refine q_getI dX10_trouble_1 fl10_112 (kR1 hW0 ta0) c2 ?_
  exact tr_iret hZ dX10_trouble_4 rfl (by decide) (by decide) ⟨v1, rfl, rfl, rfl, rfl, rfl, rfl, rfl, trivial⟩
