def wi_X12_fault : List Nat := [960]
def wr_X12_fault : List Nat := []
set_option maxHeartbeats 4000000 in
theorem k_X12_fault {l : Launch} {T : Nat → Nat} {cn : Nat} {K N : Nat → Nat} {I0 : cz_I} {R0 : cz_R} {L0 : cz_L} {d : Int} (hW0 : Wf T cn K N I0 R0 d) {a0 : Nat} (ta0 : T a0 = 15) : ConE l mX12_fault [.ref a0] cn K N I0 R0 L0 (ca_i (fun v cn' K' N' I' R' L' => cn = cn' ∧ K = K' ∧ N = N' ∧ R0 = R' ∧ L0 = L' ∧ St T cn K N d wi_X12_fault wr_X12_fault I0 R0 I' R0 ∧ (v.toInt = (I0 a0 13).toInt) ∧ True)) := by
  refine ConE.of (by decide +kernel) rfl (Nat.le_of_ble_eq_true rfl) rfl (fun X hX hZ hE => ?_)
  subst hX
  have hS0 : St T cn K N d wi_X12_fault wr_X12_fault I0 R0 I0 R0 := St.rf0 hW0
  obtain ⟨v1, c2⟩ : ∃ v, I0 a0 13 = v := ⟨_, rfl⟩
  refine tr_aload_n dX12_fault_0 rfl ?_
  refine q_iconst dX12_fault_1 (by decide) ?_
  intro v3 h4
  refine q_putI dX12_fault_2 fl12_70 (kR15 hS0.1 ta0) (Or.inl rfl) hS0 ta0 (iokF rfl) rfl (by decide +kernel) ?_
  intro I5 hS6 e7 f8
  refine tr_aload_n dX12_fault_5 rfl ?_
  refine q_getI dX12_fault_6 fl12_128 (kR15 hS6.1 ta0) ((hS6.cell ta0 (by decide +kernel)).trans c2) ?_
  exact tr_iret hZ dX12_fault_9 rfl (by decide) (by decide) ⟨v1, rfl, rfl, rfl, rfl, rfl, rfl, hS6, (by (try rw [c2]); (try omega)), trivial⟩
def wi_X12_where : List Nat := [960]
def wr_X12_where : List Nat := []
set_option maxHeartbeats 4000000 in
theorem k_X12_where {l : Launch} {T : Nat → Nat} {cn : Nat} {K N : Nat → Nat} {I0 : cz_I} {R0 : cz_R} {L0 : cz_L} {d : Int} (hW0 : Wf T cn K N I0 R0 d) {a0 : Nat} (ta0 : T a0 = 15) : ConE l mX12_where [.ref a0] cn K N I0 R0 L0 (ca_i (fun v cn' K' N' I' R' L' => cn = cn' ∧ K = K' ∧ N = N' ∧ R0 = R' ∧ L0 = L' ∧ St T cn K N d wi_X12_where wr_X12_where I0 R0 I' R0 ∧ True)) := by
  refine ConE.of (by decide +kernel) rfl (Nat.le_of_ble_eq_true rfl) rfl (fun X hX hZ hE => ?_)
  subst hX
  have hS0 : St T cn K N d wi_X12_where wr_X12_where I0 R0 I0 R0 := St.rf0 hW0
  refine tr_aload_n dX12_where_0 rfl ?_
  refine q_iconst dX12_where_1 (by decide) ?_
  intro v1 h2
  refine q_putI dX12_where_2 fl12_70 (kR15 hS0.1 ta0) (Or.inl rfl) hS0 ta0 (iokF rfl) rfl (by decide +kernel) ?_
  intro I3 hS4 e5 f6
  refine tr_aload_n dX12_where_5 rfl ?_
  obtain ⟨v7, c8⟩ : ∃ v, I0 a0 2 = v := ⟨_, rfl⟩
  refine q_getI dX12_where_6 fl12_9 (kR15 hS4.1 ta0) ((hS4.cell ta0 (by decide +kernel)).trans c8) ?_
  exact tr_iret hZ dX12_where_9 rfl (by decide) (by decide) ⟨v7, rfl, rfl, rfl, rfl, rfl, rfl, hS4, trivial⟩
def wi_X12_refused : List Nat := [961, 962]
def wr_X12_refused : List Nat := []
set_option maxHeartbeats 4000000 in
theorem k_X12_refused {l : Launch} {T : Nat → Nat} {cn : Nat} {K N : Nat → Nat} {I0 : cz_I} {R0 : cz_R} {L0 : cz_L} {d : Int} (hW0 : Wf T cn K N I0 R0 d) {a0 : Nat} (ta0 : T a0 = 15) {x1 : Int32} : ConE l mX12_refused [.ref a0, .int x1] cn K N I0 R0 L0 (ca_i (fun v cn' K' N' I' R' L' => cn = cn' ∧ K = K' ∧ N = N' ∧ R0 = R' ∧ L0 = L' ∧ St T cn K N d wi_X12_refused wr_X12_refused I0 R0 I' R0 ∧ True)) := by
  refine ConE.of (by decide +kernel) rfl (Nat.le_of_ble_eq_true rfl) rfl (fun X hX hZ hE => ?_)
  subst hX
  have hS0 : St T cn K N d wi_X12_refused wr_X12_refused I0 R0 I0 R0 := St.rf0 hW0
  refine tr_aload_n dX12_refused_0 rfl ?_
  refine tr_iload_n dX12_refused_1 rfl ?_
  refine q_putI dX12_refused_2 fl12_73 (kR15 hS0.1 ta0) (Or.inl rfl) hS0 ta0 (iokF rfl) rfl (by decide +kernel) ?_
  intro I1 hS2 e3 f4
  refine tr_aload_n dX12_refused_5 rfl ?_
  refine q_iconst dX12_refused_6 (by decide) ?_
  intro v5 h6
  refine q_putI dX12_refused_7 fl12_9 (kR15 hS2.1 ta0) (Or.inl rfl) hS2 ta0 (iokF rfl) rfl (by decide +kernel) ?_
  intro I7 hS8 e9 f10
  have c11 : I7 a0 1 = x1 := (f10 _ _ (fun q => absurd q.2 (by decide))).trans e3
  refine q_iconst dX12_refused_10 (by decide) ?_
  intro v12 h13
  exact tr_iret hZ dX12_refused_11 rfl (by decide) (by decide) ⟨v12, rfl, rfl, rfl, rfl, rfl, rfl, hS8, trivial⟩
set_option maxHeartbeats 4000000 in
theorem k_X12_in {l : Launch} {T : Nat → Nat} {cn : Nat} {K N : Nat → Nat} {I0 : cz_I} {R0 : cz_R} {L0 : cz_L} {d : Int} (hW0 : Wf T cn K N I0 R0 d) {x0 : Int32} {x1 : Int32} {x2 : Int32} : ConE l mX12_in [.int x0, .int x1, .int x2] cn K N I0 R0 L0 (ca_i (fun v cn' K' N' I' R' L' => cn = cn' ∧ K = K' ∧ N = N' ∧ I0 = I' ∧ R0 = R' ∧ L0 = L' ∧ (0 ≤ v.toInt ∧ v.toInt ≤ 1) ∧ ((v.toInt = 1 → (x1.toInt ≤ x0.toInt ∧ x0.toInt ≤ x2.toInt))) ∧ ((v.toInt = 0 → (x0.toInt < x1.toInt ∨ x0.toInt > x2.toInt))) ∧ True)) := by
  refine ConE.of (by decide +kernel) rfl (Nat.le_of_ble_eq_true rfl) rfl (fun X hX hZ hE => ?_)
  subst hX
  refine tr_iload_n dX12_in_0 rfl ?_
  refine tr_iload_n dX12_in_1 rfl ?_
  refine q_icmp_lt 14 dX12_in_2 (by decide) (fun h1 => ?_) (fun h1 => ?_)
  · skip
    refine q_iconst dX12_in_14 (by decide) ?_
    intro v2 h3
    exact tr_zret hZ dX12_in_15 rfl (ti_b01 (by exact om_d99fa9e4 h3) (by exact om_d3de7ec9 h3)) (by decide) (by decide) ⟨v2, rfl, rfl, rfl, rfl, rfl, rfl, rfl, (by exact om_3b50ecb9 h3), (by exact om_26789b10 h3), (by exact om_55dd2421 h1), trivial⟩
  · skip
    refine tr_iload_n dX12_in_5 rfl ?_
    refine tr_iload_n dX12_in_6 rfl ?_
    refine q_icmp_gt 14 dX12_in_7 (by decide) (fun h4 => ?_) (fun h4 => ?_)
    · skip
      refine q_iconst dX12_in_14 (by decide) ?_
      intro v5 h6
      exact tr_zret hZ dX12_in_15 rfl (ti_b01 (by exact om_d99fa9e4 h6) (by exact om_d3de7ec9 h6)) (by decide) (by decide) ⟨v5, rfl, rfl, rfl, rfl, rfl, rfl, rfl, (by exact om_3b50ecb9 h6), (by exact om_26789b10 h6), (by exact om_766b0d12 h4), trivial⟩
    · skip
      refine q_iconst dX12_in_10 (by decide) ?_
      intro v7 h8
      refine tr_goto 15 dX12_in_11 (by decide) ?_
      exact tr_zret hZ dX12_in_15 rfl (ti_b01 (by exact om_f9079521 h8) (by exact om_e6632817 h8)) (by decide) (by decide) ⟨v7, rfl, rfl, rfl, rfl, rfl, rfl, rfl, (by exact om_d753bc65 h8), (by exact om_4a29b144 h1 h4), (by exact om_9632c998 h8), trivial⟩
set_option maxHeartbeats 4000000 in
theorem k_X12_isMinute {l : Launch} {T : Nat → Nat} {cn : Nat} {K N : Nat → Nat} {I0 : cz_I} {R0 : cz_R} {L0 : cz_L} {d : Int} (hW0 : Wf T cn K N I0 R0 d) {a0 : Nat} (ta0 : T a0 = 15) {x1 : Int32} (nn3 : ∃ b, R0 a0 3 = some b) : ConE l mX12_isMinute [.ref a0, .int x1] cn K N I0 R0 L0 (ca_i (fun v cn' K' N' I' R' L' => cn = cn' ∧ K = K' ∧ N = N' ∧ I0 = I' ∧ R0 = R' ∧ L0 = L' ∧ (0 ≤ v.toInt ∧ v.toInt ≤ 1) ∧ ((v.toInt = 1 → (0 ≤ x1.toInt ∧ x1.toInt ≤ 239))) ∧ True)) := by
  refine ConE.of (by decide +kernel) rfl (Nat.le_of_ble_eq_true rfl) rfl (fun X hX hZ hE => ?_)
  subst hX
  obtain ⟨a1, d2⟩ := nn3
  have ta1 : T a1 = 14 := hW0.rsN ta0 rfl d2
  refine tr_iload_n dX12_isMinute_0 rfl ?_
  refine q_iconst dX12_isMinute_1 (by decide) ?_
  intro v3 h4
  refine tr_aload_n dX12_isMinute_2 rfl ?_
  refine tr_getR dX12_isMinute_3 fl12_385 (kR15 hW0 ta0) d2 ?_
  obtain ⟨v5, c6⟩ : ∃ v, I0 a1 0 = v := ⟨_, rfl⟩
  have b7 := hW0.2.2.2.2.2.1 a0 ta0 _ d2
  rw [c6] at b7
  have b8 := iv14_0 hW0 ta1 c6
  refine q_getI dX12_isMinute_6 fl12_192 (kR14 hW0 ta1) c6 ?_
  refine q_iconst dX12_isMinute_9 (by decide) ?_
  intro v9 h10
  refine q_isubE dX12_isMinute_10 (by intro j1 j2 j3 j4; exact om_06ec423d b7 b8.2 h10) ?_
  intro v11 h12
  refine q_callSi hE (M' := mX12_in) (as := [_, _, _]) dX12_isMinute_11 lk12_149 inX12_in myX12_in ⟨by decide, by decide⟩ rfl (Nat.le_of_ble_eq_true rfl) rfl rfl (by decide) (by decide) (k_X12_in hW0 ) ?_
  rintro v17 cn' K' N' I13 R14 L15 ⟨rfl, rfl, rfl, rfl, rfl, rfl, h18, p19, p20, -⟩
  exact tr_zret hZ dX12_isMinute_14 rfl (ti_b01 (by exact om_ef03f1ae h18.2 h18.1) (by exact om_51ab244e h18.2 h18.1)) (by decide) (by decide) ⟨v17, rfl, rfl, rfl, rfl, rfl, rfl, rfl, (by exact om_be53a44c h18), (by exact om_f11ac53c h4 b7 b8.2 h10 h12 p19 p20), trivial⟩
set_option maxHeartbeats 4000000 in
theorem k_X12_events {l : Launch} {T : Nat → Nat} {cn : Nat} {K N : Nat → Nat} {I0 : cz_I} {R0 : cz_R} {L0 : cz_L} {d : Int} (hW0 : Wf T cn K N I0 R0 d) {a0 : Nat} (ta0 : T a0 = 15) (nn3 : ∃ b, R0 a0 3 = some b) : ConE l mX12_events [.ref a0] cn K N I0 R0 L0 (ca_i (fun v cn' K' N' I' R' L' => cn = cn' ∧ K = K' ∧ N = N' ∧ I0 = I' ∧ R0 = R' ∧ L0 = L' ∧ (0 ≤ v.toInt ∧ v.toInt ≤ 20) ∧ (∀ b1, R0 a0 3 = some b1 → ∀ b2, R0 a0 16 = some b2 → v.toInt = (I0 b1 2).toInt + (I0 b2 1).toInt) ∧ True)) := by
  refine ConE.of (by decide +kernel) rfl (Nat.le_of_ble_eq_true rfl) rfl (fun X hX hZ hE => ?_)
  subst hX
  obtain ⟨a1, d2⟩ := nn3
  have ta1 : T a1 = 14 := hW0.rsN ta0 rfl d2
  obtain ⟨v3, c4⟩ : ∃ v, I0 a1 2 = v := ⟨_, rfl⟩
  have b5 := iv14_2 hW0 ta1 c4
  obtain ⟨a6, d7, ta6⟩ := rf15_16 hW0 ta0
  obtain ⟨v8, c9⟩ : ∃ v, I0 a6 1 = v := ⟨_, rfl⟩
  have b10 := iv77_1 hW0 ta6 (by decide) c9
  refine tr_aload_n dX12_events_0 rfl ?_
  refine tr_getR dX12_events_1 fl12_385 (kR15 hW0 ta0) d2 ?_
  refine q_getI dX12_events_4 fl12_265 (kR14 hW0 ta1) c4 ?_
  refine tr_aload_n dX12_events_7 rfl ?_
  refine tr_getR dX12_events_8 fl12_17 (kR15 hW0 ta0) d7 ?_
  refine q_iconst dX12_events_11 (by decide) ?_
  intro v11 h12
  refine q_iald dX12_events_12 (kR77 hW0 ta6) (ti_in (nR77 hW0 ta6) (by exact om_f9079521 h12) (by exact om_73248752 h12)) ?_
  intro v13 c14
  rw [show v11.toNatClampNeg = 1 from ti_cl (by exact om_21c44602 h12)] at c14
  obtain rfl : v8 = v13 := (c9).symm.trans c14
  refine q_iaddE dX12_events_13 (by intro j1 j2 j3 j4; exact om_61695197 b5.2 b5.1 b10.2 b10.1) ?_
  intro v15 h16
  exact tr_iret hZ dX12_events_14 rfl (by decide) (by decide) ⟨v15, rfl, rfl, rfl, rfl, rfl, rfl, rfl, (by exact om_612d4658 b5.2 b5.1 b10.2 b10.1 h16), (fun q0 z0 => fun q1 z1 => by obtain rfl := Option.some.inj ((d2).symm.trans z0); obtain rfl := Option.some.inj ((d7).symm.trans z1); (try rw [c4]); (try rw [c9]); (try exact om_82f20683 h16)), trivial⟩
set_option maxHeartbeats 4000000 in
theorem k_X12_fromOf {l : Launch} {T : Nat → Nat} {cn : Nat} {K N : Nat → Nat} {I0 : cz_I} {R0 : cz_R} {L0 : cz_L} {d : Int} (hW0 : Wf T cn K N I0 R0 d) {a0 : Nat} (ta0 : T a0 = 15) {x1 : Int32} (pre0 : 0 ≤ x1.toInt) (pre1 : ∀ b1, R0 a0 3 = some b1 → ∀ b2, R0 a0 16 = some b2 → x1.toInt < (I0 b1 2).toInt + (I0 b2 1).toInt) (nn3 : ∃ b, R0 a0 3 = some b) : ConE l mX12_fromOf [.ref a0, .int x1] cn K N I0 R0 L0 (ca_i (fun v cn' K' N' I' R' L' => cn = cn' ∧ K = K' ∧ N = N' ∧ I0 = I' ∧ R0 = R' ∧ L0 = L' ∧ (0 ≤ v.toInt ∧ v.toInt ≤ 240) ∧ True)) := by
  refine ConE.of (by decide +kernel) rfl (Nat.le_of_ble_eq_true rfl) rfl (fun X hX hZ hE => ?_)
  subst hX
  obtain ⟨a1, d2⟩ := nn3
  have ta1 : T a1 = 14 := hW0.rsN ta0 rfl d2
  have p3 := pre0
  obtain ⟨v4, c5⟩ : ∃ v, I0 a1 2 = v := ⟨_, rfl⟩
  have b6 := iv14_2 hW0 ta1 c5
  obtain ⟨a7, d8, ta7⟩ := rf15_16 hW0 ta0
  obtain ⟨v9, c10⟩ : ∃ v, I0 a7 1 = v := ⟨_, rfl⟩
  have b11 := iv77_1 hW0 ta7 (by decide) c10
  have p12 := pre1 _ d2 _ d8
  rw [c5] at p12
  rw [c10] at p12
  refine tr_iload_n dX12_fromOf_0 rfl ?_
  refine tr_aload_n dX12_fromOf_1 rfl ?_
  refine tr_getR dX12_fromOf_2 fl12_385 (kR15 hW0 ta0) d2 ?_
  refine q_getI dX12_fromOf_5 fl12_265 (kR14 hW0 ta1) c5 ?_
  refine q_icmp_ge 23 dX12_fromOf_8 (by decide) (fun h13 => ?_) (fun h13 => ?_)
  · skip
    refine tr_aload_n dX12_fromOf_23 rfl ?_
    refine tr_getR dX12_fromOf_24 fl12_17 (kR15 hW0 ta0) d8 ?_
    refine q_iconst dX12_fromOf_27 (by decide) ?_
    intro v14 h15
    refine tr_iload_n dX12_fromOf_28 rfl ?_
    refine q_iaddE dX12_fromOf_29 (by intro j1 j2 j3 j4; exact om_545e35ea b6.2 b6.1 b11.2 b11.1 p12 h13 h15) ?_
    intro v16 h17
    refine tr_aload_n dX12_fromOf_30 rfl ?_
    refine tr_getR dX12_fromOf_31 fl12_385 (kR15 hW0 ta0) d2 ?_
    refine q_getI dX12_fromOf_34 fl12_265 (kR14 hW0 ta1) c5 ?_
    refine q_isubE dX12_fromOf_37 (by intro j1 j2 j3 j4; exact om_9ec2ba6c b11.2 b11.1 p12 h13 h15 h17) ?_
    intro v18 h19
    refine q_iald dX12_fromOf_38 (kR77 hW0 ta7) (ti_in (nR77 hW0 ta7) (by exact om_e35542c5 h13 h15 h17 h19) (by exact om_cbd5af19 b11.2 b11.1 p12 h15 h17 h19)) ?_
    intro v20 c21
    have b22 := iv77_3 hW0 ta7 (by have q := ti_nat (i := v18) (by exact om_e35542c5 h13 h15 h17 h19); exact om_7a8b6c9c b11.2 b11.1 p12 h13 h15 h17 h19 q) c21
    exact tr_iret hZ dX12_fromOf_39 rfl (by decide) (by decide) ⟨v20, rfl, rfl, rfl, rfl, rfl, rfl, rfl, (by exact om_d956ef70 b22), trivial⟩
  · skip
    refine tr_aload_n dX12_fromOf_11 rfl ?_
    refine tr_getR dX12_fromOf_12 fl12_385 (kR15 hW0 ta0) d2 ?_
    obtain ⟨a23, d24, ta23⟩ := rf14_13 hW0 ta1
    refine tr_getR dX12_fromOf_15 fl12_280 (kR14 hW0 ta1) d24 ?_
    refine tr_iload_n dX12_fromOf_18 rfl ?_
    refine q_iald dX12_fromOf_19 (kR56 hW0 ta23) (ti_in (nR56 hW0 ta23) (by exact om_2cfcd5a5 p3) (by exact om_d7ac722a b6.2 b6.1 h13)) ?_
    intro v25 c26
    have b27 := iv56 hW0 ta23 c26
    refine tr_goto 39 dX12_fromOf_20 (by decide) ?_
    exact tr_iret hZ dX12_fromOf_39 rfl (by decide) (by decide) ⟨v25, rfl, rfl, rfl, rfl, rfl, rfl, rfl, (by exact om_d956ef70 b27), trivial⟩
set_option maxHeartbeats 4000000 in
theorem k_X12_toOf {l : Launch} {T : Nat → Nat} {cn : Nat} {K N : Nat → Nat} {I0 : cz_I} {R0 : cz_R} {L0 : cz_L} {d : Int} (hW0 : Wf T cn K N I0 R0 d) {a0 : Nat} (ta0 : T a0 = 15) {x1 : Int32} (pre0 : 0 ≤ x1.toInt) (pre1 : ∀ b1, R0 a0 3 = some b1 → ∀ b2, R0 a0 16 = some b2 → x1.toInt < (I0 b1 2).toInt + (I0 b2 1).toInt) (nn3 : ∃ b, R0 a0 3 = some b) : ConE l mX12_toOf [.ref a0, .int x1] cn K N I0 R0 L0 (ca_i (fun v cn' K' N' I' R' L' => cn = cn' ∧ K = K' ∧ N = N' ∧ I0 = I' ∧ R0 = R' ∧ L0 = L' ∧ (0 ≤ v.toInt ∧ v.toInt ≤ 240) ∧ True)) := by
  refine ConE.of (by decide +kernel) rfl (Nat.le_of_ble_eq_true rfl) rfl (fun X hX hZ hE => ?_)
  subst hX
  obtain ⟨a1, d2⟩ := nn3
  have ta1 : T a1 = 14 := hW0.rsN ta0 rfl d2
  have p3 := pre0
  obtain ⟨v4, c5⟩ : ∃ v, I0 a1 2 = v := ⟨_, rfl⟩
  have b6 := iv14_2 hW0 ta1 c5
  obtain ⟨a7, d8, ta7⟩ := rf15_16 hW0 ta0
  obtain ⟨v9, c10⟩ : ∃ v, I0 a7 1 = v := ⟨_, rfl⟩
  have b11 := iv77_1 hW0 ta7 (by decide) c10
  have p12 := pre1 _ d2 _ d8
  rw [c5] at p12
  rw [c10] at p12
  refine tr_iload_n dX12_toOf_0 rfl ?_
  refine tr_aload_n dX12_toOf_1 rfl ?_
  refine tr_getR dX12_toOf_2 fl12_385 (kR15 hW0 ta0) d2 ?_
  refine q_getI dX12_toOf_5 fl12_265 (kR14 hW0 ta1) c5 ?_
  refine q_icmp_ge 23 dX12_toOf_8 (by decide) (fun h13 => ?_) (fun h13 => ?_)
  · skip
    refine tr_aload_n dX12_toOf_23 rfl ?_
    refine tr_getR dX12_toOf_24 fl12_17 (kR15 hW0 ta0) d8 ?_
    refine q_bipush dX12_toOf_27 (by decide +kernel) ?_
    intro v14 h15
    refine tr_iload_n dX12_toOf_29 rfl ?_
    refine q_iaddE dX12_toOf_30 (by intro j1 j2 j3 j4; exact om_670ca3b2 b6.2 b6.1 b11.2 b11.1 p12 h13 h15) ?_
    intro v16 h17
    refine tr_aload_n dX12_toOf_31 rfl ?_
    refine tr_getR dX12_toOf_32 fl12_385 (kR15 hW0 ta0) d2 ?_
    refine q_getI dX12_toOf_35 fl12_265 (kR14 hW0 ta1) c5 ?_
    refine q_isubE dX12_toOf_38 (by intro j1 j2 j3 j4; exact om_1b44e7d5 b11.2 b11.1 p12 h13 h15 h17) ?_
    intro v18 h19
    refine q_iald dX12_toOf_39 (kR77 hW0 ta7) (ti_in (nR77 hW0 ta7) (by exact om_4955a916 h13 h15 h17 h19) (by exact om_a267275f b11.2 b11.1 p12 h15 h17 h19)) ?_
    intro v20 c21
    have b22 := iv77_3 hW0 ta7 (by have q := ti_nat (i := v18) (by exact om_4955a916 h13 h15 h17 h19); exact om_5b5d2f9e b11.2 b11.1 p12 h13 h15 h17 h19 q) c21
    exact tr_iret hZ dX12_toOf_40 rfl (by decide) (by decide) ⟨v20, rfl, rfl, rfl, rfl, rfl, rfl, rfl, (by exact om_d956ef70 b22), trivial⟩
  · skip
    refine tr_aload_n dX12_toOf_11 rfl ?_
    refine tr_getR dX12_toOf_12 fl12_385 (kR15 hW0 ta0) d2 ?_
    obtain ⟨a23, d24, ta23⟩ := rf14_14 hW0 ta1
    refine tr_getR dX12_toOf_15 fl12_283 (kR14 hW0 ta1) d24 ?_
    refine tr_iload_n dX12_toOf_18 rfl ?_
    refine q_iald dX12_toOf_19 (kR57 hW0 ta23) (ti_in (nR57 hW0 ta23) (by exact om_2cfcd5a5 p3) (by exact om_d7ac722a b6.2 b6.1 h13)) ?_
    intro v25 c26
    have b27 := iv57 hW0 ta23 c26
    refine tr_goto 40 dX12_toOf_20 (by decide) ?_
    exact tr_iret hZ dX12_toOf_40 rfl (by decide) (by decide) ⟨v25, rfl, rfl, rfl, rfl, rfl, rfl, rfl, (by exact om_d956ef70 b27), trivial⟩
set_option maxHeartbeats 4000000 in
theorem k_X12_kindOf {l : Launch} {T : Nat → Nat} {cn : Nat} {K N : Nat → Nat} {I0 : cz_I} {R0 : cz_R} {L0 : cz_L} {d : Int} (hW0 : Wf T cn K N I0 R0 d) {a0 : Nat} (ta0 : T a0 = 15) {x1 : Int32} (pre0 : 0 ≤ x1.toInt) (nn3 : ∃ b, R0 a0 3 = some b) : ConE l mX12_kindOf [.ref a0, .int x1] cn K N I0 R0 L0 (ca_i (fun v cn' K' N' I' R' L' => cn = cn' ∧ K = K' ∧ N = N' ∧ I0 = I' ∧ R0 = R' ∧ L0 = L' ∧ v = m_kd I0 R0 a0 x1 ∧ True)) := by
  refine ConE.of (by decide +kernel) rfl (Nat.le_of_ble_eq_true rfl) rfl (fun X hX hZ hE => ?_)
  subst hX
  obtain ⟨a1, d2⟩ := nn3
  have ta1 : T a1 = 14 := hW0.rsN ta0 rfl d2
  have p3 := pre0
  refine tr_iload_n dX12_kindOf_0 rfl ?_
  refine tr_aload_n dX12_kindOf_1 rfl ?_
  refine tr_getR dX12_kindOf_2 fl12_385 (kR15 hW0 ta0) d2 ?_
  obtain ⟨v4, c5⟩ : ∃ v, I0 a1 2 = v := ⟨_, rfl⟩
  have b6 := iv14_2 hW0 ta1 c5
  refine q_getI dX12_kindOf_5 fl12_265 (kR14 hW0 ta1) c5 ?_
  refine q_icmp_ge 23 dX12_kindOf_8 (by decide) (fun h7 => ?_) (fun h7 => ?_)
  · skip
    refine q_iconst dX12_kindOf_23 (by decide) ?_
    intro v8 h9
    exact tr_iret hZ dX12_kindOf_24 rfl (by decide) (by decide) ⟨v8, rfl, rfl, rfl, rfl, rfl, rfl, rfl, (by rw [m_kd, rg_s d2, c5, if_neg (by exact om_6569d783 h7)]; exact Int32.toInt_inj.mp (show v8.toInt = (0 : Int32).toInt from h9.trans rfl)), trivial⟩
  · skip
    refine tr_aload_n dX12_kindOf_11 rfl ?_
    refine tr_getR dX12_kindOf_12 fl12_385 (kR15 hW0 ta0) d2 ?_
    obtain ⟨a10, d11, ta10⟩ := rf14_11 hW0 ta1
    refine tr_getR dX12_kindOf_15 fl12_274 (kR14 hW0 ta1) d11 ?_
    refine tr_iload_n dX12_kindOf_18 rfl ?_
    refine q_iald dX12_kindOf_19 (kR54 hW0 ta10) (ti_in (nR54 hW0 ta10) (by exact om_2cfcd5a5 p3) (by exact om_d7ac722a b6.2 b6.1 h7)) ?_
    intro v12 c13
    refine tr_goto 24 dX12_kindOf_20 (by decide) ?_
    exact tr_iret hZ dX12_kindOf_24 rfl (by decide) (by decide) ⟨v12, rfl, rfl, rfl, rfl, rfl, rfl, rfl, (by rw [m_kd, rg_s d2, c5, if_pos (by exact om_b6fabb1f h7), rg_s d11]; exact (c13).symm), trivial⟩
set_option maxHeartbeats 4000000 in
theorem k_X12_hutOf {l : Launch} {T : Nat → Nat} {cn : Nat} {K N : Nat → Nat} {I0 : cz_I} {R0 : cz_R} {L0 : cz_L} {d : Int} (hW0 : Wf T cn K N I0 R0 d) {a0 : Nat} (ta0 : T a0 = 15) {x1 : Int32} (pre0 : 0 ≤ x1.toInt) (nn3 : ∃ b, R0 a0 3 = some b) : ConE l mX12_hutOf [.ref a0, .int x1] cn K N I0 R0 L0 (ca_i (fun v cn' K' N' I' R' L' => cn = cn' ∧ K = K' ∧ N = N' ∧ I0 = I' ∧ R0 = R' ∧ L0 = L' ∧ ((-2) ≤ v.toInt ∧ v.toInt ≤ 3) ∧ v = m_hu I0 R0 a0 x1 ∧ True)) := by
  refine ConE.of (by decide +kernel) rfl (Nat.le_of_ble_eq_true rfl) rfl (fun X hX hZ hE => ?_)
  subst hX
  obtain ⟨a1, d2⟩ := nn3
  have ta1 : T a1 = 14 := hW0.rsN ta0 rfl d2
  have p3 := pre0
  refine tr_iload_n dX12_hutOf_0 rfl ?_
  refine tr_aload_n dX12_hutOf_1 rfl ?_
  refine tr_getR dX12_hutOf_2 fl12_385 (kR15 hW0 ta0) d2 ?_
  obtain ⟨v4, c5⟩ : ∃ v, I0 a1 2 = v := ⟨_, rfl⟩
  have b6 := iv14_2 hW0 ta1 c5
  refine q_getI dX12_hutOf_5 fl12_265 (kR14 hW0 ta1) c5 ?_
  refine q_icmp_ge 23 dX12_hutOf_8 (by decide) (fun h7 => ?_) (fun h7 => ?_)
  · skip
    refine q_bipush dX12_hutOf_23 (by decide +kernel) ?_
    intro v8 h9
    exact tr_iret hZ dX12_hutOf_25 rfl (by decide) (by decide) ⟨v8, rfl, rfl, rfl, rfl, rfl, rfl, rfl, (by exact om_9bdeced0 h9), (by rw [m_hu, rg_s d2, c5, if_neg (by exact om_6569d783 h7)]; exact Int32.toInt_inj.mp (show v8.toInt = (-2 : Int32).toInt from h9.trans rfl)), trivial⟩
  · skip
    refine tr_aload_n dX12_hutOf_11 rfl ?_
    refine tr_getR dX12_hutOf_12 fl12_385 (kR15 hW0 ta0) d2 ?_
    obtain ⟨a10, d11, ta10⟩ := rf14_12 hW0 ta1
    refine tr_getR dX12_hutOf_15 fl12_277 (kR14 hW0 ta1) d11 ?_
    refine tr_iload_n dX12_hutOf_18 rfl ?_
    refine q_iald dX12_hutOf_19 (kR55 hW0 ta10) (ti_in (nR55 hW0 ta10) (by exact om_2cfcd5a5 p3) (by exact om_d7ac722a b6.2 b6.1 h7)) ?_
    intro v12 c13
    have b14 := iv55 hW0 ta10 c13
    refine tr_goto 25 dX12_hutOf_20 (by decide) ?_
    exact tr_iret hZ dX12_hutOf_25 rfl (by decide) (by decide) ⟨v12, rfl, rfl, rfl, rfl, rfl, rfl, rfl, (by exact om_be83400a b14), (by rw [m_hu, rg_s d2, c5, if_pos (by exact om_b6fabb1f h7), rg_s d11]; exact (c13).symm), trivial⟩
def wi_X12_marksLight : List Nat := [5247, 5375, 5439, 5503, 5567]
def wr_X12_marksLight : List Nat := []
set_option maxHeartbeats 4000000 in
theorem k_X12_marksLight {l : Launch} {T : Nat → Nat} {cn : Nat} {K N : Nat → Nat} {I0 : cz_I} {R0 : cz_R} {L0 : cz_L} {d : Int} (hW0 : Wf T cn K N I0 R0 d) {a0 : Nat} (ta0 : T a0 = 15) {x1 : Int32} {x2 : Int32} (hx2 : 0 ≤ x2.toInt ∧ x2.toInt ≤ 239) (pre0 : 0 ≤ x1.toInt) (nn3 : ∃ b, R0 a0 3 = some b) : ConE l mX12_marksLight [.ref a0, .int x1, .int x2] cn K N I0 R0 L0 (ca_v (fun cn' K' N' I' R' L' => cn = cn' ∧ K = K' ∧ N = N' ∧ R0 = R' ∧ L0 = L' ∧ St T cn K N d wi_X12_marksLight wr_X12_marksLight I0 R0 I' R0 ∧ True)) := by
  refine ConE.of (by decide +kernel) rfl (Nat.le_of_ble_eq_true rfl) rfl (fun X hX hZ hE => ?_)
  subst hX
  have hS0 : St T cn K N d wi_X12_marksLight wr_X12_marksLight I0 R0 I0 R0 := St.rf0 hW0
  obtain ⟨a1, d2⟩ := nn3
  have ta1 : T a1 = 14 := hW0.rsN ta0 rfl d2
  have p3 := pre0
  refine tr_aload_n dX12_marksLight_0 rfl ?_
  refine tr_iload_n dX12_marksLight_1 rfl ?_
  refine q_callVi hE (M' := mX12_kindOf) (as := [_]) dX12_marksLight_2 lk12_404 inX12_kindOf seX12_kindOf myX12_kindOf (by decide) ⟨by decide, by decide⟩ rfl (kR15 hS0.1 ta0) (Nat.le_of_ble_eq_true rfl) rfl rfl (by decide) (by decide) (k_X12_kindOf hS0.1 ta0 (by exact om_2cfcd5a5 p3) ⟨_, d2⟩) ?_
  rintro v8 cn' K' N' I4 R5 L6 ⟨rfl, rfl, rfl, rfl, rfl, rfl, r9, -⟩
  by_cases h10 : v8.toInt = 0
  · skip
    refine tr_tabIn (off := 31) 36 dX12_marksLight_5 (by exact om_7c055b42 h10) (by exact om_0e9741b2 h10) (by rw [h10]; decide +kernel) (by decide) ?_
    refine tr_aload_n dX12_marksLight_36 rfl ?_
    obtain ⟨a11, d12, ta11⟩ := rf15_21 hW0 ta0
    refine tr_getR dX12_marksLight_37 fl12_27 (kR15 hS0.1 ta0) d12 ?_
    refine tr_iload_n dX12_marksLight_40 rfl ?_
    refine q_iconst dX12_marksLight_41 (by decide) ?_
    intro v13 h14
    refine q_zast dX12_marksLight_42 (kR81 hS0.1 ta11) (ti_in (nR81 hS0.1 ta11) (by exact om_2ab23ca2 hx2.2 hx2.1) (by exact om_c695125b hx2.2 hx2.1)) hS0 ta11 (by exact om_3b50ecb9 h14) rfl rfl (by rfl) ?_
    intro I15 hS16 f17
    refine tr_goto 103 dX12_marksLight_43 (by decide) ?_
    exact tr_vret hZ dX12_marksLight_103 rfl (by decide) (by decide) ⟨rfl, rfl, rfl, rfl, rfl, rfl, hS16, trivial⟩
  · skip
    by_cases h19 : v8.toInt = 1
    · skip
      refine tr_tabIn (off := 41) 46 dX12_marksLight_5 (by exact om_6183b2fb h19) (by exact om_abf3c1b2 h19) (by rw [h19]; decide +kernel) (by decide) ?_
      refine tr_aload_n dX12_marksLight_46 rfl ?_
      obtain ⟨a20, d21, ta20⟩ := rf15_24 hW0 ta0
      refine tr_getR dX12_marksLight_47 fl12_37 (kR15 hS0.1 ta0) d21 ?_
      refine tr_iload_n dX12_marksLight_50 rfl ?_
      refine q_iconst dX12_marksLight_51 (by decide) ?_
      intro v22 h23
      refine q_zast dX12_marksLight_52 (kR84 hS0.1 ta20) (ti_in (nR84 hS0.1 ta20) (by exact om_2ab23ca2 hx2.2 hx2.1) (by exact om_c695125b hx2.2 hx2.1)) hS0 ta20 (by exact om_d753bc65 h23) rfl rfl (by rfl) ?_
      intro I24 hS25 f26
      refine tr_goto 103 dX12_marksLight_53 (by decide) ?_
      exact tr_vret hZ dX12_marksLight_103 rfl (by decide) (by decide) ⟨rfl, rfl, rfl, rfl, rfl, rfl, hS25, trivial⟩
    · skip
      by_cases h28 : v8.toInt = 2
      · skip
        refine tr_tabIn (off := 51) 56 dX12_marksLight_5 (by exact om_1174f472 h28) (by exact om_1555d2b1 h28) (by rw [h28]; decide +kernel) (by decide) ?_
        refine tr_aload_n dX12_marksLight_56 rfl ?_
        obtain ⟨a29, d30, ta29⟩ := rf15_23 hW0 ta0
        refine tr_getR dX12_marksLight_57 fl12_34 (kR15 hS0.1 ta0) d30 ?_
        refine q_sipush dX12_marksLight_60 (by decide +kernel) ?_
        intro v31 h32
        refine tr_aload_n dX12_marksLight_63 rfl ?_
        refine tr_iload_n dX12_marksLight_64 rfl ?_
        refine q_callVi hE (M' := mX12_hutOf) (as := [_]) dX12_marksLight_65 lk12_407 inX12_hutOf seX12_hutOf myX12_hutOf (by decide) ⟨by decide, by decide⟩ rfl (kR15 hS0.1 ta0) (Nat.le_of_ble_eq_true rfl) rfl rfl (by decide) (by decide) (k_X12_hutOf hS0.1 ta0 (by exact om_2cfcd5a5 p3) ⟨_, d2⟩) ?_
        rintro v37 cn' K' N' I33 R34 L35 ⟨rfl, rfl, rfl, rfl, rfl, rfl, h38, r39, -⟩
        have p40 : 0 ≤ v37.toInt := by rw [r39]; exact mk_hu hS0.1 ta0 d2 (by exact om_2cfcd5a5 p3) (by rw [← r9]; exact om_38ec9801 h28)
        refine q_imulE (c := 240) dX12_marksLight_68 (by exact om_0c59d38e h32) (by exact om_63a15241 h38.2 h38.1 p40) ?_
        intro v41 h42
        refine tr_iload_n dX12_marksLight_69 rfl ?_
        refine q_iaddE dX12_marksLight_70 (by intro j1 j2 j3 j4; exact om_7ff4cd03 hx2.2 hx2.1 h38.2 h38.1 p40 h42 j1 j2) ?_
        intro v43 h44
        refine q_iconst dX12_marksLight_71 (by decide) ?_
        intro v45 h46
        refine q_zast dX12_marksLight_72 (kR83 hS0.1 ta29) (ti_in (nR83 hS0.1 ta29) (by exact om_58a31b65 hx2.2 hx2.1 h38.2 h38.1 p40 h42 h44) (by exact om_205e6cc7 hx2.2 hx2.1 h38.2 h38.1 p40 h42 h44)) hS0 ta29 (by exact om_d753bc65 h46) rfl rfl (by rfl) ?_
        intro I47 hS48 f49
        refine tr_goto 103 dX12_marksLight_73 (by decide) ?_
        exact tr_vret hZ dX12_marksLight_103 rfl (by decide) (by decide) ⟨rfl, rfl, rfl, rfl, rfl, rfl, hS48, trivial⟩
      · skip
        by_cases h51 : v8.toInt = 3
        · skip
          refine tr_tabIn (off := 71) 76 dX12_marksLight_5 (by exact om_d4b200a6 h51) (by exact om_52bff43b h51) (by rw [h51]; decide +kernel) (by decide) ?_
          refine tr_aload_n dX12_marksLight_76 rfl ?_
          obtain ⟨a52, d53, ta52⟩ := rf15_26 hW0 ta0
          refine tr_getR dX12_marksLight_77 fl12_43 (kR15 hS0.1 ta0) d53 ?_
          refine q_sipush dX12_marksLight_80 (by decide +kernel) ?_
          intro v54 h55
          refine tr_aload_n dX12_marksLight_83 rfl ?_
          refine tr_iload_n dX12_marksLight_84 rfl ?_
          refine q_callVi hE (M' := mX12_hutOf) (as := [_]) dX12_marksLight_85 lk12_407 inX12_hutOf seX12_hutOf myX12_hutOf (by decide) ⟨by decide, by decide⟩ rfl (kR15 hS0.1 ta0) (Nat.le_of_ble_eq_true rfl) rfl rfl (by decide) (by decide) (k_X12_hutOf hS0.1 ta0 (by exact om_2cfcd5a5 p3) ⟨_, d2⟩) ?_
          rintro v60 cn' K' N' I56 R57 L58 ⟨rfl, rfl, rfl, rfl, rfl, rfl, h61, r62, -⟩
          have p63 : 0 ≤ v60.toInt := by rw [r62]; exact mk_hu hS0.1 ta0 d2 (by exact om_2cfcd5a5 p3) (by rw [← r9]; exact om_3c630168 h51)
          refine q_imulE (c := 240) dX12_marksLight_88 (by exact om_0c59d38e h55) (by exact om_63a15241 h61.2 h61.1 p63) ?_
          intro v64 h65
          refine tr_iload_n dX12_marksLight_89 rfl ?_
          refine q_iaddE dX12_marksLight_90 (by intro j1 j2 j3 j4; exact om_7ff4cd03 hx2.2 hx2.1 h61.2 h61.1 p63 h65 j1 j2) ?_
          intro v66 h67
          refine q_iconst dX12_marksLight_91 (by decide) ?_
          intro v68 h69
          refine q_zast dX12_marksLight_92 (kR86 hS0.1 ta52) (ti_in (nR86 hS0.1 ta52) (by exact om_58a31b65 hx2.2 hx2.1 h61.2 h61.1 p63 h65 h67) (by exact om_205e6cc7 hx2.2 hx2.1 h61.2 h61.1 p63 h65 h67)) hS0 ta52 (by exact om_d753bc65 h69) rfl rfl (by rfl) ?_
          intro I70 hS71 f72
          refine tr_goto 103 dX12_marksLight_93 (by decide) ?_
          exact tr_vret hZ dX12_marksLight_103 rfl (by decide) (by decide) ⟨rfl, rfl, rfl, rfl, rfl, rfl, hS71, trivial⟩
        · skip
          refine tr_tabOut 96 dX12_marksLight_5 (by exact om_4f2b3e28 h10 h19 h28 h51) (by decide) ?_
          refine tr_aload_n dX12_marksLight_96 rfl ?_
          obtain ⟨a74, d75, ta74⟩ := rf15_25 hW0 ta0
          refine tr_getR dX12_marksLight_97 fl12_40 (kR15 hS0.1 ta0) d75 ?_
          refine tr_iload_n dX12_marksLight_100 rfl ?_
          refine q_iconst dX12_marksLight_101 (by decide) ?_
          intro v76 h77
          refine q_zast dX12_marksLight_102 (kR85 hS0.1 ta74) (ti_in (nR85 hS0.1 ta74) (by exact om_2ab23ca2 hx2.2 hx2.1) (by exact om_c695125b hx2.2 hx2.1)) hS0 ta74 (by exact om_d753bc65 h77) rfl rfl (by rfl) ?_
          intro I78 hS79 f80
          exact tr_vret hZ dX12_marksLight_103 rfl (by decide) (by decide) ⟨rfl, rfl, rfl, rfl, rfl, rfl, hS79, trivial⟩
def wi_X12_laysLight : List Nat := [5247, 5311, 5375, 5439, 5503, 5567]
def wr_X12_laysLight : List Nat := []
set_option maxHeartbeats 4000000 in
theorem k_X12_laysLight {l : Launch} {T : Nat → Nat} {cn : Nat} {K N : Nat → Nat} {I0 : cz_I} {R0 : cz_R} {L0 : cz_L} {d : Int} (hW0 : Wf T cn K N I0 R0 d) {a0 : Nat} (ta0 : T a0 = 15) {x1 : Int32} (nn3 : ∃ b, R0 a0 3 = some b) : ConE l mX12_laysLight [.ref a0, .int x1] cn K N I0 R0 L0 (ca_v (fun cn' K' N' I' R' L' => cn = cn' ∧ K = K' ∧ N = N' ∧ R0 = R' ∧ L0 = L' ∧ St T cn K N d wi_X12_laysLight wr_X12_laysLight I0 R0 I' R0 ∧ True)) := by
  refine ConE.of (by decide +kernel) rfl (Nat.le_of_ble_eq_true rfl) rfl (fun X hX hZ hE => ?_)
  subst hX
  have hS0 : St T cn K N d wi_X12_laysLight wr_X12_laysLight I0 R0 I0 R0 := St.rf0 hW0
  obtain ⟨a1, d2⟩ := nn3
  have ta1 : T a1 = 14 := hW0.rsN ta0 rfl d2
  refine q_iconst dX12_laysLight_0 (by decide) ?_
  intro v3 h4
  refine tr_istore_n dX12_laysLight_1 (by decide) (by decide) ?_
  have lp12 : ∀ (fu : Nat) (ls : Nat → Option Value) (v5 : Int32) (I9 : cz_I), ls 0 = some (.ref a0) → ls 1 = some (.int x1) → ls 2 = some (.int v5) → St T cn K N d wi_X12_laysLight wr_X12_laysLight I0 R0 I9 R0 → 0 ≤ v5.toInt → (-v5.toInt + 2147483647).toNat < fu → Tr X mX12_laysLight 2 ls [] cn K N I9 R0 L0 0 0 := by
    intro fu
    induction fu with
    | zero => intros; rename_i hz; exact absurd hz (Nat.not_lt_zero _)
    | succ fu ih12 =>
      intro ls v5 I9 hl6 hl7 hl8 hS10 g11 hm12
      refine tr_iload_n dX12_laysLight_2 hl8 ?_
      refine tr_aload_n dX12_laysLight_3 hl6 ?_
      refine tr_getR dX12_laysLight_4 fl12_385 (kR15 hS10.1 ta0) d2 ?_
      obtain ⟨v14, c15⟩ : ∃ v, I0 a1 0 = v := ⟨_, rfl⟩
      have b16 := hW0.2.2.2.2.2.1 a0 ta0 _ d2
      rw [c15] at b16
      have b17 := iv14_0 hW0 ta1 c15
      refine q_getI dX12_laysLight_7 fl12_192 (kR14 hS10.1 ta1) ((hS10.cell ta1 (by decide +kernel)).trans c15) ?_
      refine q_icmp_ge 85 dX12_laysLight_10 (by decide) (fun h18 => ?_) (fun h18 => ?_)
      · skip
        refine q_iconst dX12_laysLight_85 (by decide) ?_
        intro v19 h20
        refine tr_istore_n dX12_laysLight_86 (by decide) (by decide) ?_
        have lp28 : ∀ (fu : Nat) (ls : Nat → Option Value) (v21 : Int32) (I25 : cz_I), ls 0 = some (.ref a0) → ls 1 = some (.int x1) → ls 2 = some (.int v21) → St T cn K N d wi_X12_laysLight wr_X12_laysLight I0 R0 I25 R0 → 0 ≤ v21.toInt → (-v21.toInt + 2147483647).toNat < fu → Tr X mX12_laysLight 87 ls [] cn K N I25 R0 L0 0 0 := by
          intro fu
          induction fu with
          | zero => intros; rename_i hz; exact absurd hz (Nat.not_lt_zero _)
          | succ fu ih28 =>
            intro ls v21 I25 hl22 hl23 hl24 hS26 g27 hm28
            refine tr_iload_n dX12_laysLight_87 hl24 ?_
            refine tr_aload_n dX12_laysLight_88 hl22 ?_
            obtain ⟨v30, c31⟩ : ∃ v, I0 a1 2 = v := ⟨_, rfl⟩
            have b32 := iv14_2 hW0 ta1 c31
            obtain ⟨a33, d34, ta33⟩ := rf15_16 hW0 ta0
            obtain ⟨v35, c36⟩ : ∃ v, I0 a33 1 = v := ⟨_, rfl⟩
            have b37 := iv77_1 hW0 ta33 (by decide) c36
            refine q_callVi hE (M' := mX12_events) (as := []) dX12_laysLight_89 lk12_393 inX12_events seX12_events myX12_events (by decide) ⟨by decide, by decide⟩ rfl (kR15 hS26.1 ta0) (Nat.le_of_ble_eq_true rfl) rfl rfl (by decide) (by decide) (k_X12_events hS26.1 ta0 ⟨_, d2⟩) ?_
            rintro v42 cn' K' N' I38 R39 L40 ⟨rfl, rfl, rfl, rfl, rfl, rfl, h43, p44, -⟩
            have p45 := p44 _ d2 _ d34
            clear p44
            rw [((hS26.cell ta1 (by decide +kernel)).trans c31)] at p45
            rw [((hS26.cell ta33 (by decide +kernel)).trans c36)] at p45
            refine q_icmp_ge 133 dX12_laysLight_92 (by decide) (fun h46 => ?_) (fun h46 => ?_)
            · skip
              refine q_iconst dX12_laysLight_133 (by decide) ?_
              intro v47 h48
              refine tr_istore_n dX12_laysLight_134 (by decide) (by decide) ?_
              have lp56 : ∀ (fu : Nat) (ls : Nat → Option Value) (v49 : Int32) (I53 : cz_I), ls 0 = some (.ref a0) → ls 1 = some (.int x1) → ls 2 = some (.int v49) → St T cn K N d wi_X12_laysLight wr_X12_laysLight I0 R0 I53 R0 → 0 ≤ v49.toInt → (-v49.toInt + 2147483647).toNat < fu → Tr X mX12_laysLight 135 ls [] cn K N I53 R0 L0 0 0 := by
                intro fu
                induction fu with
                | zero => intros; rename_i hz; exact absurd hz (Nat.not_lt_zero _)
                | succ fu ih56 =>
                  intro ls v49 I53 hl50 hl51 hl52 hS54 g55 hm56
                  refine tr_iload_n dX12_laysLight_135 hl52 ?_
                  refine tr_aload_n dX12_laysLight_136 hl50 ?_
                  refine tr_getR dX12_laysLight_137 fl12_385 (kR15 hS54.1 ta0) d2 ?_
                  refine q_getI dX12_laysLight_140 fl12_192 (kR14 hS54.1 ta1) ((hS54.cell ta1 (by decide +kernel)).trans c15) ?_
                  refine q_icmp_ge 297 dX12_laysLight_143 (by decide) (fun h58 => ?_) (fun h58 => ?_)
                  · skip
                    exact tr_vret hZ dX12_laysLight_297 rfl (by decide) (by decide) ⟨rfl, rfl, rfl, rfl, rfl, rfl, hS54, trivial⟩
                  · skip
                    refine tr_aload_n dX12_laysLight_146 hl50 ?_
                    obtain ⟨a59, d60, ta59⟩ := rf15_21 hW0 ta0
                    refine tr_getR dX12_laysLight_147 fl12_27 (kR15 hS54.1 ta0) d60 ?_
                    refine tr_iload_n dX12_laysLight_150 hl52 ?_
                    refine tr_aload_n dX12_laysLight_151 hl50 ?_
                    obtain ⟨a61, d62, ta61⟩ := rf15_24 hW0 ta0
                    refine tr_getR dX12_laysLight_152 fl12_37 (kR15 hS54.1 ta0) d62 ?_
                    refine tr_iload_n dX12_laysLight_155 hl52 ?_
                    refine q_zald dX12_laysLight_156 (kR84 hS54.1 ta61) (ti_in (nR84 hS54.1 ta61) (by exact om_2cfcd5a5 g55) (by exact om_516cd055 b16 b17.2 h58)) ?_
                    intro v63 c64
                    have b65 := iv84 hS54.1 ta61 c64
                    refine q_if_ne 182 dX12_laysLight_157 (by decide) (fun h66 => ?_) (fun h66 => ?_)
                    · skip
                      refine q_iconst dX12_laysLight_182 (by decide) ?_
                      intro v67 h68
                      refine q_zast dX12_laysLight_183 (kR81 hS54.1 ta59) (ti_in (nR81 hS54.1 ta59) (by exact om_2cfcd5a5 g55) (by exact om_516cd055 b16 b17.2 h58)) hS54 ta59 (by exact om_3b50ecb9 h68) rfl rfl (by rfl) ?_
                      intro I69 hS70 f71
                      refine q_iconst dX12_laysLight_184 (by decide) ?_
                      intro v73 h74
                      refine tr_istore_n dX12_laysLight_185 (by decide) (by decide) ?_
                      have lp83 : ∀ (fu : Nat) (ls : Nat → Option Value) (v75 : Int32) (I80 : cz_I), ls 0 = some (.ref a0) → ls 1 = some (.int x1) → ls 2 = some (.int v49) → ls 3 = some (.int v75) → St T cn K N d wi_X12_laysLight wr_X12_laysLight I0 R0 I80 R0 → 0 ≤ v75.toInt → (-v75.toInt + 2147483647).toNat < fu → Tr X mX12_laysLight 186 ls [] cn K N I80 R0 L0 0 0 := by
                        intro fu
                        induction fu with
                        | zero => intros; rename_i hz; exact absurd hz (Nat.not_lt_zero _)
                        | succ fu ih83 =>
                          intro ls v75 I80 hl76 hl77 hl78 hl79 hS81 g82 hm83
                          refine tr_iload_n dX12_laysLight_186 hl79 ?_
                          refine tr_aload_n dX12_laysLight_187 hl76 ?_
                          refine tr_getR dX12_laysLight_188 fl12_385 (kR15 hS81.1 ta0) d2 ?_
                          obtain ⟨v85, c86⟩ : ∃ v, I0 a1 1 = v := ⟨_, rfl⟩
                          have b87 := iv14_1 hW0 ta1 c86
                          refine q_getI dX12_laysLight_191 fl12_263 (kR14 hS81.1 ta1) ((hS81.cell ta1 (by decide +kernel)).trans c86) ?_
                          refine q_icmp_ge 291 dX12_laysLight_194 (by decide) (fun h88 => ?_) (fun h88 => ?_)
                          · skip
                            refine q_iincE dX12_laysLight_291 hl78 (by decide) (by decide) (by intro j1 j2; exact om_ce124bf6 b16 b17.2 g55 h58 j2) ?_
                            intro v89 h90
                            refine tr_goto 135 dX12_laysLight_294 (by decide) ?_
                            exact ih56 _ v89 I80 hl76 hl77 rfl hS81 (by exact om_68881c41 g55 h90) (by exact om_498421ce b16 b17.2 g55 hm56 h58 b65.2 b65.1 h66 h90)
                          · skip
                            refine tr_aload_n dX12_laysLight_197 hl76 ?_
                            obtain ⟨a91, d92, ta91⟩ := rf15_22 hW0 ta0
                            refine tr_getR dX12_laysLight_198 fl12_31 (kR15 hS81.1 ta0) d92 ?_
                            refine q_sipush dX12_laysLight_201 (by decide +kernel) ?_
                            intro v93 h94
                            refine tr_iload_n dX12_laysLight_204 hl79 ?_
                            refine q_imulE (c := 240) dX12_laysLight_205 (by exact om_0c59d38e h94) (by exact om_55d57e81 g82 b87.2 b87.1 h88) ?_
                            intro v95 h96
                            refine tr_iload_n dX12_laysLight_206 hl78 ?_
                            refine q_iaddE dX12_laysLight_207 (by intro j1 j2 j3 j4; exact om_f51c3e72 b16 b17.2 g55 h58 b87.2 b87.1 h88 h96 j1 j2 j4) ?_
                            intro v97 h98
                            refine tr_aload_n dX12_laysLight_208 hl76 ?_
                            obtain ⟨a99, d100, ta99⟩ := rf15_26 hW0 ta0
                            refine tr_getR dX12_laysLight_209 fl12_43 (kR15 hS81.1 ta0) d100 ?_
                            refine q_sipush dX12_laysLight_212 (by decide +kernel) ?_
                            intro v101 h102
                            refine tr_iload_n dX12_laysLight_215 hl79 ?_
                            refine q_imulE (c := 240) dX12_laysLight_216 (by exact om_0c59d38e h102) (by exact om_55d57e81 g82 b87.2 b87.1 h88) ?_
                            intro v103 h104
                            refine tr_iload_n dX12_laysLight_217 hl78 ?_
                            refine q_iaddE dX12_laysLight_218 (by intro j1 j2 j3 j4; exact om_9c2b1944 b16 b17.2 g55 h58 b87.2 b87.1 h88 h96 h98 h104 j1 j2 j4) ?_
                            intro v105 h106
                            refine q_zald dX12_laysLight_219 (kR86 hS81.1 ta99) (ti_in (nR86 hS81.1 ta99) (by exact om_468c07e2 b16 b17.2 g55 h58 g82 h96 h98 h104 h106) (by exact om_dbc51edb b16 b17.2 g55 h58 b87.2 b87.1 h88 h96 h98 h104 h106)) ?_
                            intro v107 c108
                            have b109 := iv86 hS81.1 ta99 c108
                            refine q_if_ne 236 dX12_laysLight_220 (by decide) (fun h110 => ?_) (fun h110 => ?_)
                            · skip
                              refine q_iconst dX12_laysLight_236 (by decide) ?_
                              intro v111 h112
                              refine q_zast dX12_laysLight_237 (kR82 hS81.1 ta91) (ti_in (nR82 hS81.1 ta91) (by exact om_5621d170 b16 b17.2 g55 h58 g82 h96 h98 h104 h106) (by exact om_91b186de b16 b17.2 g55 h58 b87.2 b87.1 h88 h96 h98 h104 h106)) hS81 ta91 (by exact om_3b50ecb9 h112) rfl rfl (by rfl) ?_
                              intro I113 hS114 f115
                              refine tr_aload_n dX12_laysLight_238 hl76 ?_
                              obtain ⟨a117, d118, ta117⟩ := rf15_23 hW0 ta0
                              refine tr_getR dX12_laysLight_239 fl12_34 (kR15 hS114.1 ta0) d118 ?_
                              refine q_sipush dX12_laysLight_242 (by decide +kernel) ?_
                              intro v119 h120
                              refine tr_iload_n dX12_laysLight_245 hl79 ?_
                              refine q_imulE (c := 240) dX12_laysLight_246 (by exact om_0c59d38e h120) (by exact om_55d57e81 g82 b87.2 b87.1 h88) ?_
                              intro v121 h122
                              refine tr_iload_n dX12_laysLight_247 hl78 ?_
                              refine q_iaddE dX12_laysLight_248 (by intro j1 j2 j3 j4; exact om_a562ab73 b16 b17.2 g55 h58 b87.2 b87.1 h88 h96 h98 h104 h106 h122 j1 j2 j4) ?_
                              intro v123 h124
                              refine tr_aload_n dX12_laysLight_249 hl76 ?_
                              refine tr_getR dX12_laysLight_250 fl12_34 (kR15 hS114.1 ta0) d118 ?_
                              refine q_sipush dX12_laysLight_253 (by decide +kernel) ?_
                              intro v125 h126
                              refine tr_iload_n dX12_laysLight_256 hl79 ?_
                              refine q_imulE (c := 240) dX12_laysLight_257 (by exact om_0c59d38e h126) (by exact om_55d57e81 g82 b87.2 b87.1 h88) ?_
                              intro v127 h128
                              refine tr_iload_n dX12_laysLight_258 hl78 ?_
                              refine q_iaddE dX12_laysLight_259 (by intro j1 j2 j3 j4; exact om_4596bfa3 b16 b17.2 g55 h58 b87.2 b87.1 h88 h96 h98 h104 h106 h122 h124 h128 j1 j2 j4) ?_
                              intro v129 h130
                              refine q_zald dX12_laysLight_260 (kR83 hS114.1 ta117) (ti_in (nR83 hS114.1 ta117) (by exact om_fb57f578 b16 b17.2 g55 h58 g82 h96 h98 h104 h106 h122 h124 h128 h130) (by exact om_d0e5c123 b16 b17.2 g55 h58 b87.2 b87.1 h88 h96 h98 h104 h106 h122 h124 h128 h130)) ?_
                              intro v131 c132
                              have b133 := iv83 hS114.1 ta117 c132
                              refine q_if_ne 279 dX12_laysLight_261 (by decide) (fun h134 => ?_) (fun h134 => ?_)
                              · skip
                                refine q_iconst dX12_laysLight_279 (by decide) ?_
                                intro v135 h136
                                refine tr_goto 284 dX12_laysLight_280 (by decide) ?_
                                refine q_zast dX12_laysLight_284 (kR83 hS114.1 ta117) (ti_in (nR83 hS114.1 ta117) (by exact om_fc63fa26 b16 b17.2 g55 h58 g82 h96 h98 h104 h106 h122 h124 h128 h130) (by exact om_918ef203 b16 b17.2 g55 h58 b87.2 b87.1 h88 h96 h98 h104 h106 h122 h124 h128 h130)) hS114 ta117 (by exact om_d753bc65 h136) rfl rfl (by rfl) ?_
                                intro I137 hS138 f139
                                refine q_iincE dX12_laysLight_285 hl79 (by decide) (by decide) (by intro j1 j2; exact om_82f35343 g82 b87.2 b87.1 h88 j2) ?_
                                intro v141 h142
                                refine tr_goto 186 dX12_laysLight_288 (by decide) ?_
                                exact ih83 _ v141 I137 hl76 hl77 hl78 rfl hS138 (by exact om_68881c41 g82 h142) (by exact om_a8806f47 g82 hm83 b87.2 b87.1 h88 b109.2 b109.1 h110 b133.2 b133.1 h134 h142)
                              · skip
                                refine tr_aload_n dX12_laysLight_264 hl76 ?_
                                refine tr_getR dX12_laysLight_265 fl12_31 (kR15 hS114.1 ta0) d92 ?_
                                refine q_sipush dX12_laysLight_268 (by decide +kernel) ?_
                                intro v143 h144
                                refine tr_iload_n dX12_laysLight_271 hl79 ?_
                                refine q_imulE (c := 240) dX12_laysLight_272 (by exact om_0c59d38e h144) (by exact om_55d57e81 g82 b87.2 b87.1 h88) ?_
                                intro v145 h146
                                refine tr_iload_n dX12_laysLight_273 hl78 ?_
                                refine q_iaddE dX12_laysLight_274 (by intro j1 j2 j3 j4; exact om_f735b735 b16 b17.2 g55 h58 b87.2 b87.1 h88 h96 h98 h104 h106 h122 h124 h128 h130 h146 j1 j2 j4) ?_
                                intro v147 h148
                                refine q_zald dX12_laysLight_275 (kR82 hS114.1 ta91) (ti_in (nR82 hS114.1 ta91) (by exact om_c861d18e b16 b17.2 g55 h58 g82 h96 h98 h104 h106 h122 h124 h128 h130 h146 h148) (by exact om_fde598ae b16 b17.2 g55 h58 b87.2 b87.1 h88 h96 h98 h104 h106 h122 h124 h128 h130 h146 h148)) ?_
                                intro v149 c150
                                have b151 := iv82 hS114.1 ta91 c150
                                refine q_if_eq 283 dX12_laysLight_276 (by decide) (fun h152 => ?_) (fun h152 => ?_)
                                · skip
                                  refine q_iconst dX12_laysLight_283 (by decide) ?_
                                  intro v153 h154
                                  refine q_zast dX12_laysLight_284 (kR83 hS114.1 ta117) (ti_in (nR83 hS114.1 ta117) (by exact om_7ced073a b16 b17.2 g55 h58 g82 h96 h98 h104 h106 h122 h124 h128 h130 h146 h148) (by exact om_39859082 b16 b17.2 g55 h58 b87.2 b87.1 h88 h96 h98 h104 h106 h122 h124 h128 h130 h146 h148)) hS114 ta117 (by exact om_3b50ecb9 h154) rfl rfl (by rfl) ?_
                                  intro I155 hS156 f157
                                  refine q_iincE dX12_laysLight_285 hl79 (by decide) (by decide) (by intro j1 j2; exact om_82f35343 g82 b87.2 b87.1 h88 j2) ?_
                                  intro v159 h160
                                  refine tr_goto 186 dX12_laysLight_288 (by decide) ?_
                                  exact ih83 _ v159 I155 hl76 hl77 hl78 rfl hS156 (by exact om_68881c41 g82 h160) (by exact om_b9a030b3 g82 hm83 b87.2 b87.1 h88 b109.2 b109.1 h110 h160)
                                · skip
                                  refine q_iconst dX12_laysLight_279 (by decide) ?_
                                  intro v161 h162
                                  refine tr_goto 284 dX12_laysLight_280 (by decide) ?_
                                  refine q_zast dX12_laysLight_284 (kR83 hS114.1 ta117) (ti_in (nR83 hS114.1 ta117) (by exact om_7ced073a b16 b17.2 g55 h58 g82 h96 h98 h104 h106 h122 h124 h128 h130 h146 h148) (by exact om_39859082 b16 b17.2 g55 h58 b87.2 b87.1 h88 h96 h98 h104 h106 h122 h124 h128 h130 h146 h148)) hS114 ta117 (by exact om_d753bc65 h162) rfl rfl (by rfl) ?_
                                  intro I163 hS164 f165
                                  refine q_iincE dX12_laysLight_285 hl79 (by decide) (by decide) (by intro j1 j2; exact om_82f35343 g82 b87.2 b87.1 h88 j2) ?_
                                  intro v167 h168
                                  refine tr_goto 186 dX12_laysLight_288 (by decide) ?_
                                  exact ih83 _ v167 I163 hl76 hl77 hl78 rfl hS164 (by exact om_68881c41 g82 h168) (by exact om_a8806f47 g82 hm83 b87.2 b87.1 h88 b109.2 b109.1 h110 b151.2 b151.1 h152 h168)
                            · skip
                              refine tr_aload_n dX12_laysLight_223 hl76 ?_
                              refine tr_getR dX12_laysLight_224 fl12_27 (kR15 hS81.1 ta0) d60 ?_
                              refine tr_iload_n dX12_laysLight_227 hl78 ?_
                              refine q_zald dX12_laysLight_228 (kR81 hS81.1 ta59) (ti_in (nR81 hS81.1 ta59) (by exact om_2cfcd5a5 g55) (by exact om_7015c486 b16 b17.2 h58 h96 h98 h104 h106)) ?_
                              intro v169 c170
                              have b171 := iv81 hS81.1 ta59 c170
                              refine q_if_eq 236 dX12_laysLight_229 (by decide) (fun h172 => ?_) (fun h172 => ?_)
                              · skip
                                refine q_iconst dX12_laysLight_236 (by decide) ?_
                                intro v173 h174
                                refine q_zast dX12_laysLight_237 (kR82 hS81.1 ta91) (ti_in (nR82 hS81.1 ta91) (by exact om_5621d170 b16 b17.2 g55 h58 g82 h96 h98 h104 h106) (by exact om_91b186de b16 b17.2 g55 h58 b87.2 b87.1 h88 h96 h98 h104 h106)) hS81 ta91 (by exact om_3b50ecb9 h174) rfl rfl (by rfl) ?_
                                intro I175 hS176 f177
                                refine tr_aload_n dX12_laysLight_238 hl76 ?_
                                obtain ⟨a179, d180, ta179⟩ := rf15_23 hW0 ta0
                                refine tr_getR dX12_laysLight_239 fl12_34 (kR15 hS176.1 ta0) d180 ?_
                                refine q_sipush dX12_laysLight_242 (by decide +kernel) ?_
                                intro v181 h182
                                refine tr_iload_n dX12_laysLight_245 hl79 ?_
                                refine q_imulE (c := 240) dX12_laysLight_246 (by exact om_0c59d38e h182) (by exact om_55d57e81 g82 b87.2 b87.1 h88) ?_
                                intro v183 h184
                                refine tr_iload_n dX12_laysLight_247 hl78 ?_
                                refine q_iaddE dX12_laysLight_248 (by intro j1 j2 j3 j4; exact om_a562ab73 b16 b17.2 g55 h58 b87.2 b87.1 h88 h96 h98 h104 h106 h184 j1 j2 j4) ?_
                                intro v185 h186
                                refine tr_aload_n dX12_laysLight_249 hl76 ?_
                                refine tr_getR dX12_laysLight_250 fl12_34 (kR15 hS176.1 ta0) d180 ?_
                                refine q_sipush dX12_laysLight_253 (by decide +kernel) ?_
                                intro v187 h188
                                refine tr_iload_n dX12_laysLight_256 hl79 ?_
                                refine q_imulE (c := 240) dX12_laysLight_257 (by exact om_0c59d38e h188) (by exact om_55d57e81 g82 b87.2 b87.1 h88) ?_
                                intro v189 h190
                                refine tr_iload_n dX12_laysLight_258 hl78 ?_
                                refine q_iaddE dX12_laysLight_259 (by intro j1 j2 j3 j4; exact om_4596bfa3 b16 b17.2 g55 h58 b87.2 b87.1 h88 h96 h98 h104 h106 h184 h186 h190 j1 j2 j4) ?_
                                intro v191 h192
                                refine q_zald dX12_laysLight_260 (kR83 hS176.1 ta179) (ti_in (nR83 hS176.1 ta179) (by exact om_fb57f578 b16 b17.2 g55 h58 g82 h96 h98 h104 h106 h184 h186 h190 h192) (by exact om_d0e5c123 b16 b17.2 g55 h58 b87.2 b87.1 h88 h96 h98 h104 h106 h184 h186 h190 h192)) ?_
                                intro v193 c194
                                have b195 := iv83 hS176.1 ta179 c194
                                refine q_if_ne 279 dX12_laysLight_261 (by decide) (fun h196 => ?_) (fun h196 => ?_)
                                · skip
                                  refine q_iconst dX12_laysLight_279 (by decide) ?_
                                  intro v197 h198
                                  refine tr_goto 284 dX12_laysLight_280 (by decide) ?_
                                  refine q_zast dX12_laysLight_284 (kR83 hS176.1 ta179) (ti_in (nR83 hS176.1 ta179) (by exact om_fc63fa26 b16 b17.2 g55 h58 g82 h96 h98 h104 h106 h184 h186 h190 h192) (by exact om_918ef203 b16 b17.2 g55 h58 b87.2 b87.1 h88 h96 h98 h104 h106 h184 h186 h190 h192)) hS176 ta179 (by exact om_d753bc65 h198) rfl rfl (by rfl) ?_
                                  intro I199 hS200 f201
                                  refine q_iincE dX12_laysLight_285 hl79 (by decide) (by decide) (by intro j1 j2; exact om_82f35343 g82 b87.2 b87.1 h88 j2) ?_
                                  intro v203 h204
                                  refine tr_goto 186 dX12_laysLight_288 (by decide) ?_
                                  exact ih83 _ v203 I199 hl76 hl77 hl78 rfl hS200 (by exact om_68881c41 g82 h204) (by exact om_b9a030b3 g82 hm83 b87.2 b87.1 h88 b195.2 b195.1 h196 h204)
                                · skip
                                  refine tr_aload_n dX12_laysLight_264 hl76 ?_
                                  refine tr_getR dX12_laysLight_265 fl12_31 (kR15 hS176.1 ta0) d92 ?_
                                  refine q_sipush dX12_laysLight_268 (by decide +kernel) ?_
                                  intro v205 h206
                                  refine tr_iload_n dX12_laysLight_271 hl79 ?_
                                  refine q_imulE (c := 240) dX12_laysLight_272 (by exact om_0c59d38e h206) (by exact om_55d57e81 g82 b87.2 b87.1 h88) ?_
                                  intro v207 h208
                                  refine tr_iload_n dX12_laysLight_273 hl78 ?_
                                  refine q_iaddE dX12_laysLight_274 (by intro j1 j2 j3 j4; exact om_f735b735 b16 b17.2 g55 h58 b87.2 b87.1 h88 h96 h98 h104 h106 h184 h186 h190 h192 h208 j1 j2 j4) ?_
                                  intro v209 h210
                                  refine q_zald dX12_laysLight_275 (kR82 hS176.1 ta91) (ti_in (nR82 hS176.1 ta91) (by exact om_c861d18e b16 b17.2 g55 h58 g82 h96 h98 h104 h106 h184 h186 h190 h192 h208 h210) (by exact om_fde598ae b16 b17.2 g55 h58 b87.2 b87.1 h88 h96 h98 h104 h106 h184 h186 h190 h192 h208 h210)) ?_
                                  intro v211 c212
                                  have b213 := iv82 hS176.1 ta91 c212
                                  refine q_if_eq 283 dX12_laysLight_276 (by decide) (fun h214 => ?_) (fun h214 => ?_)
                                  · skip
                                    refine q_iconst dX12_laysLight_283 (by decide) ?_
                                    intro v215 h216
                                    refine q_zast dX12_laysLight_284 (kR83 hS176.1 ta179) (ti_in (nR83 hS176.1 ta179) (by exact om_7ced073a b16 b17.2 g55 h58 g82 h96 h98 h104 h106 h184 h186 h190 h192 h208 h210) (by exact om_39859082 b16 b17.2 g55 h58 b87.2 b87.1 h88 h96 h98 h104 h106 h184 h186 h190 h192 h208 h210)) hS176 ta179 (by exact om_3b50ecb9 h216) rfl rfl (by rfl) ?_
                                    intro I217 hS218 f219
                                    refine q_iincE dX12_laysLight_285 hl79 (by decide) (by decide) (by intro j1 j2; exact om_82f35343 g82 b87.2 b87.1 h88 j2) ?_
                                    intro v221 h222
                                    refine tr_goto 186 dX12_laysLight_288 (by decide) ?_
                                    exact ih83 _ v221 I217 hl76 hl77 hl78 rfl hS218 (by exact om_68881c41 g82 h222) (by exact om_494920c9 g82 hm83 b87.2 b87.1 h88 h222)
                                  · skip
                                    refine q_iconst dX12_laysLight_279 (by decide) ?_
                                    intro v223 h224
                                    refine tr_goto 284 dX12_laysLight_280 (by decide) ?_
                                    refine q_zast dX12_laysLight_284 (kR83 hS176.1 ta179) (ti_in (nR83 hS176.1 ta179) (by exact om_7ced073a b16 b17.2 g55 h58 g82 h96 h98 h104 h106 h184 h186 h190 h192 h208 h210) (by exact om_39859082 b16 b17.2 g55 h58 b87.2 b87.1 h88 h96 h98 h104 h106 h184 h186 h190 h192 h208 h210)) hS176 ta179 (by exact om_d753bc65 h224) rfl rfl (by rfl) ?_
                                    intro I225 hS226 f227
                                    refine q_iincE dX12_laysLight_285 hl79 (by decide) (by decide) (by intro j1 j2; exact om_82f35343 g82 b87.2 b87.1 h88 j2) ?_
                                    intro v229 h230
                                    refine tr_goto 186 dX12_laysLight_288 (by decide) ?_
                                    exact ih83 _ v229 I225 hl76 hl77 hl78 rfl hS226 (by exact om_68881c41 g82 h230) (by exact om_b9a030b3 g82 hm83 b87.2 b87.1 h88 b213.2 b213.1 h214 h230)
                              · skip
                                refine q_iconst dX12_laysLight_232 (by decide) ?_
                                intro v231 h232
                                refine tr_goto 237 dX12_laysLight_233 (by decide) ?_
                                refine q_zast dX12_laysLight_237 (kR82 hS81.1 ta91) (ti_in (nR82 hS81.1 ta91) (by exact om_5621d170 b16 b17.2 g55 h58 g82 h96 h98 h104 h106) (by exact om_91b186de b16 b17.2 g55 h58 b87.2 b87.1 h88 h96 h98 h104 h106)) hS81 ta91 (by exact om_d753bc65 h232) rfl rfl (by rfl) ?_
                                intro I233 hS234 f235
                                refine tr_aload_n dX12_laysLight_238 hl76 ?_
                                obtain ⟨a237, d238, ta237⟩ := rf15_23 hW0 ta0
                                refine tr_getR dX12_laysLight_239 fl12_34 (kR15 hS234.1 ta0) d238 ?_
                                refine q_sipush dX12_laysLight_242 (by decide +kernel) ?_
                                intro v239 h240
                                refine tr_iload_n dX12_laysLight_245 hl79 ?_
                                refine q_imulE (c := 240) dX12_laysLight_246 (by exact om_0c59d38e h240) (by exact om_55d57e81 g82 b87.2 b87.1 h88) ?_
                                intro v241 h242
                                refine tr_iload_n dX12_laysLight_247 hl78 ?_
                                refine q_iaddE dX12_laysLight_248 (by intro j1 j2 j3 j4; exact om_a562ab73 b16 b17.2 g55 h58 b87.2 b87.1 h88 h96 h98 h104 h106 h242 j1 j2 j4) ?_
                                intro v243 h244
                                refine tr_aload_n dX12_laysLight_249 hl76 ?_
                                refine tr_getR dX12_laysLight_250 fl12_34 (kR15 hS234.1 ta0) d238 ?_
                                refine q_sipush dX12_laysLight_253 (by decide +kernel) ?_
                                intro v245 h246
                                refine tr_iload_n dX12_laysLight_256 hl79 ?_
                                refine q_imulE (c := 240) dX12_laysLight_257 (by exact om_0c59d38e h246) (by exact om_55d57e81 g82 b87.2 b87.1 h88) ?_
                                intro v247 h248
                                refine tr_iload_n dX12_laysLight_258 hl78 ?_
                                refine q_iaddE dX12_laysLight_259 (by intro j1 j2 j3 j4; exact om_4596bfa3 b16 b17.2 g55 h58 b87.2 b87.1 h88 h96 h98 h104 h106 h242 h244 h248 j1 j2 j4) ?_
                                intro v249 h250
                                refine q_zald dX12_laysLight_260 (kR83 hS234.1 ta237) (ti_in (nR83 hS234.1 ta237) (by exact om_fb57f578 b16 b17.2 g55 h58 g82 h96 h98 h104 h106 h242 h244 h248 h250) (by exact om_d0e5c123 b16 b17.2 g55 h58 b87.2 b87.1 h88 h96 h98 h104 h106 h242 h244 h248 h250)) ?_
                                intro v251 c252
                                have b253 := iv83 hS234.1 ta237 c252
                                refine q_if_ne 279 dX12_laysLight_261 (by decide) (fun h254 => ?_) (fun h254 => ?_)
                                · skip
                                  refine q_iconst dX12_laysLight_279 (by decide) ?_
                                  intro v255 h256
                                  refine tr_goto 284 dX12_laysLight_280 (by decide) ?_
                                  refine q_zast dX12_laysLight_284 (kR83 hS234.1 ta237) (ti_in (nR83 hS234.1 ta237) (by exact om_fc63fa26 b16 b17.2 g55 h58 g82 h96 h98 h104 h106 h242 h244 h248 h250) (by exact om_918ef203 b16 b17.2 g55 h58 b87.2 b87.1 h88 h96 h98 h104 h106 h242 h244 h248 h250)) hS234 ta237 (by exact om_d753bc65 h256) rfl rfl (by rfl) ?_
                                  intro I257 hS258 f259
                                  refine q_iincE dX12_laysLight_285 hl79 (by decide) (by decide) (by intro j1 j2; exact om_82f35343 g82 b87.2 b87.1 h88 j2) ?_
                                  intro v261 h262
                                  refine tr_goto 186 dX12_laysLight_288 (by decide) ?_
                                  exact ih83 _ v261 I257 hl76 hl77 hl78 rfl hS258 (by exact om_68881c41 g82 h262) (by exact om_a8806f47 g82 hm83 b87.2 b87.1 h88 b171.2 b171.1 h172 b253.2 b253.1 h254 h262)
                                · skip
                                  refine tr_aload_n dX12_laysLight_264 hl76 ?_
                                  refine tr_getR dX12_laysLight_265 fl12_31 (kR15 hS234.1 ta0) d92 ?_
                                  refine q_sipush dX12_laysLight_268 (by decide +kernel) ?_
                                  intro v263 h264
                                  refine tr_iload_n dX12_laysLight_271 hl79 ?_
                                  refine q_imulE (c := 240) dX12_laysLight_272 (by exact om_0c59d38e h264) (by exact om_55d57e81 g82 b87.2 b87.1 h88) ?_
                                  intro v265 h266
                                  refine tr_iload_n dX12_laysLight_273 hl78 ?_
                                  refine q_iaddE dX12_laysLight_274 (by intro j1 j2 j3 j4; exact om_f735b735 b16 b17.2 g55 h58 b87.2 b87.1 h88 h96 h98 h104 h106 h242 h244 h248 h250 h266 j1 j2 j4) ?_
                                  intro v267 h268
                                  refine q_zald dX12_laysLight_275 (kR82 hS234.1 ta91) (ti_in (nR82 hS234.1 ta91) (by exact om_c861d18e b16 b17.2 g55 h58 g82 h96 h98 h104 h106 h242 h244 h248 h250 h266 h268) (by exact om_fde598ae b16 b17.2 g55 h58 b87.2 b87.1 h88 h96 h98 h104 h106 h242 h244 h248 h250 h266 h268)) ?_
                                  intro v269 c270
                                  have b271 := iv82 hS234.1 ta91 c270
                                  refine q_if_eq 283 dX12_laysLight_276 (by decide) (fun h272 => ?_) (fun h272 => ?_)
                                  · skip
                                    refine q_iconst dX12_laysLight_283 (by decide) ?_
                                    intro v273 h274
                                    refine q_zast dX12_laysLight_284 (kR83 hS234.1 ta237) (ti_in (nR83 hS234.1 ta237) (by exact om_7ced073a b16 b17.2 g55 h58 g82 h96 h98 h104 h106 h242 h244 h248 h250 h266 h268) (by exact om_39859082 b16 b17.2 g55 h58 b87.2 b87.1 h88 h96 h98 h104 h106 h242 h244 h248 h250 h266 h268)) hS234 ta237 (by exact om_3b50ecb9 h274) rfl rfl (by rfl) ?_
                                    intro I275 hS276 f277
                                    refine q_iincE dX12_laysLight_285 hl79 (by decide) (by decide) (by intro j1 j2; exact om_82f35343 g82 b87.2 b87.1 h88 j2) ?_
                                    intro v279 h280
                                    refine tr_goto 186 dX12_laysLight_288 (by decide) ?_
                                    exact ih83 _ v279 I275 hl76 hl77 hl78 rfl hS276 (by exact om_68881c41 g82 h280) (by exact om_b9a030b3 g82 hm83 b87.2 b87.1 h88 b171.2 b171.1 h172 h280)
                                  · skip
                                    refine q_iconst dX12_laysLight_279 (by decide) ?_
                                    intro v281 h282
                                    refine tr_goto 284 dX12_laysLight_280 (by decide) ?_
                                    refine q_zast dX12_laysLight_284 (kR83 hS234.1 ta237) (ti_in (nR83 hS234.1 ta237) (by exact om_7ced073a b16 b17.2 g55 h58 g82 h96 h98 h104 h106 h242 h244 h248 h250 h266 h268) (by exact om_39859082 b16 b17.2 g55 h58 b87.2 b87.1 h88 h96 h98 h104 h106 h242 h244 h248 h250 h266 h268)) hS234 ta237 (by exact om_d753bc65 h282) rfl rfl (by rfl) ?_
                                    intro I283 hS284 f285
                                    refine q_iincE dX12_laysLight_285 hl79 (by decide) (by decide) (by intro j1 j2; exact om_82f35343 g82 b87.2 b87.1 h88 j2) ?_
                                    intro v287 h288
                                    refine tr_goto 186 dX12_laysLight_288 (by decide) ?_
                                    exact ih83 _ v287 I283 hl76 hl77 hl78 rfl hS284 (by exact om_68881c41 g82 h288) (by exact om_a8806f47 g82 hm83 b87.2 b87.1 h88 b171.2 b171.1 h172 b271.2 b271.1 h272 h288)
                      exact lp83 _ _ v73 I69 hl50 hl51 hl52 rfl hS70 (by exact om_d99fa9e4 h74) (Nat.lt_succ_self _)
                    · skip
                      refine tr_aload_n dX12_laysLight_160 hl50 ?_
                      obtain ⟨a289, d290, ta289⟩ := rf15_25 hW0 ta0
                      refine tr_getR dX12_laysLight_161 fl12_40 (kR15 hS54.1 ta0) d290 ?_
                      refine tr_iload_n dX12_laysLight_164 hl52 ?_
                      refine q_zald dX12_laysLight_165 (kR85 hS54.1 ta289) (ti_in (nR85 hS54.1 ta289) (by exact om_2cfcd5a5 g55) (by exact om_516cd055 b16 b17.2 h58)) ?_
                      intro v291 c292
                      have b293 := iv85 hS54.1 ta289 c292
                      refine q_if_ne 178 dX12_laysLight_166 (by decide) (fun h294 => ?_) (fun h294 => ?_)
                      · skip
                        refine q_iconst dX12_laysLight_178 (by decide) ?_
                        intro v295 h296
                        refine tr_goto 183 dX12_laysLight_179 (by decide) ?_
                        refine q_zast dX12_laysLight_183 (kR81 hS54.1 ta59) (ti_in (nR81 hS54.1 ta59) (by exact om_2cfcd5a5 g55) (by exact om_516cd055 b16 b17.2 h58)) hS54 ta59 (by exact om_d753bc65 h296) rfl rfl (by rfl) ?_
                        intro I297 hS298 f299
                        refine q_iconst dX12_laysLight_184 (by decide) ?_
                        intro v301 h302
                        refine tr_istore_n dX12_laysLight_185 (by decide) (by decide) ?_
                        have lp311 : ∀ (fu : Nat) (ls : Nat → Option Value) (v303 : Int32) (I308 : cz_I), ls 0 = some (.ref a0) → ls 1 = some (.int x1) → ls 2 = some (.int v49) → ls 3 = some (.int v303) → St T cn K N d wi_X12_laysLight wr_X12_laysLight I0 R0 I308 R0 → 0 ≤ v303.toInt → (-v303.toInt + 2147483647).toNat < fu → Tr X mX12_laysLight 186 ls [] cn K N I308 R0 L0 0 0 := by
                          intro fu
                          induction fu with
                          | zero => intros; rename_i hz; exact absurd hz (Nat.not_lt_zero _)
                          | succ fu ih311 =>
                            intro ls v303 I308 hl304 hl305 hl306 hl307 hS309 g310 hm311
                            refine tr_iload_n dX12_laysLight_186 hl307 ?_
                            refine tr_aload_n dX12_laysLight_187 hl304 ?_
                            refine tr_getR dX12_laysLight_188 fl12_385 (kR15 hS309.1 ta0) d2 ?_
                            obtain ⟨v313, c314⟩ : ∃ v, I0 a1 1 = v := ⟨_, rfl⟩
                            have b315 := iv14_1 hW0 ta1 c314
                            refine q_getI dX12_laysLight_191 fl12_263 (kR14 hS309.1 ta1) ((hS309.cell ta1 (by decide +kernel)).trans c314) ?_
                            refine q_icmp_ge 291 dX12_laysLight_194 (by decide) (fun h316 => ?_) (fun h316 => ?_)
                            · skip
                              refine q_iincE dX12_laysLight_291 hl306 (by decide) (by decide) (by intro j1 j2; exact om_ce124bf6 b16 b17.2 g55 h58 j2) ?_
                              intro v317 h318
                              refine tr_goto 135 dX12_laysLight_294 (by decide) ?_
                              exact ih56 _ v317 I308 hl304 hl305 rfl hS309 (by exact om_68881c41 g55 h318) (by exact om_498421ce b16 b17.2 g55 hm56 h58 b293.2 b293.1 h294 h318)
                            · skip
                              refine tr_aload_n dX12_laysLight_197 hl304 ?_
                              obtain ⟨a319, d320, ta319⟩ := rf15_22 hW0 ta0
                              refine tr_getR dX12_laysLight_198 fl12_31 (kR15 hS309.1 ta0) d320 ?_
                              refine q_sipush dX12_laysLight_201 (by decide +kernel) ?_
                              intro v321 h322
                              refine tr_iload_n dX12_laysLight_204 hl307 ?_
                              refine q_imulE (c := 240) dX12_laysLight_205 (by exact om_0c59d38e h322) (by exact om_55d57e81 g310 b315.2 b315.1 h316) ?_
                              intro v323 h324
                              refine tr_iload_n dX12_laysLight_206 hl306 ?_
                              refine q_iaddE dX12_laysLight_207 (by intro j1 j2 j3 j4; exact om_f51c3e72 b16 b17.2 g55 h58 b315.2 b315.1 h316 h324 j1 j2 j4) ?_
                              intro v325 h326
                              refine tr_aload_n dX12_laysLight_208 hl304 ?_
                              obtain ⟨a327, d328, ta327⟩ := rf15_26 hW0 ta0
                              refine tr_getR dX12_laysLight_209 fl12_43 (kR15 hS309.1 ta0) d328 ?_
                              refine q_sipush dX12_laysLight_212 (by decide +kernel) ?_
                              intro v329 h330
                              refine tr_iload_n dX12_laysLight_215 hl307 ?_
                              refine q_imulE (c := 240) dX12_laysLight_216 (by exact om_0c59d38e h330) (by exact om_55d57e81 g310 b315.2 b315.1 h316) ?_
                              intro v331 h332
                              refine tr_iload_n dX12_laysLight_217 hl306 ?_
                              refine q_iaddE dX12_laysLight_218 (by intro j1 j2 j3 j4; exact om_9c2b1944 b16 b17.2 g55 h58 b315.2 b315.1 h316 h324 h326 h332 j1 j2 j4) ?_
                              intro v333 h334
                              refine q_zald dX12_laysLight_219 (kR86 hS309.1 ta327) (ti_in (nR86 hS309.1 ta327) (by exact om_468c07e2 b16 b17.2 g55 h58 g310 h324 h326 h332 h334) (by exact om_dbc51edb b16 b17.2 g55 h58 b315.2 b315.1 h316 h324 h326 h332 h334)) ?_
                              intro v335 c336
                              have b337 := iv86 hS309.1 ta327 c336
                              refine q_if_ne 236 dX12_laysLight_220 (by decide) (fun h338 => ?_) (fun h338 => ?_)
                              · skip
                                refine q_iconst dX12_laysLight_236 (by decide) ?_
                                intro v339 h340
                                refine q_zast dX12_laysLight_237 (kR82 hS309.1 ta319) (ti_in (nR82 hS309.1 ta319) (by exact om_5621d170 b16 b17.2 g55 h58 g310 h324 h326 h332 h334) (by exact om_91b186de b16 b17.2 g55 h58 b315.2 b315.1 h316 h324 h326 h332 h334)) hS309 ta319 (by exact om_3b50ecb9 h340) rfl rfl (by rfl) ?_
                                intro I341 hS342 f343
                                refine tr_aload_n dX12_laysLight_238 hl304 ?_
                                obtain ⟨a345, d346, ta345⟩ := rf15_23 hW0 ta0
                                refine tr_getR dX12_laysLight_239 fl12_34 (kR15 hS342.1 ta0) d346 ?_
                                refine q_sipush dX12_laysLight_242 (by decide +kernel) ?_
                                intro v347 h348
                                refine tr_iload_n dX12_laysLight_245 hl307 ?_
                                refine q_imulE (c := 240) dX12_laysLight_246 (by exact om_0c59d38e h348) (by exact om_55d57e81 g310 b315.2 b315.1 h316) ?_
                                intro v349 h350
                                refine tr_iload_n dX12_laysLight_247 hl306 ?_
                                refine q_iaddE dX12_laysLight_248 (by intro j1 j2 j3 j4; exact om_a562ab73 b16 b17.2 g55 h58 b315.2 b315.1 h316 h324 h326 h332 h334 h350 j1 j2 j4) ?_
                                intro v351 h352
                                refine tr_aload_n dX12_laysLight_249 hl304 ?_
                                refine tr_getR dX12_laysLight_250 fl12_34 (kR15 hS342.1 ta0) d346 ?_
                                refine q_sipush dX12_laysLight_253 (by decide +kernel) ?_
                                intro v353 h354
                                refine tr_iload_n dX12_laysLight_256 hl307 ?_
                                refine q_imulE (c := 240) dX12_laysLight_257 (by exact om_0c59d38e h354) (by exact om_55d57e81 g310 b315.2 b315.1 h316) ?_
                                intro v355 h356
                                refine tr_iload_n dX12_laysLight_258 hl306 ?_
                                refine q_iaddE dX12_laysLight_259 (by intro j1 j2 j3 j4; exact om_4596bfa3 b16 b17.2 g55 h58 b315.2 b315.1 h316 h324 h326 h332 h334 h350 h352 h356 j1 j2 j4) ?_
                                intro v357 h358
                                refine q_zald dX12_laysLight_260 (kR83 hS342.1 ta345) (ti_in (nR83 hS342.1 ta345) (by exact om_fb57f578 b16 b17.2 g55 h58 g310 h324 h326 h332 h334 h350 h352 h356 h358) (by exact om_d0e5c123 b16 b17.2 g55 h58 b315.2 b315.1 h316 h324 h326 h332 h334 h350 h352 h356 h358)) ?_
                                intro v359 c360
                                have b361 := iv83 hS342.1 ta345 c360
                                refine q_if_ne 279 dX12_laysLight_261 (by decide) (fun h362 => ?_) (fun h362 => ?_)
                                · skip
                                  refine q_iconst dX12_laysLight_279 (by decide) ?_
                                  intro v363 h364
                                  refine tr_goto 284 dX12_laysLight_280 (by decide) ?_
                                  refine q_zast dX12_laysLight_284 (kR83 hS342.1 ta345) (ti_in (nR83 hS342.1 ta345) (by exact om_fc63fa26 b16 b17.2 g55 h58 g310 h324 h326 h332 h334 h350 h352 h356 h358) (by exact om_918ef203 b16 b17.2 g55 h58 b315.2 b315.1 h316 h324 h326 h332 h334 h350 h352 h356 h358)) hS342 ta345 (by exact om_d753bc65 h364) rfl rfl (by rfl) ?_
                                  intro I365 hS366 f367
                                  refine q_iincE dX12_laysLight_285 hl307 (by decide) (by decide) (by intro j1 j2; exact om_82f35343 g310 b315.2 b315.1 h316 j2) ?_
                                  intro v369 h370
                                  refine tr_goto 186 dX12_laysLight_288 (by decide) ?_
                                  exact ih311 _ v369 I365 hl304 hl305 hl306 rfl hS366 (by exact om_68881c41 g310 h370) (by exact om_a8806f47 g310 hm311 b315.2 b315.1 h316 b337.2 b337.1 h338 b361.2 b361.1 h362 h370)
                                · skip
                                  refine tr_aload_n dX12_laysLight_264 hl304 ?_
                                  refine tr_getR dX12_laysLight_265 fl12_31 (kR15 hS342.1 ta0) d320 ?_
                                  refine q_sipush dX12_laysLight_268 (by decide +kernel) ?_
                                  intro v371 h372
                                  refine tr_iload_n dX12_laysLight_271 hl307 ?_
                                  refine q_imulE (c := 240) dX12_laysLight_272 (by exact om_0c59d38e h372) (by exact om_55d57e81 g310 b315.2 b315.1 h316) ?_
                                  intro v373 h374
                                  refine tr_iload_n dX12_laysLight_273 hl306 ?_
                                  refine q_iaddE dX12_laysLight_274 (by intro j1 j2 j3 j4; exact om_f735b735 b16 b17.2 g55 h58 b315.2 b315.1 h316 h324 h326 h332 h334 h350 h352 h356 h358 h374 j1 j2 j4) ?_
                                  intro v375 h376
                                  refine q_zald dX12_laysLight_275 (kR82 hS342.1 ta319) (ti_in (nR82 hS342.1 ta319) (by exact om_c861d18e b16 b17.2 g55 h58 g310 h324 h326 h332 h334 h350 h352 h356 h358 h374 h376) (by exact om_fde598ae b16 b17.2 g55 h58 b315.2 b315.1 h316 h324 h326 h332 h334 h350 h352 h356 h358 h374 h376)) ?_
                                  intro v377 c378
                                  have b379 := iv82 hS342.1 ta319 c378
                                  refine q_if_eq 283 dX12_laysLight_276 (by decide) (fun h380 => ?_) (fun h380 => ?_)
                                  · skip
                                    refine q_iconst dX12_laysLight_283 (by decide) ?_
                                    intro v381 h382
                                    refine q_zast dX12_laysLight_284 (kR83 hS342.1 ta345) (ti_in (nR83 hS342.1 ta345) (by exact om_7ced073a b16 b17.2 g55 h58 g310 h324 h326 h332 h334 h350 h352 h356 h358 h374 h376) (by exact om_39859082 b16 b17.2 g55 h58 b315.2 b315.1 h316 h324 h326 h332 h334 h350 h352 h356 h358 h374 h376)) hS342 ta345 (by exact om_3b50ecb9 h382) rfl rfl (by rfl) ?_
                                    intro I383 hS384 f385
                                    refine q_iincE dX12_laysLight_285 hl307 (by decide) (by decide) (by intro j1 j2; exact om_82f35343 g310 b315.2 b315.1 h316 j2) ?_
                                    intro v387 h388
                                    refine tr_goto 186 dX12_laysLight_288 (by decide) ?_
                                    exact ih311 _ v387 I383 hl304 hl305 hl306 rfl hS384 (by exact om_68881c41 g310 h388) (by exact om_b9a030b3 g310 hm311 b315.2 b315.1 h316 b337.2 b337.1 h338 h388)
                                  · skip
                                    refine q_iconst dX12_laysLight_279 (by decide) ?_
                                    intro v389 h390
                                    refine tr_goto 284 dX12_laysLight_280 (by decide) ?_
                                    refine q_zast dX12_laysLight_284 (kR83 hS342.1 ta345) (ti_in (nR83 hS342.1 ta345) (by exact om_7ced073a b16 b17.2 g55 h58 g310 h324 h326 h332 h334 h350 h352 h356 h358 h374 h376) (by exact om_39859082 b16 b17.2 g55 h58 b315.2 b315.1 h316 h324 h326 h332 h334 h350 h352 h356 h358 h374 h376)) hS342 ta345 (by exact om_d753bc65 h390) rfl rfl (by rfl) ?_
                                    intro I391 hS392 f393
                                    refine q_iincE dX12_laysLight_285 hl307 (by decide) (by decide) (by intro j1 j2; exact om_82f35343 g310 b315.2 b315.1 h316 j2) ?_
                                    intro v395 h396
                                    refine tr_goto 186 dX12_laysLight_288 (by decide) ?_
                                    exact ih311 _ v395 I391 hl304 hl305 hl306 rfl hS392 (by exact om_68881c41 g310 h396) (by exact om_a8806f47 g310 hm311 b315.2 b315.1 h316 b337.2 b337.1 h338 b379.2 b379.1 h380 h396)
                              · skip
                                refine tr_aload_n dX12_laysLight_223 hl304 ?_
                                refine tr_getR dX12_laysLight_224 fl12_27 (kR15 hS309.1 ta0) d60 ?_
                                refine tr_iload_n dX12_laysLight_227 hl306 ?_
                                refine q_zald dX12_laysLight_228 (kR81 hS309.1 ta59) (ti_in (nR81 hS309.1 ta59) (by exact om_2cfcd5a5 g55) (by exact om_7015c486 b16 b17.2 h58 h324 h326 h332 h334)) ?_
                                intro v397 c398
                                have b399 := iv81 hS309.1 ta59 c398
                                refine q_if_eq 236 dX12_laysLight_229 (by decide) (fun h400 => ?_) (fun h400 => ?_)
                                · skip
                                  refine q_iconst dX12_laysLight_236 (by decide) ?_
                                  intro v401 h402
                                  refine q_zast dX12_laysLight_237 (kR82 hS309.1 ta319) (ti_in (nR82 hS309.1 ta319) (by exact om_5621d170 b16 b17.2 g55 h58 g310 h324 h326 h332 h334) (by exact om_91b186de b16 b17.2 g55 h58 b315.2 b315.1 h316 h324 h326 h332 h334)) hS309 ta319 (by exact om_3b50ecb9 h402) rfl rfl (by rfl) ?_
                                  intro I403 hS404 f405
                                  refine tr_aload_n dX12_laysLight_238 hl304 ?_
                                  obtain ⟨a407, d408, ta407⟩ := rf15_23 hW0 ta0
                                  refine tr_getR dX12_laysLight_239 fl12_34 (kR15 hS404.1 ta0) d408 ?_
                                  refine q_sipush dX12_laysLight_242 (by decide +kernel) ?_
                                  intro v409 h410
                                  refine tr_iload_n dX12_laysLight_245 hl307 ?_
                                  refine q_imulE (c := 240) dX12_laysLight_246 (by exact om_0c59d38e h410) (by exact om_55d57e81 g310 b315.2 b315.1 h316) ?_
                                  intro v411 h412
                                  refine tr_iload_n dX12_laysLight_247 hl306 ?_
                                  refine q_iaddE dX12_laysLight_248 (by intro j1 j2 j3 j4; exact om_a562ab73 b16 b17.2 g55 h58 b315.2 b315.1 h316 h324 h326 h332 h334 h412 j1 j2 j4) ?_
                                  intro v413 h414
                                  refine tr_aload_n dX12_laysLight_249 hl304 ?_
                                  refine tr_getR dX12_laysLight_250 fl12_34 (kR15 hS404.1 ta0) d408 ?_
                                  refine q_sipush dX12_laysLight_253 (by decide +kernel) ?_
                                  intro v415 h416
                                  refine tr_iload_n dX12_laysLight_256 hl307 ?_
                                  refine q_imulE (c := 240) dX12_laysLight_257 (by exact om_0c59d38e h416) (by exact om_55d57e81 g310 b315.2 b315.1 h316) ?_
                                  intro v417 h418
                                  refine tr_iload_n dX12_laysLight_258 hl306 ?_
                                  refine q_iaddE dX12_laysLight_259 (by intro j1 j2 j3 j4; exact om_4596bfa3 b16 b17.2 g55 h58 b315.2 b315.1 h316 h324 h326 h332 h334 h412 h414 h418 j1 j2 j4) ?_
                                  intro v419 h420
                                  refine q_zald dX12_laysLight_260 (kR83 hS404.1 ta407) (ti_in (nR83 hS404.1 ta407) (by exact om_fb57f578 b16 b17.2 g55 h58 g310 h324 h326 h332 h334 h412 h414 h418 h420) (by exact om_d0e5c123 b16 b17.2 g55 h58 b315.2 b315.1 h316 h324 h326 h332 h334 h412 h414 h418 h420)) ?_
                                  intro v421 c422
                                  have b423 := iv83 hS404.1 ta407 c422
                                  refine q_if_ne 279 dX12_laysLight_261 (by decide) (fun h424 => ?_) (fun h424 => ?_)
                                  · skip
                                    refine q_iconst dX12_laysLight_279 (by decide) ?_
                                    intro v425 h426
                                    refine tr_goto 284 dX12_laysLight_280 (by decide) ?_
                                    refine q_zast dX12_laysLight_284 (kR83 hS404.1 ta407) (ti_in (nR83 hS404.1 ta407) (by exact om_fc63fa26 b16 b17.2 g55 h58 g310 h324 h326 h332 h334 h412 h414 h418 h420) (by exact om_918ef203 b16 b17.2 g55 h58 b315.2 b315.1 h316 h324 h326 h332 h334 h412 h414 h418 h420)) hS404 ta407 (by exact om_d753bc65 h426) rfl rfl (by rfl) ?_
                                    intro I427 hS428 f429
                                    refine q_iincE dX12_laysLight_285 hl307 (by decide) (by decide) (by intro j1 j2; exact om_82f35343 g310 b315.2 b315.1 h316 j2) ?_
                                    intro v431 h432
                                    refine tr_goto 186 dX12_laysLight_288 (by decide) ?_
                                    exact ih311 _ v431 I427 hl304 hl305 hl306 rfl hS428 (by exact om_68881c41 g310 h432) (by exact om_b9a030b3 g310 hm311 b315.2 b315.1 h316 b423.2 b423.1 h424 h432)
                                  · skip
                                    refine tr_aload_n dX12_laysLight_264 hl304 ?_
                                    refine tr_getR dX12_laysLight_265 fl12_31 (kR15 hS404.1 ta0) d320 ?_
                                    refine q_sipush dX12_laysLight_268 (by decide +kernel) ?_
                                    intro v433 h434
                                    refine tr_iload_n dX12_laysLight_271 hl307 ?_
                                    refine q_imulE (c := 240) dX12_laysLight_272 (by exact om_0c59d38e h434) (by exact om_55d57e81 g310 b315.2 b315.1 h316) ?_
                                    intro v435 h436
                                    refine tr_iload_n dX12_laysLight_273 hl306 ?_
                                    refine q_iaddE dX12_laysLight_274 (by intro j1 j2 j3 j4; exact om_f735b735 b16 b17.2 g55 h58 b315.2 b315.1 h316 h324 h326 h332 h334 h412 h414 h418 h420 h436 j1 j2 j4) ?_
                                    intro v437 h438
                                    refine q_zald dX12_laysLight_275 (kR82 hS404.1 ta319) (ti_in (nR82 hS404.1 ta319) (by exact om_c861d18e b16 b17.2 g55 h58 g310 h324 h326 h332 h334 h412 h414 h418 h420 h436 h438) (by exact om_fde598ae b16 b17.2 g55 h58 b315.2 b315.1 h316 h324 h326 h332 h334 h412 h414 h418 h420 h436 h438)) ?_
                                    intro v439 c440
                                    have b441 := iv82 hS404.1 ta319 c440
                                    refine q_if_eq 283 dX12_laysLight_276 (by decide) (fun h442 => ?_) (fun h442 => ?_)
                                    · skip
                                      refine q_iconst dX12_laysLight_283 (by decide) ?_
                                      intro v443 h444
                                      refine q_zast dX12_laysLight_284 (kR83 hS404.1 ta407) (ti_in (nR83 hS404.1 ta407) (by exact om_7ced073a b16 b17.2 g55 h58 g310 h324 h326 h332 h334 h412 h414 h418 h420 h436 h438) (by exact om_39859082 b16 b17.2 g55 h58 b315.2 b315.1 h316 h324 h326 h332 h334 h412 h414 h418 h420 h436 h438)) hS404 ta407 (by exact om_3b50ecb9 h444) rfl rfl (by rfl) ?_
                                      intro I445 hS446 f447
                                      refine q_iincE dX12_laysLight_285 hl307 (by decide) (by decide) (by intro j1 j2; exact om_82f35343 g310 b315.2 b315.1 h316 j2) ?_
                                      intro v449 h450
                                      refine tr_goto 186 dX12_laysLight_288 (by decide) ?_
                                      exact ih311 _ v449 I445 hl304 hl305 hl306 rfl hS446 (by exact om_68881c41 g310 h450) (by exact om_494920c9 g310 hm311 b315.2 b315.1 h316 h450)
                                    · skip
                                      refine q_iconst dX12_laysLight_279 (by decide) ?_
                                      intro v451 h452
                                      refine tr_goto 284 dX12_laysLight_280 (by decide) ?_
                                      refine q_zast dX12_laysLight_284 (kR83 hS404.1 ta407) (ti_in (nR83 hS404.1 ta407) (by exact om_7ced073a b16 b17.2 g55 h58 g310 h324 h326 h332 h334 h412 h414 h418 h420 h436 h438) (by exact om_39859082 b16 b17.2 g55 h58 b315.2 b315.1 h316 h324 h326 h332 h334 h412 h414 h418 h420 h436 h438)) hS404 ta407 (by exact om_d753bc65 h452) rfl rfl (by rfl) ?_
                                      intro I453 hS454 f455
                                      refine q_iincE dX12_laysLight_285 hl307 (by decide) (by decide) (by intro j1 j2; exact om_82f35343 g310 b315.2 b315.1 h316 j2) ?_
                                      intro v457 h458
                                      refine tr_goto 186 dX12_laysLight_288 (by decide) ?_
                                      exact ih311 _ v457 I453 hl304 hl305 hl306 rfl hS454 (by exact om_68881c41 g310 h458) (by exact om_b9a030b3 g310 hm311 b315.2 b315.1 h316 b441.2 b441.1 h442 h458)
                                · skip
                                  refine q_iconst dX12_laysLight_232 (by decide) ?_
                                  intro v459 h460
                                  refine tr_goto 237 dX12_laysLight_233 (by decide) ?_
                                  refine q_zast dX12_laysLight_237 (kR82 hS309.1 ta319) (ti_in (nR82 hS309.1 ta319) (by exact om_5621d170 b16 b17.2 g55 h58 g310 h324 h326 h332 h334) (by exact om_91b186de b16 b17.2 g55 h58 b315.2 b315.1 h316 h324 h326 h332 h334)) hS309 ta319 (by exact om_d753bc65 h460) rfl rfl (by rfl) ?_
                                  intro I461 hS462 f463
                                  refine tr_aload_n dX12_laysLight_238 hl304 ?_
                                  obtain ⟨a465, d466, ta465⟩ := rf15_23 hW0 ta0
                                  refine tr_getR dX12_laysLight_239 fl12_34 (kR15 hS462.1 ta0) d466 ?_
                                  refine q_sipush dX12_laysLight_242 (by decide +kernel) ?_
                                  intro v467 h468
                                  refine tr_iload_n dX12_laysLight_245 hl307 ?_
                                  refine q_imulE (c := 240) dX12_laysLight_246 (by exact om_0c59d38e h468) (by exact om_55d57e81 g310 b315.2 b315.1 h316) ?_
                                  intro v469 h470
                                  refine tr_iload_n dX12_laysLight_247 hl306 ?_
                                  refine q_iaddE dX12_laysLight_248 (by intro j1 j2 j3 j4; exact om_a562ab73 b16 b17.2 g55 h58 b315.2 b315.1 h316 h324 h326 h332 h334 h470 j1 j2 j4) ?_
                                  intro v471 h472
                                  refine tr_aload_n dX12_laysLight_249 hl304 ?_
                                  refine tr_getR dX12_laysLight_250 fl12_34 (kR15 hS462.1 ta0) d466 ?_
                                  refine q_sipush dX12_laysLight_253 (by decide +kernel) ?_
                                  intro v473 h474
                                  refine tr_iload_n dX12_laysLight_256 hl307 ?_
                                  refine q_imulE (c := 240) dX12_laysLight_257 (by exact om_0c59d38e h474) (by exact om_55d57e81 g310 b315.2 b315.1 h316) ?_
                                  intro v475 h476
                                  refine tr_iload_n dX12_laysLight_258 hl306 ?_
                                  refine q_iaddE dX12_laysLight_259 (by intro j1 j2 j3 j4; exact om_4596bfa3 b16 b17.2 g55 h58 b315.2 b315.1 h316 h324 h326 h332 h334 h470 h472 h476 j1 j2 j4) ?_
                                  intro v477 h478
                                  refine q_zald dX12_laysLight_260 (kR83 hS462.1 ta465) (ti_in (nR83 hS462.1 ta465) (by exact om_fb57f578 b16 b17.2 g55 h58 g310 h324 h326 h332 h334 h470 h472 h476 h478) (by exact om_d0e5c123 b16 b17.2 g55 h58 b315.2 b315.1 h316 h324 h326 h332 h334 h470 h472 h476 h478)) ?_
                                  intro v479 c480
                                  have b481 := iv83 hS462.1 ta465 c480
                                  refine q_if_ne 279 dX12_laysLight_261 (by decide) (fun h482 => ?_) (fun h482 => ?_)
                                  · skip
                                    refine q_iconst dX12_laysLight_279 (by decide) ?_
                                    intro v483 h484
                                    refine tr_goto 284 dX12_laysLight_280 (by decide) ?_
                                    refine q_zast dX12_laysLight_284 (kR83 hS462.1 ta465) (ti_in (nR83 hS462.1 ta465) (by exact om_fc63fa26 b16 b17.2 g55 h58 g310 h324 h326 h332 h334 h470 h472 h476 h478) (by exact om_918ef203 b16 b17.2 g55 h58 b315.2 b315.1 h316 h324 h326 h332 h334 h470 h472 h476 h478)) hS462 ta465 (by exact om_d753bc65 h484) rfl rfl (by rfl) ?_
                                    intro I485 hS486 f487
                                    refine q_iincE dX12_laysLight_285 hl307 (by decide) (by decide) (by intro j1 j2; exact om_82f35343 g310 b315.2 b315.1 h316 j2) ?_
                                    intro v489 h490
                                    refine tr_goto 186 dX12_laysLight_288 (by decide) ?_
                                    exact ih311 _ v489 I485 hl304 hl305 hl306 rfl hS486 (by exact om_68881c41 g310 h490) (by exact om_a8806f47 g310 hm311 b315.2 b315.1 h316 b399.2 b399.1 h400 b481.2 b481.1 h482 h490)
                                  · skip
                                    refine tr_aload_n dX12_laysLight_264 hl304 ?_
                                    refine tr_getR dX12_laysLight_265 fl12_31 (kR15 hS462.1 ta0) d320 ?_
                                    refine q_sipush dX12_laysLight_268 (by decide +kernel) ?_
                                    intro v491 h492
                                    refine tr_iload_n dX12_laysLight_271 hl307 ?_
                                    refine q_imulE (c := 240) dX12_laysLight_272 (by exact om_0c59d38e h492) (by exact om_55d57e81 g310 b315.2 b315.1 h316) ?_
                                    intro v493 h494
                                    refine tr_iload_n dX12_laysLight_273 hl306 ?_
                                    refine q_iaddE dX12_laysLight_274 (by intro j1 j2 j3 j4; exact om_f735b735 b16 b17.2 g55 h58 b315.2 b315.1 h316 h324 h326 h332 h334 h470 h472 h476 h478 h494 j1 j2 j4) ?_
                                    intro v495 h496
                                    refine q_zald dX12_laysLight_275 (kR82 hS462.1 ta319) (ti_in (nR82 hS462.1 ta319) (by exact om_c861d18e b16 b17.2 g55 h58 g310 h324 h326 h332 h334 h470 h472 h476 h478 h494 h496) (by exact om_fde598ae b16 b17.2 g55 h58 b315.2 b315.1 h316 h324 h326 h332 h334 h470 h472 h476 h478 h494 h496)) ?_
                                    intro v497 c498
                                    have b499 := iv82 hS462.1 ta319 c498
                                    refine q_if_eq 283 dX12_laysLight_276 (by decide) (fun h500 => ?_) (fun h500 => ?_)
                                    · skip
                                      refine q_iconst dX12_laysLight_283 (by decide) ?_
                                      intro v501 h502
                                      refine q_zast dX12_laysLight_284 (kR83 hS462.1 ta465) (ti_in (nR83 hS462.1 ta465) (by exact om_7ced073a b16 b17.2 g55 h58 g310 h324 h326 h332 h334 h470 h472 h476 h478 h494 h496) (by exact om_39859082 b16 b17.2 g55 h58 b315.2 b315.1 h316 h324 h326 h332 h334 h470 h472 h476 h478 h494 h496)) hS462 ta465 (by exact om_3b50ecb9 h502) rfl rfl (by rfl) ?_
                                      intro I503 hS504 f505
                                      refine q_iincE dX12_laysLight_285 hl307 (by decide) (by decide) (by intro j1 j2; exact om_82f35343 g310 b315.2 b315.1 h316 j2) ?_
                                      intro v507 h508
                                      refine tr_goto 186 dX12_laysLight_288 (by decide) ?_
                                      exact ih311 _ v507 I503 hl304 hl305 hl306 rfl hS504 (by exact om_68881c41 g310 h508) (by exact om_b9a030b3 g310 hm311 b315.2 b315.1 h316 b399.2 b399.1 h400 h508)
                                    · skip
                                      refine q_iconst dX12_laysLight_279 (by decide) ?_
                                      intro v509 h510
                                      refine tr_goto 284 dX12_laysLight_280 (by decide) ?_
                                      refine q_zast dX12_laysLight_284 (kR83 hS462.1 ta465) (ti_in (nR83 hS462.1 ta465) (by exact om_7ced073a b16 b17.2 g55 h58 g310 h324 h326 h332 h334 h470 h472 h476 h478 h494 h496) (by exact om_39859082 b16 b17.2 g55 h58 b315.2 b315.1 h316 h324 h326 h332 h334 h470 h472 h476 h478 h494 h496)) hS462 ta465 (by exact om_d753bc65 h510) rfl rfl (by rfl) ?_
                                      intro I511 hS512 f513
                                      refine q_iincE dX12_laysLight_285 hl307 (by decide) (by decide) (by intro j1 j2; exact om_82f35343 g310 b315.2 b315.1 h316 j2) ?_
                                      intro v515 h516
                                      refine tr_goto 186 dX12_laysLight_288 (by decide) ?_
                                      exact ih311 _ v515 I511 hl304 hl305 hl306 rfl hS512 (by exact om_68881c41 g310 h516) (by exact om_a8806f47 g310 hm311 b315.2 b315.1 h316 b399.2 b399.1 h400 b499.2 b499.1 h500 h516)
                        exact lp311 _ _ v301 I297 hl50 hl51 hl52 rfl hS298 (by exact om_d99fa9e4 h302) (Nat.lt_succ_self _)
                      · skip
                        refine tr_aload_n dX12_laysLight_169 hl50 ?_
                        refine tr_getR dX12_laysLight_170 fl12_27 (kR15 hS54.1 ta0) d60 ?_
                        refine tr_iload_n dX12_laysLight_173 hl52 ?_
                        refine q_zald dX12_laysLight_174 (kR81 hS54.1 ta59) (ti_in (nR81 hS54.1 ta59) (by exact om_2cfcd5a5 g55) (by exact om_516cd055 b16 b17.2 h58)) ?_
                        intro v517 c518
                        have b519 := iv81 hS54.1 ta59 c518
                        refine q_if_eq 182 dX12_laysLight_175 (by decide) (fun h520 => ?_) (fun h520 => ?_)
                        · skip
                          refine q_iconst dX12_laysLight_182 (by decide) ?_
                          intro v521 h522
                          refine q_zast dX12_laysLight_183 (kR81 hS54.1 ta59) (ti_in (nR81 hS54.1 ta59) (by exact om_2cfcd5a5 g55) (by exact om_516cd055 b16 b17.2 h58)) hS54 ta59 (by exact om_3b50ecb9 h522) rfl rfl (by rfl) ?_
                          intro I523 hS524 f525
                          refine q_iconst dX12_laysLight_184 (by decide) ?_
                          intro v527 h528
                          refine tr_istore_n dX12_laysLight_185 (by decide) (by decide) ?_
                          have lp537 : ∀ (fu : Nat) (ls : Nat → Option Value) (v529 : Int32) (I534 : cz_I), ls 0 = some (.ref a0) → ls 1 = some (.int x1) → ls 2 = some (.int v49) → ls 3 = some (.int v529) → St T cn K N d wi_X12_laysLight wr_X12_laysLight I0 R0 I534 R0 → 0 ≤ v529.toInt → (-v529.toInt + 2147483647).toNat < fu → Tr X mX12_laysLight 186 ls [] cn K N I534 R0 L0 0 0 := by
                            intro fu
                            induction fu with
                            | zero => intros; rename_i hz; exact absurd hz (Nat.not_lt_zero _)
                            | succ fu ih537 =>
                              intro ls v529 I534 hl530 hl531 hl532 hl533 hS535 g536 hm537
                              refine tr_iload_n dX12_laysLight_186 hl533 ?_
                              refine tr_aload_n dX12_laysLight_187 hl530 ?_
                              refine tr_getR dX12_laysLight_188 fl12_385 (kR15 hS535.1 ta0) d2 ?_
                              obtain ⟨v539, c540⟩ : ∃ v, I0 a1 1 = v := ⟨_, rfl⟩
                              have b541 := iv14_1 hW0 ta1 c540
                              refine q_getI dX12_laysLight_191 fl12_263 (kR14 hS535.1 ta1) ((hS535.cell ta1 (by decide +kernel)).trans c540) ?_
                              refine q_icmp_ge 291 dX12_laysLight_194 (by decide) (fun h542 => ?_) (fun h542 => ?_)
                              · skip
                                refine q_iincE dX12_laysLight_291 hl532 (by decide) (by decide) (by intro j1 j2; exact om_ce124bf6 b16 b17.2 g55 h58 j2) ?_
                                intro v543 h544
                                refine tr_goto 135 dX12_laysLight_294 (by decide) ?_
                                exact ih56 _ v543 I534 hl530 hl531 rfl hS535 (by exact om_68881c41 g55 h544) (by exact om_45ce0897 b16 b17.2 g55 hm56 h58 h544)
                              · skip
                                refine tr_aload_n dX12_laysLight_197 hl530 ?_
                                obtain ⟨a545, d546, ta545⟩ := rf15_22 hW0 ta0
                                refine tr_getR dX12_laysLight_198 fl12_31 (kR15 hS535.1 ta0) d546 ?_
                                refine q_sipush dX12_laysLight_201 (by decide +kernel) ?_
                                intro v547 h548
                                refine tr_iload_n dX12_laysLight_204 hl533 ?_
                                refine q_imulE (c := 240) dX12_laysLight_205 (by exact om_0c59d38e h548) (by exact om_55d57e81 g536 b541.2 b541.1 h542) ?_
                                intro v549 h550
                                refine tr_iload_n dX12_laysLight_206 hl532 ?_
                                refine q_iaddE dX12_laysLight_207 (by intro j1 j2 j3 j4; exact om_f51c3e72 b16 b17.2 g55 h58 b541.2 b541.1 h542 h550 j1 j2 j4) ?_
                                intro v551 h552
                                refine tr_aload_n dX12_laysLight_208 hl530 ?_
                                obtain ⟨a553, d554, ta553⟩ := rf15_26 hW0 ta0
                                refine tr_getR dX12_laysLight_209 fl12_43 (kR15 hS535.1 ta0) d554 ?_
                                refine q_sipush dX12_laysLight_212 (by decide +kernel) ?_
                                intro v555 h556
                                refine tr_iload_n dX12_laysLight_215 hl533 ?_
                                refine q_imulE (c := 240) dX12_laysLight_216 (by exact om_0c59d38e h556) (by exact om_55d57e81 g536 b541.2 b541.1 h542) ?_
                                intro v557 h558
                                refine tr_iload_n dX12_laysLight_217 hl532 ?_
                                refine q_iaddE dX12_laysLight_218 (by intro j1 j2 j3 j4; exact om_9c2b1944 b16 b17.2 g55 h58 b541.2 b541.1 h542 h550 h552 h558 j1 j2 j4) ?_
                                intro v559 h560
                                refine q_zald dX12_laysLight_219 (kR86 hS535.1 ta553) (ti_in (nR86 hS535.1 ta553) (by exact om_468c07e2 b16 b17.2 g55 h58 g536 h550 h552 h558 h560) (by exact om_dbc51edb b16 b17.2 g55 h58 b541.2 b541.1 h542 h550 h552 h558 h560)) ?_
                                intro v561 c562
                                have b563 := iv86 hS535.1 ta553 c562
                                refine q_if_ne 236 dX12_laysLight_220 (by decide) (fun h564 => ?_) (fun h564 => ?_)
                                · skip
                                  refine q_iconst dX12_laysLight_236 (by decide) ?_
                                  intro v565 h566
                                  refine q_zast dX12_laysLight_237 (kR82 hS535.1 ta545) (ti_in (nR82 hS535.1 ta545) (by exact om_5621d170 b16 b17.2 g55 h58 g536 h550 h552 h558 h560) (by exact om_91b186de b16 b17.2 g55 h58 b541.2 b541.1 h542 h550 h552 h558 h560)) hS535 ta545 (by exact om_3b50ecb9 h566) rfl rfl (by rfl) ?_
                                  intro I567 hS568 f569
                                  refine tr_aload_n dX12_laysLight_238 hl530 ?_
                                  obtain ⟨a571, d572, ta571⟩ := rf15_23 hW0 ta0
                                  refine tr_getR dX12_laysLight_239 fl12_34 (kR15 hS568.1 ta0) d572 ?_
                                  refine q_sipush dX12_laysLight_242 (by decide +kernel) ?_
                                  intro v573 h574
                                  refine tr_iload_n dX12_laysLight_245 hl533 ?_
                                  refine q_imulE (c := 240) dX12_laysLight_246 (by exact om_0c59d38e h574) (by exact om_55d57e81 g536 b541.2 b541.1 h542) ?_
                                  intro v575 h576
                                  refine tr_iload_n dX12_laysLight_247 hl532 ?_
                                  refine q_iaddE dX12_laysLight_248 (by intro j1 j2 j3 j4; exact om_a562ab73 b16 b17.2 g55 h58 b541.2 b541.1 h542 h550 h552 h558 h560 h576 j1 j2 j4) ?_
                                  intro v577 h578
                                  refine tr_aload_n dX12_laysLight_249 hl530 ?_
                                  refine tr_getR dX12_laysLight_250 fl12_34 (kR15 hS568.1 ta0) d572 ?_
                                  refine q_sipush dX12_laysLight_253 (by decide +kernel) ?_
                                  intro v579 h580
                                  refine tr_iload_n dX12_laysLight_256 hl533 ?_
                                  refine q_imulE (c := 240) dX12_laysLight_257 (by exact om_0c59d38e h580) (by exact om_55d57e81 g536 b541.2 b541.1 h542) ?_
                                  intro v581 h582
                                  refine tr_iload_n dX12_laysLight_258 hl532 ?_
                                  refine q_iaddE dX12_laysLight_259 (by intro j1 j2 j3 j4; exact om_4596bfa3 b16 b17.2 g55 h58 b541.2 b541.1 h542 h550 h552 h558 h560 h576 h578 h582 j1 j2 j4) ?_
                                  intro v583 h584
                                  refine q_zald dX12_laysLight_260 (kR83 hS568.1 ta571) (ti_in (nR83 hS568.1 ta571) (by exact om_fb57f578 b16 b17.2 g55 h58 g536 h550 h552 h558 h560 h576 h578 h582 h584) (by exact om_d0e5c123 b16 b17.2 g55 h58 b541.2 b541.1 h542 h550 h552 h558 h560 h576 h578 h582 h584)) ?_
                                  intro v585 c586
                                  have b587 := iv83 hS568.1 ta571 c586
                                  refine q_if_ne 279 dX12_laysLight_261 (by decide) (fun h588 => ?_) (fun h588 => ?_)
                                  · skip
                                    refine q_iconst dX12_laysLight_279 (by decide) ?_
                                    intro v589 h590
                                    refine tr_goto 284 dX12_laysLight_280 (by decide) ?_
                                    refine q_zast dX12_laysLight_284 (kR83 hS568.1 ta571) (ti_in (nR83 hS568.1 ta571) (by exact om_fc63fa26 b16 b17.2 g55 h58 g536 h550 h552 h558 h560 h576 h578 h582 h584) (by exact om_918ef203 b16 b17.2 g55 h58 b541.2 b541.1 h542 h550 h552 h558 h560 h576 h578 h582 h584)) hS568 ta571 (by exact om_d753bc65 h590) rfl rfl (by rfl) ?_
                                    intro I591 hS592 f593
                                    refine q_iincE dX12_laysLight_285 hl533 (by decide) (by decide) (by intro j1 j2; exact om_82f35343 g536 b541.2 b541.1 h542 j2) ?_
                                    intro v595 h596
                                    refine tr_goto 186 dX12_laysLight_288 (by decide) ?_
                                    exact ih537 _ v595 I591 hl530 hl531 hl532 rfl hS592 (by exact om_68881c41 g536 h596) (by exact om_a8806f47 g536 hm537 b541.2 b541.1 h542 b563.2 b563.1 h564 b587.2 b587.1 h588 h596)
                                  · skip
                                    refine tr_aload_n dX12_laysLight_264 hl530 ?_
                                    refine tr_getR dX12_laysLight_265 fl12_31 (kR15 hS568.1 ta0) d546 ?_
                                    refine q_sipush dX12_laysLight_268 (by decide +kernel) ?_
                                    intro v597 h598
                                    refine tr_iload_n dX12_laysLight_271 hl533 ?_
                                    refine q_imulE (c := 240) dX12_laysLight_272 (by exact om_0c59d38e h598) (by exact om_55d57e81 g536 b541.2 b541.1 h542) ?_
                                    intro v599 h600
                                    refine tr_iload_n dX12_laysLight_273 hl532 ?_
                                    refine q_iaddE dX12_laysLight_274 (by intro j1 j2 j3 j4; exact om_f735b735 b16 b17.2 g55 h58 b541.2 b541.1 h542 h550 h552 h558 h560 h576 h578 h582 h584 h600 j1 j2 j4) ?_
                                    intro v601 h602
                                    refine q_zald dX12_laysLight_275 (kR82 hS568.1 ta545) (ti_in (nR82 hS568.1 ta545) (by exact om_c861d18e b16 b17.2 g55 h58 g536 h550 h552 h558 h560 h576 h578 h582 h584 h600 h602) (by exact om_fde598ae b16 b17.2 g55 h58 b541.2 b541.1 h542 h550 h552 h558 h560 h576 h578 h582 h584 h600 h602)) ?_
                                    intro v603 c604
                                    have b605 := iv82 hS568.1 ta545 c604
                                    refine q_if_eq 283 dX12_laysLight_276 (by decide) (fun h606 => ?_) (fun h606 => ?_)
                                    · skip
                                      refine q_iconst dX12_laysLight_283 (by decide) ?_
                                      intro v607 h608
                                      refine q_zast dX12_laysLight_284 (kR83 hS568.1 ta571) (ti_in (nR83 hS568.1 ta571) (by exact om_7ced073a b16 b17.2 g55 h58 g536 h550 h552 h558 h560 h576 h578 h582 h584 h600 h602) (by exact om_39859082 b16 b17.2 g55 h58 b541.2 b541.1 h542 h550 h552 h558 h560 h576 h578 h582 h584 h600 h602)) hS568 ta571 (by exact om_3b50ecb9 h608) rfl rfl (by rfl) ?_
                                      intro I609 hS610 f611
                                      refine q_iincE dX12_laysLight_285 hl533 (by decide) (by decide) (by intro j1 j2; exact om_82f35343 g536 b541.2 b541.1 h542 j2) ?_
                                      intro v613 h614
                                      refine tr_goto 186 dX12_laysLight_288 (by decide) ?_
                                      exact ih537 _ v613 I609 hl530 hl531 hl532 rfl hS610 (by exact om_68881c41 g536 h614) (by exact om_b9a030b3 g536 hm537 b541.2 b541.1 h542 b563.2 b563.1 h564 h614)
                                    · skip
                                      refine q_iconst dX12_laysLight_279 (by decide) ?_
                                      intro v615 h616
                                      refine tr_goto 284 dX12_laysLight_280 (by decide) ?_
                                      refine q_zast dX12_laysLight_284 (kR83 hS568.1 ta571) (ti_in (nR83 hS568.1 ta571) (by exact om_7ced073a b16 b17.2 g55 h58 g536 h550 h552 h558 h560 h576 h578 h582 h584 h600 h602) (by exact om_39859082 b16 b17.2 g55 h58 b541.2 b541.1 h542 h550 h552 h558 h560 h576 h578 h582 h584 h600 h602)) hS568 ta571 (by exact om_d753bc65 h616) rfl rfl (by rfl) ?_
                                      intro I617 hS618 f619
                                      refine q_iincE dX12_laysLight_285 hl533 (by decide) (by decide) (by intro j1 j2; exact om_82f35343 g536 b541.2 b541.1 h542 j2) ?_
                                      intro v621 h622
                                      refine tr_goto 186 dX12_laysLight_288 (by decide) ?_
                                      exact ih537 _ v621 I617 hl530 hl531 hl532 rfl hS618 (by exact om_68881c41 g536 h622) (by exact om_a8806f47 g536 hm537 b541.2 b541.1 h542 b563.2 b563.1 h564 b605.2 b605.1 h606 h622)
                                · skip
                                  refine tr_aload_n dX12_laysLight_223 hl530 ?_
                                  refine tr_getR dX12_laysLight_224 fl12_27 (kR15 hS535.1 ta0) d60 ?_
                                  refine tr_iload_n dX12_laysLight_227 hl532 ?_
                                  refine q_zald dX12_laysLight_228 (kR81 hS535.1 ta59) (ti_in (nR81 hS535.1 ta59) (by exact om_2cfcd5a5 g55) (by exact om_7015c486 b16 b17.2 h58 h550 h552 h558 h560)) ?_
                                  intro v623 c624
                                  have b625 := iv81 hS535.1 ta59 c624
                                  refine q_if_eq 236 dX12_laysLight_229 (by decide) (fun h626 => ?_) (fun h626 => ?_)
                                  · skip
                                    refine q_iconst dX12_laysLight_236 (by decide) ?_
                                    intro v627 h628
                                    refine q_zast dX12_laysLight_237 (kR82 hS535.1 ta545) (ti_in (nR82 hS535.1 ta545) (by exact om_5621d170 b16 b17.2 g55 h58 g536 h550 h552 h558 h560) (by exact om_91b186de b16 b17.2 g55 h58 b541.2 b541.1 h542 h550 h552 h558 h560)) hS535 ta545 (by exact om_3b50ecb9 h628) rfl rfl (by rfl) ?_
                                    intro I629 hS630 f631
                                    refine tr_aload_n dX12_laysLight_238 hl530 ?_
                                    obtain ⟨a633, d634, ta633⟩ := rf15_23 hW0 ta0
                                    refine tr_getR dX12_laysLight_239 fl12_34 (kR15 hS630.1 ta0) d634 ?_
                                    refine q_sipush dX12_laysLight_242 (by decide +kernel) ?_
                                    intro v635 h636
                                    refine tr_iload_n dX12_laysLight_245 hl533 ?_
                                    refine q_imulE (c := 240) dX12_laysLight_246 (by exact om_0c59d38e h636) (by exact om_55d57e81 g536 b541.2 b541.1 h542) ?_
                                    intro v637 h638
                                    refine tr_iload_n dX12_laysLight_247 hl532 ?_
                                    refine q_iaddE dX12_laysLight_248 (by intro j1 j2 j3 j4; exact om_a562ab73 b16 b17.2 g55 h58 b541.2 b541.1 h542 h550 h552 h558 h560 h638 j1 j2 j4) ?_
                                    intro v639 h640
                                    refine tr_aload_n dX12_laysLight_249 hl530 ?_
                                    refine tr_getR dX12_laysLight_250 fl12_34 (kR15 hS630.1 ta0) d634 ?_
                                    refine q_sipush dX12_laysLight_253 (by decide +kernel) ?_
                                    intro v641 h642
                                    refine tr_iload_n dX12_laysLight_256 hl533 ?_
                                    refine q_imulE (c := 240) dX12_laysLight_257 (by exact om_0c59d38e h642) (by exact om_55d57e81 g536 b541.2 b541.1 h542) ?_
                                    intro v643 h644
                                    refine tr_iload_n dX12_laysLight_258 hl532 ?_
                                    refine q_iaddE dX12_laysLight_259 (by intro j1 j2 j3 j4; exact om_4596bfa3 b16 b17.2 g55 h58 b541.2 b541.1 h542 h550 h552 h558 h560 h638 h640 h644 j1 j2 j4) ?_
                                    intro v645 h646
                                    refine q_zald dX12_laysLight_260 (kR83 hS630.1 ta633) (ti_in (nR83 hS630.1 ta633) (by exact om_fb57f578 b16 b17.2 g55 h58 g536 h550 h552 h558 h560 h638 h640 h644 h646) (by exact om_d0e5c123 b16 b17.2 g55 h58 b541.2 b541.1 h542 h550 h552 h558 h560 h638 h640 h644 h646)) ?_
                                    intro v647 c648
                                    have b649 := iv83 hS630.1 ta633 c648
                                    refine q_if_ne 279 dX12_laysLight_261 (by decide) (fun h650 => ?_) (fun h650 => ?_)
                                    · skip
                                      refine q_iconst dX12_laysLight_279 (by decide) ?_
                                      intro v651 h652
                                      refine tr_goto 284 dX12_laysLight_280 (by decide) ?_
                                      refine q_zast dX12_laysLight_284 (kR83 hS630.1 ta633) (ti_in (nR83 hS630.1 ta633) (by exact om_fc63fa26 b16 b17.2 g55 h58 g536 h550 h552 h558 h560 h638 h640 h644 h646) (by exact om_918ef203 b16 b17.2 g55 h58 b541.2 b541.1 h542 h550 h552 h558 h560 h638 h640 h644 h646)) hS630 ta633 (by exact om_d753bc65 h652) rfl rfl (by rfl) ?_
                                      intro I653 hS654 f655
                                      refine q_iincE dX12_laysLight_285 hl533 (by decide) (by decide) (by intro j1 j2; exact om_82f35343 g536 b541.2 b541.1 h542 j2) ?_
                                      intro v657 h658
                                      refine tr_goto 186 dX12_laysLight_288 (by decide) ?_
                                      exact ih537 _ v657 I653 hl530 hl531 hl532 rfl hS654 (by exact om_68881c41 g536 h658) (by exact om_b9a030b3 g536 hm537 b541.2 b541.1 h542 b649.2 b649.1 h650 h658)
                                    · skip
                                      refine tr_aload_n dX12_laysLight_264 hl530 ?_
                                      refine tr_getR dX12_laysLight_265 fl12_31 (kR15 hS630.1 ta0) d546 ?_
                                      refine q_sipush dX12_laysLight_268 (by decide +kernel) ?_
                                      intro v659 h660
                                      refine tr_iload_n dX12_laysLight_271 hl533 ?_
                                      refine q_imulE (c := 240) dX12_laysLight_272 (by exact om_0c59d38e h660) (by exact om_55d57e81 g536 b541.2 b541.1 h542) ?_
                                      intro v661 h662
                                      refine tr_iload_n dX12_laysLight_273 hl532 ?_
                                      refine q_iaddE dX12_laysLight_274 (by intro j1 j2 j3 j4; exact om_f735b735 b16 b17.2 g55 h58 b541.2 b541.1 h542 h550 h552 h558 h560 h638 h640 h644 h646 h662 j1 j2 j4) ?_
                                      intro v663 h664
                                      refine q_zald dX12_laysLight_275 (kR82 hS630.1 ta545) (ti_in (nR82 hS630.1 ta545) (by exact om_c861d18e b16 b17.2 g55 h58 g536 h550 h552 h558 h560 h638 h640 h644 h646 h662 h664) (by exact om_fde598ae b16 b17.2 g55 h58 b541.2 b541.1 h542 h550 h552 h558 h560 h638 h640 h644 h646 h662 h664)) ?_
                                      intro v665 c666
                                      have b667 := iv82 hS630.1 ta545 c666
                                      refine q_if_eq 283 dX12_laysLight_276 (by decide) (fun h668 => ?_) (fun h668 => ?_)
                                      · skip
                                        refine q_iconst dX12_laysLight_283 (by decide) ?_
                                        intro v669 h670
                                        refine q_zast dX12_laysLight_284 (kR83 hS630.1 ta633) (ti_in (nR83 hS630.1 ta633) (by exact om_7ced073a b16 b17.2 g55 h58 g536 h550 h552 h558 h560 h638 h640 h644 h646 h662 h664) (by exact om_39859082 b16 b17.2 g55 h58 b541.2 b541.1 h542 h550 h552 h558 h560 h638 h640 h644 h646 h662 h664)) hS630 ta633 (by exact om_3b50ecb9 h670) rfl rfl (by rfl) ?_
                                        intro I671 hS672 f673
                                        refine q_iincE dX12_laysLight_285 hl533 (by decide) (by decide) (by intro j1 j2; exact om_82f35343 g536 b541.2 b541.1 h542 j2) ?_
                                        intro v675 h676
                                        refine tr_goto 186 dX12_laysLight_288 (by decide) ?_
                                        exact ih537 _ v675 I671 hl530 hl531 hl532 rfl hS672 (by exact om_68881c41 g536 h676) (by exact om_494920c9 g536 hm537 b541.2 b541.1 h542 h676)
                                      · skip
                                        refine q_iconst dX12_laysLight_279 (by decide) ?_
                                        intro v677 h678
                                        refine tr_goto 284 dX12_laysLight_280 (by decide) ?_
                                        refine q_zast dX12_laysLight_284 (kR83 hS630.1 ta633) (ti_in (nR83 hS630.1 ta633) (by exact om_7ced073a b16 b17.2 g55 h58 g536 h550 h552 h558 h560 h638 h640 h644 h646 h662 h664) (by exact om_39859082 b16 b17.2 g55 h58 b541.2 b541.1 h542 h550 h552 h558 h560 h638 h640 h644 h646 h662 h664)) hS630 ta633 (by exact om_d753bc65 h678) rfl rfl (by rfl) ?_
                                        intro I679 hS680 f681
                                        refine q_iincE dX12_laysLight_285 hl533 (by decide) (by decide) (by intro j1 j2; exact om_82f35343 g536 b541.2 b541.1 h542 j2) ?_
                                        intro v683 h684
                                        refine tr_goto 186 dX12_laysLight_288 (by decide) ?_
                                        exact ih537 _ v683 I679 hl530 hl531 hl532 rfl hS680 (by exact om_68881c41 g536 h684) (by exact om_b9a030b3 g536 hm537 b541.2 b541.1 h542 b667.2 b667.1 h668 h684)
                                  · skip
                                    refine q_iconst dX12_laysLight_232 (by decide) ?_
                                    intro v685 h686
                                    refine tr_goto 237 dX12_laysLight_233 (by decide) ?_
                                    refine q_zast dX12_laysLight_237 (kR82 hS535.1 ta545) (ti_in (nR82 hS535.1 ta545) (by exact om_5621d170 b16 b17.2 g55 h58 g536 h550 h552 h558 h560) (by exact om_91b186de b16 b17.2 g55 h58 b541.2 b541.1 h542 h550 h552 h558 h560)) hS535 ta545 (by exact om_d753bc65 h686) rfl rfl (by rfl) ?_
                                    intro I687 hS688 f689
                                    refine tr_aload_n dX12_laysLight_238 hl530 ?_
                                    obtain ⟨a691, d692, ta691⟩ := rf15_23 hW0 ta0
                                    refine tr_getR dX12_laysLight_239 fl12_34 (kR15 hS688.1 ta0) d692 ?_
                                    refine q_sipush dX12_laysLight_242 (by decide +kernel) ?_
                                    intro v693 h694
                                    refine tr_iload_n dX12_laysLight_245 hl533 ?_
                                    refine q_imulE (c := 240) dX12_laysLight_246 (by exact om_0c59d38e h694) (by exact om_55d57e81 g536 b541.2 b541.1 h542) ?_
                                    intro v695 h696
                                    refine tr_iload_n dX12_laysLight_247 hl532 ?_
                                    refine q_iaddE dX12_laysLight_248 (by intro j1 j2 j3 j4; exact om_a562ab73 b16 b17.2 g55 h58 b541.2 b541.1 h542 h550 h552 h558 h560 h696 j1 j2 j4) ?_
                                    intro v697 h698
                                    refine tr_aload_n dX12_laysLight_249 hl530 ?_
                                    refine tr_getR dX12_laysLight_250 fl12_34 (kR15 hS688.1 ta0) d692 ?_
                                    refine q_sipush dX12_laysLight_253 (by decide +kernel) ?_
                                    intro v699 h700
                                    refine tr_iload_n dX12_laysLight_256 hl533 ?_
                                    refine q_imulE (c := 240) dX12_laysLight_257 (by exact om_0c59d38e h700) (by exact om_55d57e81 g536 b541.2 b541.1 h542) ?_
                                    intro v701 h702
                                    refine tr_iload_n dX12_laysLight_258 hl532 ?_
                                    refine q_iaddE dX12_laysLight_259 (by intro j1 j2 j3 j4; exact om_4596bfa3 b16 b17.2 g55 h58 b541.2 b541.1 h542 h550 h552 h558 h560 h696 h698 h702 j1 j2 j4) ?_
                                    intro v703 h704
                                    refine q_zald dX12_laysLight_260 (kR83 hS688.1 ta691) (ti_in (nR83 hS688.1 ta691) (by exact om_fb57f578 b16 b17.2 g55 h58 g536 h550 h552 h558 h560 h696 h698 h702 h704) (by exact om_d0e5c123 b16 b17.2 g55 h58 b541.2 b541.1 h542 h550 h552 h558 h560 h696 h698 h702 h704)) ?_
                                    intro v705 c706
                                    have b707 := iv83 hS688.1 ta691 c706
                                    refine q_if_ne 279 dX12_laysLight_261 (by decide) (fun h708 => ?_) (fun h708 => ?_)
                                    · skip
                                      refine q_iconst dX12_laysLight_279 (by decide) ?_
                                      intro v709 h710
                                      refine tr_goto 284 dX12_laysLight_280 (by decide) ?_
                                      refine q_zast dX12_laysLight_284 (kR83 hS688.1 ta691) (ti_in (nR83 hS688.1 ta691) (by exact om_fc63fa26 b16 b17.2 g55 h58 g536 h550 h552 h558 h560 h696 h698 h702 h704) (by exact om_918ef203 b16 b17.2 g55 h58 b541.2 b541.1 h542 h550 h552 h558 h560 h696 h698 h702 h704)) hS688 ta691 (by exact om_d753bc65 h710) rfl rfl (by rfl) ?_
                                      intro I711 hS712 f713
                                      refine q_iincE dX12_laysLight_285 hl533 (by decide) (by decide) (by intro j1 j2; exact om_82f35343 g536 b541.2 b541.1 h542 j2) ?_
                                      intro v715 h716
                                      refine tr_goto 186 dX12_laysLight_288 (by decide) ?_
                                      exact ih537 _ v715 I711 hl530 hl531 hl532 rfl hS712 (by exact om_68881c41 g536 h716) (by exact om_a8806f47 g536 hm537 b541.2 b541.1 h542 b625.2 b625.1 h626 b707.2 b707.1 h708 h716)
                                    · skip
                                      refine tr_aload_n dX12_laysLight_264 hl530 ?_
                                      refine tr_getR dX12_laysLight_265 fl12_31 (kR15 hS688.1 ta0) d546 ?_
                                      refine q_sipush dX12_laysLight_268 (by decide +kernel) ?_
                                      intro v717 h718
                                      refine tr_iload_n dX12_laysLight_271 hl533 ?_
                                      refine q_imulE (c := 240) dX12_laysLight_272 (by exact om_0c59d38e h718) (by exact om_55d57e81 g536 b541.2 b541.1 h542) ?_
                                      intro v719 h720
                                      refine tr_iload_n dX12_laysLight_273 hl532 ?_
                                      refine q_iaddE dX12_laysLight_274 (by intro j1 j2 j3 j4; exact om_f735b735 b16 b17.2 g55 h58 b541.2 b541.1 h542 h550 h552 h558 h560 h696 h698 h702 h704 h720 j1 j2 j4) ?_
                                      intro v721 h722
                                      refine q_zald dX12_laysLight_275 (kR82 hS688.1 ta545) (ti_in (nR82 hS688.1 ta545) (by exact om_c861d18e b16 b17.2 g55 h58 g536 h550 h552 h558 h560 h696 h698 h702 h704 h720 h722) (by exact om_fde598ae b16 b17.2 g55 h58 b541.2 b541.1 h542 h550 h552 h558 h560 h696 h698 h702 h704 h720 h722)) ?_
                                      intro v723 c724
                                      have b725 := iv82 hS688.1 ta545 c724
                                      refine q_if_eq 283 dX12_laysLight_276 (by decide) (fun h726 => ?_) (fun h726 => ?_)
                                      · skip
                                        refine q_iconst dX12_laysLight_283 (by decide) ?_
                                        intro v727 h728
                                        refine q_zast dX12_laysLight_284 (kR83 hS688.1 ta691) (ti_in (nR83 hS688.1 ta691) (by exact om_7ced073a b16 b17.2 g55 h58 g536 h550 h552 h558 h560 h696 h698 h702 h704 h720 h722) (by exact om_39859082 b16 b17.2 g55 h58 b541.2 b541.1 h542 h550 h552 h558 h560 h696 h698 h702 h704 h720 h722)) hS688 ta691 (by exact om_3b50ecb9 h728) rfl rfl (by rfl) ?_
                                        intro I729 hS730 f731
                                        refine q_iincE dX12_laysLight_285 hl533 (by decide) (by decide) (by intro j1 j2; exact om_82f35343 g536 b541.2 b541.1 h542 j2) ?_
                                        intro v733 h734
                                        refine tr_goto 186 dX12_laysLight_288 (by decide) ?_
                                        exact ih537 _ v733 I729 hl530 hl531 hl532 rfl hS730 (by exact om_68881c41 g536 h734) (by exact om_b9a030b3 g536 hm537 b541.2 b541.1 h542 b625.2 b625.1 h626 h734)
                                      · skip
                                        refine q_iconst dX12_laysLight_279 (by decide) ?_
                                        intro v735 h736
                                        refine tr_goto 284 dX12_laysLight_280 (by decide) ?_
                                        refine q_zast dX12_laysLight_284 (kR83 hS688.1 ta691) (ti_in (nR83 hS688.1 ta691) (by exact om_7ced073a b16 b17.2 g55 h58 g536 h550 h552 h558 h560 h696 h698 h702 h704 h720 h722) (by exact om_39859082 b16 b17.2 g55 h58 b541.2 b541.1 h542 h550 h552 h558 h560 h696 h698 h702 h704 h720 h722)) hS688 ta691 (by exact om_d753bc65 h736) rfl rfl (by rfl) ?_
                                        intro I737 hS738 f739
                                        refine q_iincE dX12_laysLight_285 hl533 (by decide) (by decide) (by intro j1 j2; exact om_82f35343 g536 b541.2 b541.1 h542 j2) ?_
                                        intro v741 h742
                                        refine tr_goto 186 dX12_laysLight_288 (by decide) ?_
                                        exact ih537 _ v741 I737 hl530 hl531 hl532 rfl hS738 (by exact om_68881c41 g536 h742) (by exact om_a8806f47 g536 hm537 b541.2 b541.1 h542 b625.2 b625.1 h626 b725.2 b725.1 h726 h742)
                          exact lp537 _ _ v527 I523 hl50 hl51 hl52 rfl hS524 (by exact om_d99fa9e4 h528) (Nat.lt_succ_self _)
                        · skip
                          refine q_iconst dX12_laysLight_178 (by decide) ?_
                          intro v743 h744
                          refine tr_goto 183 dX12_laysLight_179 (by decide) ?_
                          refine q_zast dX12_laysLight_183 (kR81 hS54.1 ta59) (ti_in (nR81 hS54.1 ta59) (by exact om_2cfcd5a5 g55) (by exact om_516cd055 b16 b17.2 h58)) hS54 ta59 (by exact om_d753bc65 h744) rfl rfl (by rfl) ?_
                          intro I745 hS746 f747
                          refine q_iconst dX12_laysLight_184 (by decide) ?_
                          intro v749 h750
                          refine tr_istore_n dX12_laysLight_185 (by decide) (by decide) ?_
                          have lp759 : ∀ (fu : Nat) (ls : Nat → Option Value) (v751 : Int32) (I756 : cz_I), ls 0 = some (.ref a0) → ls 1 = some (.int x1) → ls 2 = some (.int v49) → ls 3 = some (.int v751) → St T cn K N d wi_X12_laysLight wr_X12_laysLight I0 R0 I756 R0 → 0 ≤ v751.toInt → (-v751.toInt + 2147483647).toNat < fu → Tr X mX12_laysLight 186 ls [] cn K N I756 R0 L0 0 0 := by
                            intro fu
                            induction fu with
                            | zero => intros; rename_i hz; exact absurd hz (Nat.not_lt_zero _)
                            | succ fu ih759 =>
                              intro ls v751 I756 hl752 hl753 hl754 hl755 hS757 g758 hm759
                              refine tr_iload_n dX12_laysLight_186 hl755 ?_
                              refine tr_aload_n dX12_laysLight_187 hl752 ?_
                              refine tr_getR dX12_laysLight_188 fl12_385 (kR15 hS757.1 ta0) d2 ?_
                              obtain ⟨v761, c762⟩ : ∃ v, I0 a1 1 = v := ⟨_, rfl⟩
                              have b763 := iv14_1 hW0 ta1 c762
                              refine q_getI dX12_laysLight_191 fl12_263 (kR14 hS757.1 ta1) ((hS757.cell ta1 (by decide +kernel)).trans c762) ?_
                              refine q_icmp_ge 291 dX12_laysLight_194 (by decide) (fun h764 => ?_) (fun h764 => ?_)
                              · skip
                                refine q_iincE dX12_laysLight_291 hl754 (by decide) (by decide) (by intro j1 j2; exact om_ce124bf6 b16 b17.2 g55 h58 j2) ?_
                                intro v765 h766
                                refine tr_goto 135 dX12_laysLight_294 (by decide) ?_
                                exact ih56 _ v765 I756 hl752 hl753 rfl hS757 (by exact om_68881c41 g55 h766) (by exact om_498421ce b16 b17.2 g55 hm56 h58 b519.2 b519.1 h520 h766)
                              · skip
                                refine tr_aload_n dX12_laysLight_197 hl752 ?_
                                obtain ⟨a767, d768, ta767⟩ := rf15_22 hW0 ta0
                                refine tr_getR dX12_laysLight_198 fl12_31 (kR15 hS757.1 ta0) d768 ?_
                                refine q_sipush dX12_laysLight_201 (by decide +kernel) ?_
                                intro v769 h770
                                refine tr_iload_n dX12_laysLight_204 hl755 ?_
                                refine q_imulE (c := 240) dX12_laysLight_205 (by exact om_0c59d38e h770) (by exact om_55d57e81 g758 b763.2 b763.1 h764) ?_
                                intro v771 h772
                                refine tr_iload_n dX12_laysLight_206 hl754 ?_
                                refine q_iaddE dX12_laysLight_207 (by intro j1 j2 j3 j4; exact om_f51c3e72 b16 b17.2 g55 h58 b763.2 b763.1 h764 h772 j1 j2 j4) ?_
                                intro v773 h774
                                refine tr_aload_n dX12_laysLight_208 hl752 ?_
                                obtain ⟨a775, d776, ta775⟩ := rf15_26 hW0 ta0
                                refine tr_getR dX12_laysLight_209 fl12_43 (kR15 hS757.1 ta0) d776 ?_
                                refine q_sipush dX12_laysLight_212 (by decide +kernel) ?_
                                intro v777 h778
                                refine tr_iload_n dX12_laysLight_215 hl755 ?_
                                refine q_imulE (c := 240) dX12_laysLight_216 (by exact om_0c59d38e h778) (by exact om_55d57e81 g758 b763.2 b763.1 h764) ?_
                                intro v779 h780
                                refine tr_iload_n dX12_laysLight_217 hl754 ?_
                                refine q_iaddE dX12_laysLight_218 (by intro j1 j2 j3 j4; exact om_9c2b1944 b16 b17.2 g55 h58 b763.2 b763.1 h764 h772 h774 h780 j1 j2 j4) ?_
                                intro v781 h782
                                refine q_zald dX12_laysLight_219 (kR86 hS757.1 ta775) (ti_in (nR86 hS757.1 ta775) (by exact om_468c07e2 b16 b17.2 g55 h58 g758 h772 h774 h780 h782) (by exact om_dbc51edb b16 b17.2 g55 h58 b763.2 b763.1 h764 h772 h774 h780 h782)) ?_
                                intro v783 c784
                                have b785 := iv86 hS757.1 ta775 c784
                                refine q_if_ne 236 dX12_laysLight_220 (by decide) (fun h786 => ?_) (fun h786 => ?_)
                                · skip
                                  refine q_iconst dX12_laysLight_236 (by decide) ?_
                                  intro v787 h788
                                  refine q_zast dX12_laysLight_237 (kR82 hS757.1 ta767) (ti_in (nR82 hS757.1 ta767) (by exact om_5621d170 b16 b17.2 g55 h58 g758 h772 h774 h780 h782) (by exact om_91b186de b16 b17.2 g55 h58 b763.2 b763.1 h764 h772 h774 h780 h782)) hS757 ta767 (by exact om_3b50ecb9 h788) rfl rfl (by rfl) ?_
                                  intro I789 hS790 f791
                                  refine tr_aload_n dX12_laysLight_238 hl752 ?_
                                  obtain ⟨a793, d794, ta793⟩ := rf15_23 hW0 ta0
                                  refine tr_getR dX12_laysLight_239 fl12_34 (kR15 hS790.1 ta0) d794 ?_
                                  refine q_sipush dX12_laysLight_242 (by decide +kernel) ?_
                                  intro v795 h796
                                  refine tr_iload_n dX12_laysLight_245 hl755 ?_
                                  refine q_imulE (c := 240) dX12_laysLight_246 (by exact om_0c59d38e h796) (by exact om_55d57e81 g758 b763.2 b763.1 h764) ?_
                                  intro v797 h798
                                  refine tr_iload_n dX12_laysLight_247 hl754 ?_
                                  refine q_iaddE dX12_laysLight_248 (by intro j1 j2 j3 j4; exact om_a562ab73 b16 b17.2 g55 h58 b763.2 b763.1 h764 h772 h774 h780 h782 h798 j1 j2 j4) ?_
                                  intro v799 h800
                                  refine tr_aload_n dX12_laysLight_249 hl752 ?_
                                  refine tr_getR dX12_laysLight_250 fl12_34 (kR15 hS790.1 ta0) d794 ?_
                                  refine q_sipush dX12_laysLight_253 (by decide +kernel) ?_
                                  intro v801 h802
                                  refine tr_iload_n dX12_laysLight_256 hl755 ?_
                                  refine q_imulE (c := 240) dX12_laysLight_257 (by exact om_0c59d38e h802) (by exact om_55d57e81 g758 b763.2 b763.1 h764) ?_
                                  intro v803 h804
                                  refine tr_iload_n dX12_laysLight_258 hl754 ?_
                                  refine q_iaddE dX12_laysLight_259 (by intro j1 j2 j3 j4; exact om_4596bfa3 b16 b17.2 g55 h58 b763.2 b763.1 h764 h772 h774 h780 h782 h798 h800 h804 j1 j2 j4) ?_
                                  intro v805 h806
                                  refine q_zald dX12_laysLight_260 (kR83 hS790.1 ta793) (ti_in (nR83 hS790.1 ta793) (by exact om_fb57f578 b16 b17.2 g55 h58 g758 h772 h774 h780 h782 h798 h800 h804 h806) (by exact om_d0e5c123 b16 b17.2 g55 h58 b763.2 b763.1 h764 h772 h774 h780 h782 h798 h800 h804 h806)) ?_
                                  intro v807 c808
                                  have b809 := iv83 hS790.1 ta793 c808
                                  refine q_if_ne 279 dX12_laysLight_261 (by decide) (fun h810 => ?_) (fun h810 => ?_)
                                  · skip
                                    refine q_iconst dX12_laysLight_279 (by decide) ?_
                                    intro v811 h812
                                    refine tr_goto 284 dX12_laysLight_280 (by decide) ?_
                                    refine q_zast dX12_laysLight_284 (kR83 hS790.1 ta793) (ti_in (nR83 hS790.1 ta793) (by exact om_fc63fa26 b16 b17.2 g55 h58 g758 h772 h774 h780 h782 h798 h800 h804 h806) (by exact om_918ef203 b16 b17.2 g55 h58 b763.2 b763.1 h764 h772 h774 h780 h782 h798 h800 h804 h806)) hS790 ta793 (by exact om_d753bc65 h812) rfl rfl (by rfl) ?_
                                    intro I813 hS814 f815
                                    refine q_iincE dX12_laysLight_285 hl755 (by decide) (by decide) (by intro j1 j2; exact om_82f35343 g758 b763.2 b763.1 h764 j2) ?_
                                    intro v817 h818
                                    refine tr_goto 186 dX12_laysLight_288 (by decide) ?_
                                    exact ih759 _ v817 I813 hl752 hl753 hl754 rfl hS814 (by exact om_68881c41 g758 h818) (by exact om_a8806f47 g758 hm759 b763.2 b763.1 h764 b785.2 b785.1 h786 b809.2 b809.1 h810 h818)
                                  · skip
                                    refine tr_aload_n dX12_laysLight_264 hl752 ?_
                                    refine tr_getR dX12_laysLight_265 fl12_31 (kR15 hS790.1 ta0) d768 ?_
                                    refine q_sipush dX12_laysLight_268 (by decide +kernel) ?_
                                    intro v819 h820
                                    refine tr_iload_n dX12_laysLight_271 hl755 ?_
                                    refine q_imulE (c := 240) dX12_laysLight_272 (by exact om_0c59d38e h820) (by exact om_55d57e81 g758 b763.2 b763.1 h764) ?_
                                    intro v821 h822
                                    refine tr_iload_n dX12_laysLight_273 hl754 ?_
                                    refine q_iaddE dX12_laysLight_274 (by intro j1 j2 j3 j4; exact om_f735b735 b16 b17.2 g55 h58 b763.2 b763.1 h764 h772 h774 h780 h782 h798 h800 h804 h806 h822 j1 j2 j4) ?_
                                    intro v823 h824
                                    refine q_zald dX12_laysLight_275 (kR82 hS790.1 ta767) (ti_in (nR82 hS790.1 ta767) (by exact om_c861d18e b16 b17.2 g55 h58 g758 h772 h774 h780 h782 h798 h800 h804 h806 h822 h824) (by exact om_fde598ae b16 b17.2 g55 h58 b763.2 b763.1 h764 h772 h774 h780 h782 h798 h800 h804 h806 h822 h824)) ?_
                                    intro v825 c826
                                    have b827 := iv82 hS790.1 ta767 c826
                                    refine q_if_eq 283 dX12_laysLight_276 (by decide) (fun h828 => ?_) (fun h828 => ?_)
                                    · skip
                                      refine q_iconst dX12_laysLight_283 (by decide) ?_
                                      intro v829 h830
                                      refine q_zast dX12_laysLight_284 (kR83 hS790.1 ta793) (ti_in (nR83 hS790.1 ta793) (by exact om_7ced073a b16 b17.2 g55 h58 g758 h772 h774 h780 h782 h798 h800 h804 h806 h822 h824) (by exact om_39859082 b16 b17.2 g55 h58 b763.2 b763.1 h764 h772 h774 h780 h782 h798 h800 h804 h806 h822 h824)) hS790 ta793 (by exact om_3b50ecb9 h830) rfl rfl (by rfl) ?_
                                      intro I831 hS832 f833
                                      refine q_iincE dX12_laysLight_285 hl755 (by decide) (by decide) (by intro j1 j2; exact om_82f35343 g758 b763.2 b763.1 h764 j2) ?_
                                      intro v835 h836
                                      refine tr_goto 186 dX12_laysLight_288 (by decide) ?_
                                      exact ih759 _ v835 I831 hl752 hl753 hl754 rfl hS832 (by exact om_68881c41 g758 h836) (by exact om_b9a030b3 g758 hm759 b763.2 b763.1 h764 b785.2 b785.1 h786 h836)
                                    · skip
                                      refine q_iconst dX12_laysLight_279 (by decide) ?_
                                      intro v837 h838
                                      refine tr_goto 284 dX12_laysLight_280 (by decide) ?_
                                      refine q_zast dX12_laysLight_284 (kR83 hS790.1 ta793) (ti_in (nR83 hS790.1 ta793) (by exact om_7ced073a b16 b17.2 g55 h58 g758 h772 h774 h780 h782 h798 h800 h804 h806 h822 h824) (by exact om_39859082 b16 b17.2 g55 h58 b763.2 b763.1 h764 h772 h774 h780 h782 h798 h800 h804 h806 h822 h824)) hS790 ta793 (by exact om_d753bc65 h838) rfl rfl (by rfl) ?_
                                      intro I839 hS840 f841
                                      refine q_iincE dX12_laysLight_285 hl755 (by decide) (by decide) (by intro j1 j2; exact om_82f35343 g758 b763.2 b763.1 h764 j2) ?_
                                      intro v843 h844
                                      refine tr_goto 186 dX12_laysLight_288 (by decide) ?_
                                      exact ih759 _ v843 I839 hl752 hl753 hl754 rfl hS840 (by exact om_68881c41 g758 h844) (by exact om_a8806f47 g758 hm759 b763.2 b763.1 h764 b785.2 b785.1 h786 b827.2 b827.1 h828 h844)
                                · skip
                                  refine tr_aload_n dX12_laysLight_223 hl752 ?_
                                  refine tr_getR dX12_laysLight_224 fl12_27 (kR15 hS757.1 ta0) d60 ?_
                                  refine tr_iload_n dX12_laysLight_227 hl754 ?_
                                  refine q_zald dX12_laysLight_228 (kR81 hS757.1 ta59) (ti_in (nR81 hS757.1 ta59) (by exact om_2cfcd5a5 g55) (by exact om_7015c486 b16 b17.2 h58 h772 h774 h780 h782)) ?_
                                  intro v845 c846
                                  have b847 := iv81 hS757.1 ta59 c846
                                  refine q_if_eq 236 dX12_laysLight_229 (by decide) (fun h848 => ?_) (fun h848 => ?_)
                                  · skip
                                    refine q_iconst dX12_laysLight_236 (by decide) ?_
                                    intro v849 h850
                                    refine q_zast dX12_laysLight_237 (kR82 hS757.1 ta767) (ti_in (nR82 hS757.1 ta767) (by exact om_5621d170 b16 b17.2 g55 h58 g758 h772 h774 h780 h782) (by exact om_91b186de b16 b17.2 g55 h58 b763.2 b763.1 h764 h772 h774 h780 h782)) hS757 ta767 (by exact om_3b50ecb9 h850) rfl rfl (by rfl) ?_
                                    intro I851 hS852 f853
                                    refine tr_aload_n dX12_laysLight_238 hl752 ?_
                                    obtain ⟨a855, d856, ta855⟩ := rf15_23 hW0 ta0
                                    refine tr_getR dX12_laysLight_239 fl12_34 (kR15 hS852.1 ta0) d856 ?_
                                    refine q_sipush dX12_laysLight_242 (by decide +kernel) ?_
                                    intro v857 h858
                                    refine tr_iload_n dX12_laysLight_245 hl755 ?_
                                    refine q_imulE (c := 240) dX12_laysLight_246 (by exact om_0c59d38e h858) (by exact om_55d57e81 g758 b763.2 b763.1 h764) ?_
                                    intro v859 h860
                                    refine tr_iload_n dX12_laysLight_247 hl754 ?_
                                    refine q_iaddE dX12_laysLight_248 (by intro j1 j2 j3 j4; exact om_a562ab73 b16 b17.2 g55 h58 b763.2 b763.1 h764 h772 h774 h780 h782 h860 j1 j2 j4) ?_
                                    intro v861 h862
                                    refine tr_aload_n dX12_laysLight_249 hl752 ?_
                                    refine tr_getR dX12_laysLight_250 fl12_34 (kR15 hS852.1 ta0) d856 ?_
                                    refine q_sipush dX12_laysLight_253 (by decide +kernel) ?_
                                    intro v863 h864
                                    refine tr_iload_n dX12_laysLight_256 hl755 ?_
                                    refine q_imulE (c := 240) dX12_laysLight_257 (by exact om_0c59d38e h864) (by exact om_55d57e81 g758 b763.2 b763.1 h764) ?_
                                    intro v865 h866
                                    refine tr_iload_n dX12_laysLight_258 hl754 ?_
                                    refine q_iaddE dX12_laysLight_259 (by intro j1 j2 j3 j4; exact om_4596bfa3 b16 b17.2 g55 h58 b763.2 b763.1 h764 h772 h774 h780 h782 h860 h862 h866 j1 j2 j4) ?_
                                    intro v867 h868
                                    refine q_zald dX12_laysLight_260 (kR83 hS852.1 ta855) (ti_in (nR83 hS852.1 ta855) (by exact om_fb57f578 b16 b17.2 g55 h58 g758 h772 h774 h780 h782 h860 h862 h866 h868) (by exact om_d0e5c123 b16 b17.2 g55 h58 b763.2 b763.1 h764 h772 h774 h780 h782 h860 h862 h866 h868)) ?_
                                    intro v869 c870
                                    have b871 := iv83 hS852.1 ta855 c870
                                    refine q_if_ne 279 dX12_laysLight_261 (by decide) (fun h872 => ?_) (fun h872 => ?_)
                                    · skip
                                      refine q_iconst dX12_laysLight_279 (by decide) ?_
                                      intro v873 h874
                                      refine tr_goto 284 dX12_laysLight_280 (by decide) ?_
                                      refine q_zast dX12_laysLight_284 (kR83 hS852.1 ta855) (ti_in (nR83 hS852.1 ta855) (by exact om_fc63fa26 b16 b17.2 g55 h58 g758 h772 h774 h780 h782 h860 h862 h866 h868) (by exact om_918ef203 b16 b17.2 g55 h58 b763.2 b763.1 h764 h772 h774 h780 h782 h860 h862 h866 h868)) hS852 ta855 (by exact om_d753bc65 h874) rfl rfl (by rfl) ?_
                                      intro I875 hS876 f877
                                      refine q_iincE dX12_laysLight_285 hl755 (by decide) (by decide) (by intro j1 j2; exact om_82f35343 g758 b763.2 b763.1 h764 j2) ?_
                                      intro v879 h880
                                      refine tr_goto 186 dX12_laysLight_288 (by decide) ?_
                                      exact ih759 _ v879 I875 hl752 hl753 hl754 rfl hS876 (by exact om_68881c41 g758 h880) (by exact om_b9a030b3 g758 hm759 b763.2 b763.1 h764 b871.2 b871.1 h872 h880)
                                    · skip
                                      refine tr_aload_n dX12_laysLight_264 hl752 ?_
                                      refine tr_getR dX12_laysLight_265 fl12_31 (kR15 hS852.1 ta0) d768 ?_
                                      refine q_sipush dX12_laysLight_268 (by decide +kernel) ?_
                                      intro v881 h882
                                      refine tr_iload_n dX12_laysLight_271 hl755 ?_
                                      refine q_imulE (c := 240) dX12_laysLight_272 (by exact om_0c59d38e h882) (by exact om_55d57e81 g758 b763.2 b763.1 h764) ?_
                                      intro v883 h884
                                      refine tr_iload_n dX12_laysLight_273 hl754 ?_
                                      refine q_iaddE dX12_laysLight_274 (by intro j1 j2 j3 j4; exact om_f735b735 b16 b17.2 g55 h58 b763.2 b763.1 h764 h772 h774 h780 h782 h860 h862 h866 h868 h884 j1 j2 j4) ?_
                                      intro v885 h886
                                      refine q_zald dX12_laysLight_275 (kR82 hS852.1 ta767) (ti_in (nR82 hS852.1 ta767) (by exact om_c861d18e b16 b17.2 g55 h58 g758 h772 h774 h780 h782 h860 h862 h866 h868 h884 h886) (by exact om_fde598ae b16 b17.2 g55 h58 b763.2 b763.1 h764 h772 h774 h780 h782 h860 h862 h866 h868 h884 h886)) ?_
                                      intro v887 c888
                                      have b889 := iv82 hS852.1 ta767 c888
                                      refine q_if_eq 283 dX12_laysLight_276 (by decide) (fun h890 => ?_) (fun h890 => ?_)
                                      · skip
                                        refine q_iconst dX12_laysLight_283 (by decide) ?_
                                        intro v891 h892
                                        refine q_zast dX12_laysLight_284 (kR83 hS852.1 ta855) (ti_in (nR83 hS852.1 ta855) (by exact om_7ced073a b16 b17.2 g55 h58 g758 h772 h774 h780 h782 h860 h862 h866 h868 h884 h886) (by exact om_39859082 b16 b17.2 g55 h58 b763.2 b763.1 h764 h772 h774 h780 h782 h860 h862 h866 h868 h884 h886)) hS852 ta855 (by exact om_3b50ecb9 h892) rfl rfl (by rfl) ?_
                                        intro I893 hS894 f895
                                        refine q_iincE dX12_laysLight_285 hl755 (by decide) (by decide) (by intro j1 j2; exact om_82f35343 g758 b763.2 b763.1 h764 j2) ?_
                                        intro v897 h898
                                        refine tr_goto 186 dX12_laysLight_288 (by decide) ?_
                                        exact ih759 _ v897 I893 hl752 hl753 hl754 rfl hS894 (by exact om_68881c41 g758 h898) (by exact om_494920c9 g758 hm759 b763.2 b763.1 h764 h898)
                                      · skip
                                        refine q_iconst dX12_laysLight_279 (by decide) ?_
                                        intro v899 h900
                                        refine tr_goto 284 dX12_laysLight_280 (by decide) ?_
                                        refine q_zast dX12_laysLight_284 (kR83 hS852.1 ta855) (ti_in (nR83 hS852.1 ta855) (by exact om_7ced073a b16 b17.2 g55 h58 g758 h772 h774 h780 h782 h860 h862 h866 h868 h884 h886) (by exact om_39859082 b16 b17.2 g55 h58 b763.2 b763.1 h764 h772 h774 h780 h782 h860 h862 h866 h868 h884 h886)) hS852 ta855 (by exact om_d753bc65 h900) rfl rfl (by rfl) ?_
                                        intro I901 hS902 f903
                                        refine q_iincE dX12_laysLight_285 hl755 (by decide) (by decide) (by intro j1 j2; exact om_82f35343 g758 b763.2 b763.1 h764 j2) ?_
                                        intro v905 h906
                                        refine tr_goto 186 dX12_laysLight_288 (by decide) ?_
                                        exact ih759 _ v905 I901 hl752 hl753 hl754 rfl hS902 (by exact om_68881c41 g758 h906) (by exact om_b9a030b3 g758 hm759 b763.2 b763.1 h764 b889.2 b889.1 h890 h906)
                                  · skip
                                    refine q_iconst dX12_laysLight_232 (by decide) ?_
                                    intro v907 h908
                                    refine tr_goto 237 dX12_laysLight_233 (by decide) ?_
                                    refine q_zast dX12_laysLight_237 (kR82 hS757.1 ta767) (ti_in (nR82 hS757.1 ta767) (by exact om_5621d170 b16 b17.2 g55 h58 g758 h772 h774 h780 h782) (by exact om_91b186de b16 b17.2 g55 h58 b763.2 b763.1 h764 h772 h774 h780 h782)) hS757 ta767 (by exact om_d753bc65 h908) rfl rfl (by rfl) ?_
                                    intro I909 hS910 f911
                                    refine tr_aload_n dX12_laysLight_238 hl752 ?_
                                    obtain ⟨a913, d914, ta913⟩ := rf15_23 hW0 ta0
                                    refine tr_getR dX12_laysLight_239 fl12_34 (kR15 hS910.1 ta0) d914 ?_
                                    refine q_sipush dX12_laysLight_242 (by decide +kernel) ?_
                                    intro v915 h916
                                    refine tr_iload_n dX12_laysLight_245 hl755 ?_
                                    refine q_imulE (c := 240) dX12_laysLight_246 (by exact om_0c59d38e h916) (by exact om_55d57e81 g758 b763.2 b763.1 h764) ?_
                                    intro v917 h918
                                    refine tr_iload_n dX12_laysLight_247 hl754 ?_
                                    refine q_iaddE dX12_laysLight_248 (by intro j1 j2 j3 j4; exact om_a562ab73 b16 b17.2 g55 h58 b763.2 b763.1 h764 h772 h774 h780 h782 h918 j1 j2 j4) ?_
                                    intro v919 h920
                                    refine tr_aload_n dX12_laysLight_249 hl752 ?_
                                    refine tr_getR dX12_laysLight_250 fl12_34 (kR15 hS910.1 ta0) d914 ?_
                                    refine q_sipush dX12_laysLight_253 (by decide +kernel) ?_
                                    intro v921 h922
                                    refine tr_iload_n dX12_laysLight_256 hl755 ?_
                                    refine q_imulE (c := 240) dX12_laysLight_257 (by exact om_0c59d38e h922) (by exact om_55d57e81 g758 b763.2 b763.1 h764) ?_
                                    intro v923 h924
                                    refine tr_iload_n dX12_laysLight_258 hl754 ?_
                                    refine q_iaddE dX12_laysLight_259 (by intro j1 j2 j3 j4; exact om_4596bfa3 b16 b17.2 g55 h58 b763.2 b763.1 h764 h772 h774 h780 h782 h918 h920 h924 j1 j2 j4) ?_
                                    intro v925 h926
                                    refine q_zald dX12_laysLight_260 (kR83 hS910.1 ta913) (ti_in (nR83 hS910.1 ta913) (by exact om_fb57f578 b16 b17.2 g55 h58 g758 h772 h774 h780 h782 h918 h920 h924 h926) (by exact om_d0e5c123 b16 b17.2 g55 h58 b763.2 b763.1 h764 h772 h774 h780 h782 h918 h920 h924 h926)) ?_
                                    intro v927 c928
                                    have b929 := iv83 hS910.1 ta913 c928
                                    refine q_if_ne 279 dX12_laysLight_261 (by decide) (fun h930 => ?_) (fun h930 => ?_)
                                    · skip
                                      refine q_iconst dX12_laysLight_279 (by decide) ?_
                                      intro v931 h932
                                      refine tr_goto 284 dX12_laysLight_280 (by decide) ?_
                                      refine q_zast dX12_laysLight_284 (kR83 hS910.1 ta913) (ti_in (nR83 hS910.1 ta913) (by exact om_fc63fa26 b16 b17.2 g55 h58 g758 h772 h774 h780 h782 h918 h920 h924 h926) (by exact om_918ef203 b16 b17.2 g55 h58 b763.2 b763.1 h764 h772 h774 h780 h782 h918 h920 h924 h926)) hS910 ta913 (by exact om_d753bc65 h932) rfl rfl (by rfl) ?_
                                      intro I933 hS934 f935
                                      refine q_iincE dX12_laysLight_285 hl755 (by decide) (by decide) (by intro j1 j2; exact om_82f35343 g758 b763.2 b763.1 h764 j2) ?_
                                      intro v937 h938
                                      refine tr_goto 186 dX12_laysLight_288 (by decide) ?_
                                      exact ih759 _ v937 I933 hl752 hl753 hl754 rfl hS934 (by exact om_68881c41 g758 h938) (by exact om_a8806f47 g758 hm759 b763.2 b763.1 h764 b847.2 b847.1 h848 b929.2 b929.1 h930 h938)
                                    · skip
                                      refine tr_aload_n dX12_laysLight_264 hl752 ?_
                                      refine tr_getR dX12_laysLight_265 fl12_31 (kR15 hS910.1 ta0) d768 ?_
                                      refine q_sipush dX12_laysLight_268 (by decide +kernel) ?_
                                      intro v939 h940
                                      refine tr_iload_n dX12_laysLight_271 hl755 ?_
                                      refine q_imulE (c := 240) dX12_laysLight_272 (by exact om_0c59d38e h940) (by exact om_55d57e81 g758 b763.2 b763.1 h764) ?_
                                      intro v941 h942
                                      refine tr_iload_n dX12_laysLight_273 hl754 ?_
                                      refine q_iaddE dX12_laysLight_274 (by intro j1 j2 j3 j4; exact om_f735b735 b16 b17.2 g55 h58 b763.2 b763.1 h764 h772 h774 h780 h782 h918 h920 h924 h926 h942 j1 j2 j4) ?_
                                      intro v943 h944
                                      refine q_zald dX12_laysLight_275 (kR82 hS910.1 ta767) (ti_in (nR82 hS910.1 ta767) (by exact om_c861d18e b16 b17.2 g55 h58 g758 h772 h774 h780 h782 h918 h920 h924 h926 h942 h944) (by exact om_fde598ae b16 b17.2 g55 h58 b763.2 b763.1 h764 h772 h774 h780 h782 h918 h920 h924 h926 h942 h944)) ?_
                                      intro v945 c946
                                      have b947 := iv82 hS910.1 ta767 c946
                                      refine q_if_eq 283 dX12_laysLight_276 (by decide) (fun h948 => ?_) (fun h948 => ?_)
                                      · skip
                                        refine q_iconst dX12_laysLight_283 (by decide) ?_
                                        intro v949 h950
                                        refine q_zast dX12_laysLight_284 (kR83 hS910.1 ta913) (ti_in (nR83 hS910.1 ta913) (by exact om_7ced073a b16 b17.2 g55 h58 g758 h772 h774 h780 h782 h918 h920 h924 h926 h942 h944) (by exact om_39859082 b16 b17.2 g55 h58 b763.2 b763.1 h764 h772 h774 h780 h782 h918 h920 h924 h926 h942 h944)) hS910 ta913 (by exact om_3b50ecb9 h950) rfl rfl (by rfl) ?_
                                        intro I951 hS952 f953
                                        refine q_iincE dX12_laysLight_285 hl755 (by decide) (by decide) (by intro j1 j2; exact om_82f35343 g758 b763.2 b763.1 h764 j2) ?_
                                        intro v955 h956
                                        refine tr_goto 186 dX12_laysLight_288 (by decide) ?_
                                        exact ih759 _ v955 I951 hl752 hl753 hl754 rfl hS952 (by exact om_68881c41 g758 h956) (by exact om_b9a030b3 g758 hm759 b763.2 b763.1 h764 b847.2 b847.1 h848 h956)
                                      · skip
                                        refine q_iconst dX12_laysLight_279 (by decide) ?_
                                        intro v957 h958
                                        refine tr_goto 284 dX12_laysLight_280 (by decide) ?_
                                        refine q_zast dX12_laysLight_284 (kR83 hS910.1 ta913) (ti_in (nR83 hS910.1 ta913) (by exact om_7ced073a b16 b17.2 g55 h58 g758 h772 h774 h780 h782 h918 h920 h924 h926 h942 h944) (by exact om_39859082 b16 b17.2 g55 h58 b763.2 b763.1 h764 h772 h774 h780 h782 h918 h920 h924 h926 h942 h944)) hS910 ta913 (by exact om_d753bc65 h958) rfl rfl (by rfl) ?_
                                        intro I959 hS960 f961
                                        refine q_iincE dX12_laysLight_285 hl755 (by decide) (by decide) (by intro j1 j2; exact om_82f35343 g758 b763.2 b763.1 h764 j2) ?_
                                        intro v963 h964
                                        refine tr_goto 186 dX12_laysLight_288 (by decide) ?_
                                        exact ih759 _ v963 I959 hl752 hl753 hl754 rfl hS960 (by exact om_68881c41 g758 h964) (by exact om_a8806f47 g758 hm759 b763.2 b763.1 h764 b847.2 b847.1 h848 b947.2 b947.1 h948 h964)
                          exact lp759 _ _ v749 I745 hl50 hl51 hl52 rfl hS746 (by exact om_d99fa9e4 h750) (Nat.lt_succ_self _)
              exact lp56 _ _ v47 I25 hl22 hl23 rfl hS26 (by exact om_d99fa9e4 h48) (Nat.lt_succ_self _)
            · skip
              refine tr_iload_n dX12_laysLight_95 hl24 ?_
              refine tr_iload_n dX12_laysLight_96 hl23 ?_
              refine q_icmp_eq 127 dX12_laysLight_97 (by decide) (fun h965 => ?_) (fun h965 => ?_)
              · skip
                refine q_iincE dX12_laysLight_127 hl24 (by decide) (by decide) (by intro j1 j2; exact om_9846d5c3 g27 h43.2 h43.1 h46 h965 j2) ?_
                intro v966 h967
                refine tr_goto 87 dX12_laysLight_130 (by decide) ?_
                exact ih28 _ v966 I25 hl22 hl23 rfl hS26 (by exact om_075c04dc g27 h965 h967) (by exact om_f77b6ad0 g27 hm28 h43.2 h43.1 h46 h965 h967)
              · skip
                refine tr_aload_n dX12_laysLight_100 hl22 ?_
                refine tr_iload_n dX12_laysLight_101 hl24 ?_
                refine q_callVi hE (M' := mX12_fromOf) (as := [_]) dX12_laysLight_102 lk12_395 inX12_fromOf seX12_fromOf myX12_fromOf (by decide) ⟨by decide, by decide⟩ rfl (kR15 hS26.1 ta0) (Nat.le_of_ble_eq_true rfl) rfl rfl (by decide) (by decide) (k_X12_fromOf hS26.1 ta0 (by exact om_2cfcd5a5 g27) (fun q0 z0 => fun q1 z1 => by obtain rfl := Option.some.inj ((d2).symm.trans z0); obtain rfl := Option.some.inj ((d34).symm.trans z1); (try rw [((hS26.cell ta1 (by decide +kernel)).trans c31)]); (try rw [((hS26.cell ta33 (by decide +kernel)).trans c36)]); (try exact om_af2a18fa p45 h46)) ⟨_, d2⟩) ?_
                rintro v972 cn' K' N' I968 R969 L970 ⟨rfl, rfl, rfl, rfl, rfl, rfl, h973, -⟩
                refine tr_istore_n dX12_laysLight_105 (by decide) (by decide) ?_
                have lp982 : ∀ (fu : Nat) (ls : Nat → Option Value) (v974 : Int32) (I979 : cz_I), ls 0 = some (.ref a0) → ls 1 = some (.int x1) → ls 2 = some (.int v21) → ls 3 = some (.int v974) → St T cn K N d wi_X12_laysLight wr_X12_laysLight I0 R0 I979 R0 → 0 ≤ v974.toInt → (-v974.toInt + 2147483647).toNat < fu → Tr X mX12_laysLight 106 ls [] cn K N I979 R0 L0 0 0 := by
                  intro fu
                  induction fu with
                  | zero => intros; rename_i hz; exact absurd hz (Nat.not_lt_zero _)
                  | succ fu ih982 =>
                    intro ls v974 I979 hl975 hl976 hl977 hl978 hS980 g981 hm982
                    refine tr_iload_n dX12_laysLight_106 hl978 ?_
                    refine tr_aload_n dX12_laysLight_107 hl975 ?_
                    refine tr_iload_n dX12_laysLight_108 hl977 ?_
                    refine q_callVi hE (M' := mX12_toOf) (as := [_]) dX12_laysLight_109 lk12_398 inX12_toOf seX12_toOf myX12_toOf (by decide) ⟨by decide, by decide⟩ rfl (kR15 hS980.1 ta0) (Nat.le_of_ble_eq_true rfl) rfl rfl (by decide) (by decide) (k_X12_toOf hS980.1 ta0 (by exact om_2cfcd5a5 g27) (fun q0 z0 => fun q1 z1 => by obtain rfl := Option.some.inj ((d2).symm.trans z0); obtain rfl := Option.some.inj ((d34).symm.trans z1); (try rw [((hS980.cell ta1 (by decide +kernel)).trans c31)]); (try rw [((hS980.cell ta33 (by decide +kernel)).trans c36)]); (try exact om_af2a18fa p45 h46)) ⟨_, d2⟩) ?_
                    rintro v988 cn' K' N' I984 R985 L986 ⟨rfl, rfl, rfl, rfl, rfl, rfl, h989, -⟩
                    refine q_icmp_ge 127 dX12_laysLight_112 (by decide) (fun h990 => ?_) (fun h990 => ?_)
                    · skip
                      refine q_iincE dX12_laysLight_127 hl977 (by decide) (by decide) (by have z0 := x1.toInt_lt; have y0 := x1.le_toInt; intros; omega) ?_
                      intro v991 h992
                      refine tr_goto 87 dX12_laysLight_130 (by decide) ?_
                      exact ih28 _ v991 I979 hl975 hl976 rfl hS980 (by exact om_68881c41 g27 h992) (by exact om_e72f23a5 g27 hm28 h43.2 h43.1 h46 h965 h992)
                    · skip
                      refine tr_aload_n dX12_laysLight_115 hl975 ?_
                      refine tr_iload_n dX12_laysLight_116 hl977 ?_
                      refine tr_iload_n dX12_laysLight_117 hl978 ?_
                      refine q_callVv hE (M' := mX12_marksLight) (as := [_, _]) dX12_laysLight_118 lk12_401 inX12_marksLight seX12_marksLight myX12_marksLight (by decide) ⟨by decide, by decide⟩ rfl (kR15 hS980.1 ta0) (Nat.le_of_ble_eq_true rfl) rfl rfl (by decide) (by decide) (k_X12_marksLight hS980.1 ta0 (by exact om_95f0bf21 g981 h989.2 h989.1 h990) (by exact om_2cfcd5a5 g27) ⟨_, d2⟩) ?_
                      rintro cn' K' N' I993 R994 L995 ⟨rfl, rfl, rfl, rfl, rfl, g996, -⟩
                      have hS998 := hS980.tr g996 (by decide +kernel) (by decide +kernel)
                      refine q_iincE dX12_laysLight_121 hl978 (by decide) (by decide) (by intro j1 j2; exact om_c21242c3 g981 h989.2 h989.1 h990 j2) ?_
                      intro v999 h1000
                      refine tr_goto 106 dX12_laysLight_124 (by decide) ?_
                      exact ih982 _ v999 I993 hl975 hl976 hl977 rfl hS998 (by exact om_68881c41 g981 h1000) (by exact om_c0b231d9 g981 hm982 h989.2 h989.1 h990 h1000)
                exact lp982 _ _ v972 I25 hl22 hl23 hl24 rfl hS26 (by exact om_047ac1ac h973.2 h973.1) (Nat.lt_succ_self _)
        exact lp28 _ _ v19 I9 hl6 hl7 rfl hS10 (by exact om_d99fa9e4 h20) (Nat.lt_succ_self _)
      · skip
        refine tr_aload_n dX12_laysLight_13 hl6 ?_
        obtain ⟨a1001, d1002, ta1001⟩ := rf15_21 hW0 ta0
        refine tr_getR dX12_laysLight_14 fl12_27 (kR15 hS10.1 ta0) d1002 ?_
        refine tr_iload_n dX12_laysLight_17 hl8 ?_
        refine q_iconst dX12_laysLight_18 (by decide) ?_
        intro v1003 h1004
        refine q_zast dX12_laysLight_19 (kR81 hS10.1 ta1001) (ti_in (nR81 hS10.1 ta1001) (by exact om_2cfcd5a5 g11) (by exact om_516cd055 b16 b17.2 h18)) hS10 ta1001 (by exact om_d753bc65 h1004) rfl rfl (by rfl) ?_
        intro I1005 hS1006 f1007
        refine tr_aload_n dX12_laysLight_20 hl6 ?_
        obtain ⟨a1009, d1010, ta1009⟩ := rf15_24 hW0 ta0
        refine tr_getR dX12_laysLight_21 fl12_37 (kR15 hS1006.1 ta0) d1010 ?_
        refine tr_iload_n dX12_laysLight_24 hl8 ?_
        refine q_iconst dX12_laysLight_25 (by decide) ?_
        intro v1011 h1012
        refine q_zast dX12_laysLight_26 (kR84 hS1006.1 ta1009) (ti_in (nR84 hS1006.1 ta1009) (by exact om_2cfcd5a5 g11) (by exact om_516cd055 b16 b17.2 h18)) hS1006 ta1009 (by exact om_3b50ecb9 h1012) rfl rfl (by rfl) ?_
        intro I1013 hS1014 f1015
        refine tr_aload_n dX12_laysLight_27 hl6 ?_
        obtain ⟨a1017, d1018, ta1017⟩ := rf15_25 hW0 ta0
        refine tr_getR dX12_laysLight_28 fl12_40 (kR15 hS1014.1 ta0) d1018 ?_
        refine tr_iload_n dX12_laysLight_31 hl8 ?_
        refine q_iconst dX12_laysLight_32 (by decide) ?_
        intro v1019 h1020
        refine q_zast dX12_laysLight_33 (kR85 hS1014.1 ta1017) (ti_in (nR85 hS1014.1 ta1017) (by exact om_2cfcd5a5 g11) (by exact om_516cd055 b16 b17.2 h18)) hS1014 ta1017 (by exact om_3b50ecb9 h1020) rfl rfl (by rfl) ?_
        intro I1021 hS1022 f1023
        refine q_iconst dX12_laysLight_34 (by decide) ?_
        intro v1025 h1026
        refine tr_istore_n dX12_laysLight_35 (by decide) (by decide) ?_
        have lp1035 : ∀ (fu : Nat) (ls : Nat → Option Value) (v1027 : Int32) (I1032 : cz_I), ls 0 = some (.ref a0) → ls 1 = some (.int x1) → ls 2 = some (.int v5) → ls 3 = some (.int v1027) → St T cn K N d wi_X12_laysLight wr_X12_laysLight I0 R0 I1032 R0 → 0 ≤ v1027.toInt → (-v1027.toInt + 2147483647).toNat < fu → Tr X mX12_laysLight 36 ls [] cn K N I1032 R0 L0 0 0 := by
          intro fu
          induction fu with
          | zero => intros; rename_i hz; exact absurd hz (Nat.not_lt_zero _)
          | succ fu ih1035 =>
            intro ls v1027 I1032 hl1028 hl1029 hl1030 hl1031 hS1033 g1034 hm1035
            refine tr_iload_n dX12_laysLight_36 hl1031 ?_
            refine tr_aload_n dX12_laysLight_37 hl1028 ?_
            refine tr_getR dX12_laysLight_38 fl12_385 (kR15 hS1033.1 ta0) d2 ?_
            obtain ⟨v1037, c1038⟩ : ∃ v, I0 a1 1 = v := ⟨_, rfl⟩
            have b1039 := iv14_1 hW0 ta1 c1038
            refine q_getI dX12_laysLight_41 fl12_263 (kR14 hS1033.1 ta1) ((hS1033.cell ta1 (by decide +kernel)).trans c1038) ?_
            refine q_icmp_ge 79 dX12_laysLight_44 (by decide) (fun h1040 => ?_) (fun h1040 => ?_)
            · skip
              refine q_iincE dX12_laysLight_79 hl1030 (by decide) (by decide) (by intro j1 j2; exact om_851a16a6 g11 b16 b17.2 h18 j2) ?_
              intro v1041 h1042
              refine tr_goto 2 dX12_laysLight_82 (by decide) ?_
              exact ih12 _ v1041 I1032 hl1028 hl1029 rfl hS1033 (by exact om_68881c41 g11 h1042) (by exact om_bdc53839 g11 hm12 b16 b17.2 h18 h1042)
            · skip
              refine tr_aload_n dX12_laysLight_47 hl1028 ?_
              obtain ⟨a1043, d1044, ta1043⟩ := rf15_26 hW0 ta0
              refine tr_getR dX12_laysLight_48 fl12_43 (kR15 hS1033.1 ta0) d1044 ?_
              refine q_sipush dX12_laysLight_51 (by decide +kernel) ?_
              intro v1045 h1046
              refine tr_iload_n dX12_laysLight_54 hl1031 ?_
              refine q_imulE (c := 240) dX12_laysLight_55 (by exact om_0c59d38e h1046) (by exact om_55d57e81 g1034 b1039.2 b1039.1 h1040) ?_
              intro v1047 h1048
              refine tr_iload_n dX12_laysLight_56 hl1030 ?_
              refine q_iaddE dX12_laysLight_57 (by intro j1 j2 j3 j4; exact om_912ebe15 g11 b16 b17.2 h18 b1039.2 b1039.1 h1040 h1048 j1 j2 j4) ?_
              intro v1049 h1050
              refine q_iconst dX12_laysLight_58 (by decide) ?_
              intro v1051 h1052
              refine q_zast dX12_laysLight_59 (kR86 hS1033.1 ta1043) (ti_in (nR86 hS1033.1 ta1043) (by exact om_43db6c4f g11 b16 b17.2 h18 g1034 h1048 h1050) (by exact om_52420b86 g11 b16 b17.2 h18 b1039.2 b1039.1 h1040 h1048 h1050)) hS1033 ta1043 (by exact om_3b50ecb9 h1052) rfl rfl (by rfl) ?_
              intro I1053 hS1054 f1055
              refine tr_aload_n dX12_laysLight_60 hl1028 ?_
              obtain ⟨a1057, d1058, ta1057⟩ := rf15_23 hW0 ta0
              refine tr_getR dX12_laysLight_61 fl12_34 (kR15 hS1054.1 ta0) d1058 ?_
              refine q_sipush dX12_laysLight_64 (by decide +kernel) ?_
              intro v1059 h1060
              refine tr_iload_n dX12_laysLight_67 hl1031 ?_
              refine q_imulE (c := 240) dX12_laysLight_68 (by exact om_0c59d38e h1060) (by exact om_55d57e81 g1034 b1039.2 b1039.1 h1040) ?_
              intro v1061 h1062
              refine tr_iload_n dX12_laysLight_69 hl1030 ?_
              refine q_iaddE dX12_laysLight_70 (by intro j1 j2 j3 j4; exact om_7ba69eef g11 b16 b17.2 h18 b1039.2 b1039.1 h1040 h1048 h1050 h1062 j1 j2 j4) ?_
              intro v1063 h1064
              refine q_iconst dX12_laysLight_71 (by decide) ?_
              intro v1065 h1066
              refine q_zast dX12_laysLight_72 (kR83 hS1054.1 ta1057) (ti_in (nR83 hS1054.1 ta1057) (by exact om_489ac3fb g11 b16 b17.2 h18 g1034 h1048 h1050 h1062 h1064) (by exact om_258b38d8 g11 b16 b17.2 h18 b1039.2 b1039.1 h1040 h1048 h1050 h1062 h1064)) hS1054 ta1057 (by exact om_3b50ecb9 h1066) rfl rfl (by rfl) ?_
              intro I1067 hS1068 f1069
              refine q_iincE dX12_laysLight_73 hl1031 (by decide) (by decide) (by intro j1 j2; exact om_82f35343 g1034 b1039.2 b1039.1 h1040 j2) ?_
              intro v1071 h1072
              refine tr_goto 36 dX12_laysLight_76 (by decide) ?_
              exact ih1035 _ v1071 I1067 hl1028 hl1029 hl1030 rfl hS1068 (by exact om_68881c41 g1034 h1072) (by exact om_494920c9 g1034 hm1035 b1039.2 b1039.1 h1040 h1072)
        exact lp1035 _ _ v1025 I1021 hl6 hl7 hl8 rfl hS1022 (by exact om_d99fa9e4 h1026) (Nat.lt_succ_self _)
  exact lp12 _ _ v3 I0 rfl rfl rfl hS0 (by exact om_d99fa9e4 h4) (Nat.lt_succ_self _)
def wi_X12_good : List Nat := [961, 962]
def wr_X12_good : List Nat := []
set_option maxHeartbeats 4000000 in
theorem k_X12_good {l : Launch} {T : Nat → Nat} {cn : Nat} {K N : Nat → Nat} {I0 : cz_I} {R0 : cz_R} {L0 : cz_L} {d : Int} (hW0 : Wf T cn K N I0 R0 d) {a0 : Nat} (ta0 : T a0 = 15) {x1 : Int32} : ConE l mX12_good [.ref a0, .int x1] cn K N I0 R0 L0 (ca_i (fun v cn' K' N' I' R' L' => cn = cn' ∧ K = K' ∧ N = N' ∧ R0 = R' ∧ L0 = L' ∧ St T cn K N d wi_X12_good wr_X12_good I0 R0 I' R0 ∧ True)) := by
  refine ConE.of (by decide +kernel) rfl (Nat.le_of_ble_eq_true rfl) rfl (fun X hX hZ hE => ?_)
  subst hX
  have hS0 : St T cn K N d wi_X12_good wr_X12_good I0 R0 I0 R0 := St.rf0 hW0
  refine tr_aload_n dX12_good_0 rfl ?_
  refine q_iconst dX12_good_1 (by decide) ?_
  intro v1 h2
  refine q_putI dX12_good_2 fl12_73 (kR15 hS0.1 ta0) (Or.inl rfl) hS0 ta0 (iokF rfl) rfl (by decide +kernel) ?_
  intro I3 hS4 e5 f6
  refine tr_aload_n dX12_good_5 rfl ?_
  refine q_iconst dX12_good_6 (by decide) ?_
  intro v7 h8
  refine q_putI dX12_good_7 fl12_9 (kR15 hS4.1 ta0) (Or.inl rfl) hS4 ta0 (iokF rfl) rfl (by decide +kernel) ?_
  intro I9 hS10 e11 f12
  have c13 : I9 a0 1 = v1 := (f12 _ _ (fun q => absurd q.2 (by decide))).trans e5
  refine tr_iload_n dX12_good_10 rfl ?_
  exact tr_iret hZ dX12_good_11 rfl (by decide) (by decide) ⟨x1, rfl, rfl, rfl, rfl, rfl, rfl, hS10, trivial⟩
def wi_X12_sky : List Nat := [960, 961, 962, 5247, 5311, 5375, 5439, 5503, 5567]
def wr_X12_sky : List Nat := []
set_option maxHeartbeats 4000000 in
theorem k_X12_sky {l : Launch} {T : Nat → Nat} {cn : Nat} {K N : Nat → Nat} {I0 : cz_I} {R0 : cz_R} {L0 : cz_L} {d : Int} (hW0 : Wf T cn K N I0 R0 d) {a0 : Nat} (ta0 : T a0 = 15) {x1 : Int32} : ConE l mX12_sky [.ref a0, .int x1] cn K N I0 R0 L0 (ca_i (fun v cn' K' N' I' R' L' => cn = cn' ∧ K = K' ∧ N = N' ∧ R0 = R' ∧ L0 = L' ∧ St T cn K N d wi_X12_sky wr_X12_sky I0 R0 I' R0 ∧ True)) := by
  refine ConE.of (by decide +kernel) rfl (Nat.le_of_ble_eq_true rfl) rfl (fun X hX hZ hE => ?_)
  subst hX
  have hS0 : St T cn K N d wi_X12_sky wr_X12_sky I0 R0 I0 R0 := St.rf0 hW0
  rcases rf15_3 hW0 ta0 with d2 | ⟨a1, d2, ta1⟩
  · skip
    refine tr_aload_n dX12_sky_0 rfl ?_
    refine q_iconst dX12_sky_1 (by decide) ?_
    intro v3 h4
    refine q_putI dX12_sky_2 fl12_70 (kR15 hS0.1 ta0) (Or.inl rfl) hS0 ta0 (iokF rfl) rfl (by decide +kernel) ?_
    intro I5 hS6 e7 f8
    refine tr_aload_n dX12_sky_5 rfl ?_
    refine tr_getN dX12_sky_6 fl12_385 (kR15 hS6.1 ta0) d2 ?_
    refine tr_ifnonnullN dX12_sky_9 ?_
    refine tr_aload_n dX12_sky_12 rfl ?_
    refine q_iconst dX12_sky_13 (by decide) ?_
    intro v9 h10
    refine q_callVi hE (M' := mX12_refused) (as := [_]) dX12_sky_14 lk12_76 inX12_refused seX12_refused myX12_refused (by decide) ⟨by decide, by decide⟩ rfl (kR15 hS6.1 ta0) (Nat.le_of_ble_eq_true rfl) rfl rfl (by decide) (by decide) (k_X12_refused hS6.1 ta0) ?_
    rintro v15 cn' K' N' I11 R12 L13 ⟨rfl, rfl, rfl, rfl, rfl, g14, -⟩
    have hS16 := hS6.tr g14 (by decide +kernel) (by decide +kernel)
    have c17 : I11 a0 0 = v3 := (g14.cell ta0 (by decide +kernel)).trans e7
    exact tr_iret hZ dX12_sky_17 rfl (by decide) (by decide) ⟨v15, rfl, rfl, rfl, rfl, rfl, rfl, hS16, trivial⟩
  · skip
    refine tr_aload_n dX12_sky_0 rfl ?_
    refine q_iconst dX12_sky_1 (by decide) ?_
    intro v18 h19
    refine q_putI dX12_sky_2 fl12_70 (kR15 hS0.1 ta0) (Or.inl rfl) hS0 ta0 (iokF rfl) rfl (by decide +kernel) ?_
    intro I20 hS21 e22 f23
    refine tr_aload_n dX12_sky_5 rfl ?_
    refine tr_getR dX12_sky_6 fl12_385 (kR15 hS21.1 ta0) d2 ?_
    refine tr_ifnonnull 18 dX12_sky_9 (by decide) ?_
    refine tr_aload_n dX12_sky_18 rfl ?_
    refine tr_iload_n dX12_sky_19 rfl ?_
    refine q_callVi hE (M' := mX12_isMinute) (as := [_]) dX12_sky_20 lk12_443 inX12_isMinute seX12_isMinute myX12_isMinute (by decide) ⟨by decide, by decide⟩ rfl (kR15 hS21.1 ta0) (Nat.le_of_ble_eq_true rfl) rfl rfl (by decide) (by decide) (k_X12_isMinute hS21.1 ta0 ⟨_, d2⟩) ?_
    rintro v28 cn' K' N' I24 R25 L26 ⟨rfl, rfl, rfl, rfl, rfl, rfl, h29, p30, -⟩
    refine q_if_ne 32 dX12_sky_23 (by decide) (fun h31 => ?_) (fun h31 => ?_)
    · skip
      refine tr_aload_n dX12_sky_32 rfl ?_
      refine q_iconst dX12_sky_33 (by decide) ?_
      intro v32 h33
      refine q_callVv hE (M' := mX12_laysLight) (as := [_]) dX12_sky_34 lk12_434 inX12_laysLight seX12_laysLight myX12_laysLight (by decide) ⟨by decide, by decide⟩ rfl (kR15 hS21.1 ta0) (Nat.le_of_ble_eq_true rfl) rfl rfl (by decide) (by decide) (k_X12_laysLight hS21.1 ta0 ⟨_, d2⟩) ?_
      rintro cn' K' N' I34 R35 L36 ⟨rfl, rfl, rfl, rfl, rfl, g37, -⟩
      have hS39 := hS21.tr g37 (by decide +kernel) (by decide +kernel)
      have c40 : I34 a0 0 = v18 := (g37.cell ta0 (by decide +kernel)).trans e22
      refine tr_aload_n dX12_sky_37 rfl ?_
      refine tr_aload_n dX12_sky_38 rfl ?_
      obtain ⟨a41, d42, ta41⟩ := rf15_21 hW0 ta0
      refine tr_getR dX12_sky_39 fl12_27 (kR15 hS39.1 ta0) d42 ?_
      refine tr_iload_n dX12_sky_42 rfl ?_
      refine q_zald dX12_sky_43 (kR81 hS39.1 ta41) (ti_in (nR81 hS39.1 ta41) (by exact om_3510717c h29.2 h29.1 p30 h31) (by exact om_97a3ce2b h29.2 h29.1 p30 h31)) ?_
      intro v43 c44
      have b45 := iv81 hS39.1 ta41 c44
      refine q_if_eq 51 dX12_sky_44 (by decide) (fun h46 => ?_) (fun h46 => ?_)
      · skip
        refine q_iconst dX12_sky_51 (by decide) ?_
        intro v47 h48
        refine q_callVi hE (M' := mX12_good) (as := [_]) dX12_sky_52 lk12_81 inX12_good seX12_good myX12_good (by decide) ⟨by decide, by decide⟩ rfl (kR15 hS39.1 ta0) (Nat.le_of_ble_eq_true rfl) rfl rfl (by decide) (by decide) (k_X12_good hS39.1 ta0) ?_
        rintro v53 cn' K' N' I49 R50 L51 ⟨rfl, rfl, rfl, rfl, rfl, g52, -⟩
        have hS54 := hS39.tr g52 (by decide +kernel) (by decide +kernel)
        have c55 : I49 a0 0 = v18 := (g52.cell ta0 (by decide +kernel)).trans c40
        exact tr_iret hZ dX12_sky_55 rfl (by decide) (by decide) ⟨v53, rfl, rfl, rfl, rfl, rfl, rfl, hS54, trivial⟩
      · skip
        refine q_iconst dX12_sky_47 (by decide) ?_
        intro v56 h57
        refine tr_goto 52 dX12_sky_48 (by decide) ?_
        refine q_callVi hE (M' := mX12_good) (as := [_]) dX12_sky_52 lk12_81 inX12_good seX12_good myX12_good (by decide) ⟨by decide, by decide⟩ rfl (kR15 hS39.1 ta0) (Nat.le_of_ble_eq_true rfl) rfl rfl (by decide) (by decide) (k_X12_good hS39.1 ta0) ?_
        rintro v62 cn' K' N' I58 R59 L60 ⟨rfl, rfl, rfl, rfl, rfl, g61, -⟩
        have hS63 := hS39.tr g61 (by decide +kernel) (by decide +kernel)
        have c64 : I58 a0 0 = v18 := (g61.cell ta0 (by decide +kernel)).trans c40
        exact tr_iret hZ dX12_sky_55 rfl (by decide) (by decide) ⟨v62, rfl, rfl, rfl, rfl, rfl, rfl, hS63, trivial⟩
    · skip
      refine tr_aload_n dX12_sky_26 rfl ?_
      refine q_iconst dX12_sky_27 (by decide) ?_
      intro v65 h66
      refine q_callVi hE (M' := mX12_refused) (as := [_]) dX12_sky_28 lk12_76 inX12_refused seX12_refused myX12_refused (by decide) ⟨by decide, by decide⟩ rfl (kR15 hS21.1 ta0) (Nat.le_of_ble_eq_true rfl) rfl rfl (by decide) (by decide) (k_X12_refused hS21.1 ta0) ?_
      rintro v71 cn' K' N' I67 R68 L69 ⟨rfl, rfl, rfl, rfl, rfl, g70, -⟩
      have hS72 := hS21.tr g70 (by decide +kernel) (by decide +kernel)
      have c73 : I67 a0 0 = v18 := (g70.cell ta0 (by decide +kernel)).trans e22
      exact tr_iret hZ dX12_sky_31 rfl (by decide) (by decide) ⟨v71, rfl, rfl, rfl, rfl, rfl, rfl, hS72, trivial⟩
set_option maxHeartbeats 4000000 in
theorem k_X12_isHut {l : Launch} {T : Nat → Nat} {cn : Nat} {K N : Nat → Nat} {I0 : cz_I} {R0 : cz_R} {L0 : cz_L} {d : Int} (hW0 : Wf T cn K N I0 R0 d) {a0 : Nat} (ta0 : T a0 = 15) {x1 : Int32} : ConE l mX12_isHut [.ref a0, .int x1] cn K N I0 R0 L0 (ca_i (fun v cn' K' N' I' R' L' => cn = cn' ∧ K = K' ∧ N = N' ∧ I0 = I' ∧ R0 = R' ∧ L0 = L' ∧ (0 ≤ v.toInt ∧ v.toInt ≤ 1) ∧ ((v.toInt = 1 → (0 ≤ x1.toInt ∧ x1.toInt ≤ 3))) ∧ (R0 a0 3 = none → v.toInt = 0) ∧ True)) := by
  refine ConE.of (by decide +kernel) rfl (Nat.le_of_ble_eq_true rfl) rfl (fun X hX hZ hE => ?_)
  subst hX
  rcases rf15_3 hW0 ta0 with d2 | ⟨a1, d2, ta1⟩
  · skip
    refine tr_aload_n dX12_isHut_0 rfl ?_
    refine tr_getN dX12_isHut_1 fl12_385 (kR15 hW0 ta0) d2 ?_
    refine tr_ifnullN 26 dX12_isHut_4 (by decide) ?_
    refine q_iconst dX12_isHut_26 (by decide) ?_
    intro v3 h4
    exact tr_zret hZ dX12_isHut_27 rfl (ti_b01 (by exact om_d99fa9e4 h4) (by exact om_d3de7ec9 h4)) (by decide) (by decide) ⟨v3, rfl, rfl, rfl, rfl, rfl, rfl, rfl, (by exact om_3b50ecb9 h4), (by exact om_baaf1ab0 h4), (fun _ => by exact om_29f55913 h4), trivial⟩
  · skip
    refine tr_aload_n dX12_isHut_0 rfl ?_
    refine tr_getR dX12_isHut_1 fl12_385 (kR15 hW0 ta0) d2 ?_
    refine tr_ifnull dX12_isHut_4 ?_
    refine tr_iload_n dX12_isHut_7 rfl ?_
    refine q_if_lt 26 dX12_isHut_8 (by decide) (fun h5 => ?_) (fun h5 => ?_)
    · skip
      refine q_iconst dX12_isHut_26 (by decide) ?_
      intro v6 h7
      exact tr_zret hZ dX12_isHut_27 rfl (ti_b01 (by exact om_d99fa9e4 h7) (by exact om_d3de7ec9 h7)) (by decide) (by decide) ⟨v6, rfl, rfl, rfl, rfl, rfl, rfl, rfl, (by exact om_3b50ecb9 h7), (by exact om_baaf1ab0 h7), (fun z => by rw [d2] at z; cases z), trivial⟩
    · skip
      refine tr_iload_n dX12_isHut_11 rfl ?_
      refine tr_aload_n dX12_isHut_12 rfl ?_
      refine tr_getR dX12_isHut_13 fl12_385 (kR15 hW0 ta0) d2 ?_
      obtain ⟨v8, c9⟩ : ∃ v, I0 a1 1 = v := ⟨_, rfl⟩
      have b10 := iv14_1 hW0 ta1 c9
      refine q_getI dX12_isHut_16 fl12_263 (kR14 hW0 ta1) c9 ?_
      refine q_icmp_ge 26 dX12_isHut_19 (by decide) (fun h11 => ?_) (fun h11 => ?_)
      · skip
        refine q_iconst dX12_isHut_26 (by decide) ?_
        intro v12 h13
        exact tr_zret hZ dX12_isHut_27 rfl (ti_b01 (by exact om_d99fa9e4 h13) (by exact om_d3de7ec9 h13)) (by decide) (by decide) ⟨v12, rfl, rfl, rfl, rfl, rfl, rfl, rfl, (by exact om_3b50ecb9 h13), (by exact om_baaf1ab0 h13), (fun z => by rw [d2] at z; cases z), trivial⟩
      · skip
        refine q_iconst dX12_isHut_22 (by decide) ?_
        intro v14 h15
        refine tr_goto 27 dX12_isHut_23 (by decide) ?_
        exact tr_zret hZ dX12_isHut_27 rfl (ti_b01 (by exact om_f9079521 h15) (by exact om_e6632817 h15)) (by decide) (by decide) ⟨v14, rfl, rfl, rfl, rfl, rfl, rfl, rfl, (by exact om_d753bc65 h15), (by exact om_9d00385c h5 b10.2 b10.1 h11), (fun z => by rw [d2] at z; cases z), trivial⟩
def wi_X12_light : List Nat := [960, 961, 962, 5247, 5311, 5375, 5439, 5503, 5567]
def wr_X12_light : List Nat := []
set_option maxHeartbeats 4000000 in
theorem k_X12_light {l : Launch} {T : Nat → Nat} {cn : Nat} {K N : Nat → Nat} {I0 : cz_I} {R0 : cz_R} {L0 : cz_L} {d : Int} (hW0 : Wf T cn K N I0 R0 d) {a0 : Nat} (ta0 : T a0 = 15) {x1 : Int32} {x2 : Int32} {x3 : Int32} : ConE l mX12_light [.ref a0, .int x1, .int x2, .int x3] cn K N I0 R0 L0 (ca_i (fun v cn' K' N' I' R' L' => cn = cn' ∧ K = K' ∧ N = N' ∧ R0 = R' ∧ L0 = L' ∧ St T cn K N d wi_X12_light wr_X12_light I0 R0 I' R0 ∧ True)) := by
  refine ConE.of (by decide +kernel) rfl (Nat.le_of_ble_eq_true rfl) rfl (fun X hX hZ hE => ?_)
  subst hX
  have hS0 : St T cn K N d wi_X12_light wr_X12_light I0 R0 I0 R0 := St.rf0 hW0
  rcases rf15_3 hW0 ta0 with d2 | ⟨a1, d2, ta1⟩
  · skip
    refine tr_aload_n dX12_light_0 rfl ?_
    refine q_iconst dX12_light_1 (by decide) ?_
    intro v3 h4
    refine q_putI dX12_light_2 fl12_70 (kR15 hS0.1 ta0) (Or.inl rfl) hS0 ta0 (iokF rfl) rfl (by decide +kernel) ?_
    intro I5 hS6 e7 f8
    refine tr_aload_n dX12_light_5 rfl ?_
    refine tr_iload_n dX12_light_6 rfl ?_
    refine q_callVi hE (M' := mX12_isHut) (as := [_]) dX12_light_7 lk12_446 inX12_isHut seX12_isHut myX12_isHut (by decide) ⟨by decide, by decide⟩ rfl (kR15 hS6.1 ta0) (Nat.le_of_ble_eq_true rfl) rfl rfl (by decide) (by decide) (k_X12_isHut hS6.1 ta0) ?_
    rintro v13 cn' K' N' I9 R10 L11 ⟨rfl, rfl, rfl, rfl, rfl, rfl, h14, p15, p16, -⟩
    have p17 := (p16 d2)
    refine q_if_ne 19 dX12_light_10 (by decide) (fun h18 => ?_) (fun h18 => ?_)
    · skip
      exfalso; exact om_3a97d4a5 p17 h18
    · skip
      refine tr_aload_n dX12_light_13 rfl ?_
      refine q_iconst dX12_light_14 (by decide) ?_
      intro v19 h20
      refine q_callVi hE (M' := mX12_refused) (as := [_]) dX12_light_15 lk12_76 inX12_refused seX12_refused myX12_refused (by decide) ⟨by decide, by decide⟩ rfl (kR15 hS6.1 ta0) (Nat.le_of_ble_eq_true rfl) rfl rfl (by decide) (by decide) (k_X12_refused hS6.1 ta0) ?_
      rintro v25 cn' K' N' I21 R22 L23 ⟨rfl, rfl, rfl, rfl, rfl, g24, -⟩
      have hS26 := hS6.tr g24 (by decide +kernel) (by decide +kernel)
      have c27 : I21 a0 0 = v3 := (g24.cell ta0 (by decide +kernel)).trans e7
      exact tr_iret hZ dX12_light_18 rfl (by decide) (by decide) ⟨v25, rfl, rfl, rfl, rfl, rfl, rfl, hS26, trivial⟩
  · skip
    refine tr_aload_n dX12_light_0 rfl ?_
    refine q_iconst dX12_light_1 (by decide) ?_
    intro v28 h29
    refine q_putI dX12_light_2 fl12_70 (kR15 hS0.1 ta0) (Or.inl rfl) hS0 ta0 (iokF rfl) rfl (by decide +kernel) ?_
    intro I30 hS31 e32 f33
    refine tr_aload_n dX12_light_5 rfl ?_
    refine tr_iload_n dX12_light_6 rfl ?_
    refine q_callVi hE (M' := mX12_isHut) (as := [_]) dX12_light_7 lk12_446 inX12_isHut seX12_isHut myX12_isHut (by decide) ⟨by decide, by decide⟩ rfl (kR15 hS31.1 ta0) (Nat.le_of_ble_eq_true rfl) rfl rfl (by decide) (by decide) (k_X12_isHut hS31.1 ta0) ?_
    rintro v38 cn' K' N' I34 R35 L36 ⟨rfl, rfl, rfl, rfl, rfl, rfl, h39, p40, p41, -⟩
    refine q_if_ne 19 dX12_light_10 (by decide) (fun h42 => ?_) (fun h42 => ?_)
    · skip
      refine tr_aload_n dX12_light_19 rfl ?_
      refine tr_iload_n dX12_light_20 rfl ?_
      refine q_callVi hE (M' := mX12_isMinute) (as := [_]) dX12_light_21 lk12_443 inX12_isMinute seX12_isMinute myX12_isMinute (by decide) ⟨by decide, by decide⟩ rfl (kR15 hS31.1 ta0) (Nat.le_of_ble_eq_true rfl) rfl rfl (by decide) (by decide) (k_X12_isMinute hS31.1 ta0 ⟨_, d2⟩) ?_
      rintro v47 cn' K' N' I43 R44 L45 ⟨rfl, rfl, rfl, rfl, rfl, rfl, h48, p49, -⟩
      refine q_if_ne 33 dX12_light_24 (by decide) (fun h50 => ?_) (fun h50 => ?_)
      · skip
        refine tr_aload_n dX12_light_33 rfl ?_
        refine q_iconst dX12_light_34 (by decide) ?_
        intro v51 h52
        refine q_callVv hE (M' := mX12_laysLight) (as := [_]) dX12_light_35 lk12_434 inX12_laysLight seX12_laysLight myX12_laysLight (by decide) ⟨by decide, by decide⟩ rfl (kR15 hS31.1 ta0) (Nat.le_of_ble_eq_true rfl) rfl rfl (by decide) (by decide) (k_X12_laysLight hS31.1 ta0 ⟨_, d2⟩) ?_
        rintro cn' K' N' I53 R54 L55 ⟨rfl, rfl, rfl, rfl, rfl, g56, -⟩
        have hS58 := hS31.tr g56 (by decide +kernel) (by decide +kernel)
        have c59 : I53 a0 0 = v28 := (g56.cell ta0 (by decide +kernel)).trans e32
        refine tr_aload_n dX12_light_38 rfl ?_
        refine tr_iload_n dX12_light_39 rfl ?_
        refine q_if_eq 61 dX12_light_40 (by decide) (fun h60 => ?_) (fun h60 => ?_)
        · skip
          refine tr_aload_n dX12_light_61 rfl ?_
          obtain ⟨a61, d62, ta61⟩ := rf15_22 hW0 ta0
          refine tr_getR dX12_light_62 fl12_31 (kR15 hS58.1 ta0) d62 ?_
          refine q_sipush dX12_light_65 (by decide +kernel) ?_
          intro v63 h64
          refine tr_iload_n dX12_light_68 rfl ?_
          refine q_imulE (c := 240) dX12_light_69 (by exact om_0c59d38e h64) (by exact om_34f0e654 h39.2 h39.1 p40 h42 h48.2 h48.1 p49 h50) ?_
          intro v65 h66
          refine tr_iload_n dX12_light_70 rfl ?_
          refine q_iaddE dX12_light_71 (by intro j1 j2 j3 j4; exact om_56a9b8bb h39.2 h39.1 p40 h42 h48.2 h48.1 p49 h50 h66 j1 j2 j3 j4) ?_
          intro v67 h68
          refine q_zald dX12_light_72 (kR82 hS58.1 ta61) (ti_in (nR82 hS58.1 ta61) (by exact om_893a77ac h39.2 h39.1 p40 h42 h48.2 h48.1 p49 h50 h66 h68) (by exact om_9e08b899 h39.2 h39.1 p40 h42 h48.2 h48.1 p49 h50 h66 h68)) ?_
          intro v69 c70
          have b71 := iv82 hS58.1 ta61 c70
          refine q_if_eq 80 dX12_light_73 (by decide) (fun h72 => ?_) (fun h72 => ?_)
          · skip
            refine q_iconst dX12_light_80 (by decide) ?_
            intro v73 h74
            refine q_callVi hE (M' := mX12_good) (as := [_]) dX12_light_81 lk12_81 inX12_good seX12_good myX12_good (by decide) ⟨by decide, by decide⟩ rfl (kR15 hS58.1 ta0) (Nat.le_of_ble_eq_true rfl) rfl rfl (by decide) (by decide) (k_X12_good hS58.1 ta0) ?_
            rintro v79 cn' K' N' I75 R76 L77 ⟨rfl, rfl, rfl, rfl, rfl, g78, -⟩
            have hS80 := hS58.tr g78 (by decide +kernel) (by decide +kernel)
            have c81 : I75 a0 0 = v28 := (g78.cell ta0 (by decide +kernel)).trans c59
            exact tr_iret hZ dX12_light_84 rfl (by decide) (by decide) ⟨v79, rfl, rfl, rfl, rfl, rfl, rfl, hS80, trivial⟩
          · skip
            refine q_iconst dX12_light_76 (by decide) ?_
            intro v82 h83
            refine tr_goto 81 dX12_light_77 (by decide) ?_
            refine q_callVi hE (M' := mX12_good) (as := [_]) dX12_light_81 lk12_81 inX12_good seX12_good myX12_good (by decide) ⟨by decide, by decide⟩ rfl (kR15 hS58.1 ta0) (Nat.le_of_ble_eq_true rfl) rfl rfl (by decide) (by decide) (k_X12_good hS58.1 ta0) ?_
            rintro v88 cn' K' N' I84 R85 L86 ⟨rfl, rfl, rfl, rfl, rfl, g87, -⟩
            have hS89 := hS58.tr g87 (by decide +kernel) (by decide +kernel)
            have c90 : I84 a0 0 = v28 := (g87.cell ta0 (by decide +kernel)).trans c59
            exact tr_iret hZ dX12_light_84 rfl (by decide) (by decide) ⟨v88, rfl, rfl, rfl, rfl, rfl, rfl, hS89, trivial⟩
        · skip
          refine tr_aload_n dX12_light_43 rfl ?_
          obtain ⟨a91, d92, ta91⟩ := rf15_23 hW0 ta0
          refine tr_getR dX12_light_44 fl12_34 (kR15 hS58.1 ta0) d92 ?_
          refine q_sipush dX12_light_47 (by decide +kernel) ?_
          intro v93 h94
          refine tr_iload_n dX12_light_50 rfl ?_
          refine q_imulE (c := 240) dX12_light_51 (by exact om_0c59d38e h94) (by exact om_1e8e97b5 h39.2 h39.1 p40 h42 h48.2 h48.1 p49 h50 h60) ?_
          intro v95 h96
          refine tr_iload_n dX12_light_52 rfl ?_
          refine q_iaddE dX12_light_53 (by intro j1 j2 j3 j4; exact om_add57d93 h39.2 h39.1 p40 h42 h48.2 h48.1 p49 h50 h60 h96 j1 j2 j3 j4) ?_
          intro v97 h98
          refine q_zald dX12_light_54 (kR83 hS58.1 ta91) (ti_in (nR83 hS58.1 ta91) (by exact om_b7e8a19f h39.2 h39.1 p40 h42 h48.2 h48.1 p49 h50 h60 h96 h98) (by exact om_d5174461 h39.2 h39.1 p40 h42 h48.2 h48.1 p49 h50 h60 h96 h98)) ?_
          intro v99 c100
          have b101 := iv83 hS58.1 ta91 c100
          refine q_if_eq 80 dX12_light_55 (by decide) (fun h102 => ?_) (fun h102 => ?_)
          · skip
            refine q_iconst dX12_light_80 (by decide) ?_
            intro v103 h104
            refine q_callVi hE (M' := mX12_good) (as := [_]) dX12_light_81 lk12_81 inX12_good seX12_good myX12_good (by decide) ⟨by decide, by decide⟩ rfl (kR15 hS58.1 ta0) (Nat.le_of_ble_eq_true rfl) rfl rfl (by decide) (by decide) (k_X12_good hS58.1 ta0) ?_
            rintro v109 cn' K' N' I105 R106 L107 ⟨rfl, rfl, rfl, rfl, rfl, g108, -⟩
            have hS110 := hS58.tr g108 (by decide +kernel) (by decide +kernel)
            have c111 : I105 a0 0 = v28 := (g108.cell ta0 (by decide +kernel)).trans c59
            exact tr_iret hZ dX12_light_84 rfl (by decide) (by decide) ⟨v109, rfl, rfl, rfl, rfl, rfl, rfl, hS110, trivial⟩
          · skip
            refine tr_goto 76 dX12_light_58 (by decide) ?_
            refine q_iconst dX12_light_76 (by decide) ?_
            intro v112 h113
            refine tr_goto 81 dX12_light_77 (by decide) ?_
            refine q_callVi hE (M' := mX12_good) (as := [_]) dX12_light_81 lk12_81 inX12_good seX12_good myX12_good (by decide) ⟨by decide, by decide⟩ rfl (kR15 hS58.1 ta0) (Nat.le_of_ble_eq_true rfl) rfl rfl (by decide) (by decide) (k_X12_good hS58.1 ta0) ?_
            rintro v118 cn' K' N' I114 R115 L116 ⟨rfl, rfl, rfl, rfl, rfl, g117, -⟩
            have hS119 := hS58.tr g117 (by decide +kernel) (by decide +kernel)
            have c120 : I114 a0 0 = v28 := (g117.cell ta0 (by decide +kernel)).trans c59
            exact tr_iret hZ dX12_light_84 rfl (by decide) (by decide) ⟨v118, rfl, rfl, rfl, rfl, rfl, rfl, hS119, trivial⟩
      · skip
        refine tr_aload_n dX12_light_27 rfl ?_
        refine q_iconst dX12_light_28 (by decide) ?_
        intro v121 h122
        refine q_callVi hE (M' := mX12_refused) (as := [_]) dX12_light_29 lk12_76 inX12_refused seX12_refused myX12_refused (by decide) ⟨by decide, by decide⟩ rfl (kR15 hS31.1 ta0) (Nat.le_of_ble_eq_true rfl) rfl rfl (by decide) (by decide) (k_X12_refused hS31.1 ta0) ?_
        rintro v127 cn' K' N' I123 R124 L125 ⟨rfl, rfl, rfl, rfl, rfl, g126, -⟩
        have hS128 := hS31.tr g126 (by decide +kernel) (by decide +kernel)
        have c129 : I123 a0 0 = v28 := (g126.cell ta0 (by decide +kernel)).trans e32
        exact tr_iret hZ dX12_light_32 rfl (by decide) (by decide) ⟨v127, rfl, rfl, rfl, rfl, rfl, rfl, hS128, trivial⟩
    · skip
      refine tr_aload_n dX12_light_13 rfl ?_
      refine q_iconst dX12_light_14 (by decide) ?_
      intro v130 h131
      refine q_callVi hE (M' := mX12_refused) (as := [_]) dX12_light_15 lk12_76 inX12_refused seX12_refused myX12_refused (by decide) ⟨by decide, by decide⟩ rfl (kR15 hS31.1 ta0) (Nat.le_of_ble_eq_true rfl) rfl rfl (by decide) (by decide) (k_X12_refused hS31.1 ta0) ?_
      rintro v136 cn' K' N' I132 R133 L134 ⟨rfl, rfl, rfl, rfl, rfl, g135, -⟩
      have hS137 := hS31.tr g135 (by decide +kernel) (by decide +kernel)
      have c138 : I132 a0 0 = v28 := (g135.cell ta0 (by decide +kernel)).trans e32
      exact tr_iret hZ dX12_light_18 rfl (by decide) (by decide) ⟨v136, rfl, rfl, rfl, rfl, rfl, rfl, hS137, trivial⟩
set_option maxHeartbeats 4000000 in
theorem k_X12_changesIn {l : Launch} {T : Nat → Nat} {cn : Nat} {K N : Nat → Nat} {I0 : cz_I} {R0 : cz_R} {L0 : cz_L} {d : Int} (hW0 : Wf T cn K N I0 R0 d) {a0 : Nat} (ta0 : T a0 = 15) {x1 : Int32} (hx1 : 0 ≤ x1.toInt ∧ x1.toInt ≤ 3) {x2 : Int32} (hx2 : 0 ≤ x2.toInt ∧ x2.toInt ≤ 239) : ConE l mX12_changesIn [.ref a0, .int x1, .int x2] cn K N I0 R0 L0 (ca_i (fun v cn' K' N' I' R' L' => cn = cn' ∧ K = K' ∧ N = N' ∧ I0 = I' ∧ R0 = R' ∧ L0 = L' ∧ (0 ≤ v.toInt ∧ v.toInt ≤ 1) ∧ True)) := by
  refine ConE.of (by decide +kernel) rfl (Nat.le_of_ble_eq_true rfl) rfl (fun X hX hZ hE => ?_)
  subst hX
  refine tr_iload_n dX12_changesIn_0 rfl ?_
  refine q_if_le 37 dX12_changesIn_1 (by decide) (fun h1 => ?_) (fun h1 => ?_)
  · skip
    refine q_iconst dX12_changesIn_37 (by decide) ?_
    intro v2 h3
    exact tr_zret hZ dX12_changesIn_38 rfl (ti_b01 (by exact om_d99fa9e4 h3) (by exact om_d3de7ec9 h3)) (by decide) (by decide) ⟨v2, rfl, rfl, rfl, rfl, rfl, rfl, rfl, (by exact om_3b50ecb9 h3), trivial⟩
  · skip
    refine tr_aload_n dX12_changesIn_4 rfl ?_
    obtain ⟨a4, d5, ta4⟩ := rf15_22 hW0 ta0
    refine tr_getR dX12_changesIn_5 fl12_31 (kR15 hW0 ta0) d5 ?_
    refine q_sipush dX12_changesIn_8 (by decide +kernel) ?_
    intro v6 h7
    refine tr_iload_n dX12_changesIn_11 rfl ?_
    refine q_imulE (c := 240) dX12_changesIn_12 (by exact om_0c59d38e h7) (by exact om_99db8683 hx1.2 hx1.1) ?_
    intro v8 h9
    refine tr_iload_n dX12_changesIn_13 rfl ?_
    refine q_iaddE dX12_changesIn_14 (by intro j1 j2 j3 j4; exact om_07d3d355 hx1.2 hx1.1 hx2.2 hx2.1 h1 h9 j1 j2) ?_
    intro v10 h11
    refine q_zald dX12_changesIn_15 (kR82 hW0 ta4) (ti_in (nR82 hW0 ta4) (by exact om_0a237d68 hx1.2 hx1.1 hx2.2 hx2.1 h1 h9 h11) (by exact om_ddb33957 hx1.2 hx1.1 hx2.2 hx2.1 h1 h9 h11)) ?_
    intro v12 c13
    have b14 := iv82 hW0 ta4 c13
    refine tr_aload_n dX12_changesIn_16 rfl ?_
    refine tr_getR dX12_changesIn_17 fl12_31 (kR15 hW0 ta0) d5 ?_
    refine q_sipush dX12_changesIn_20 (by decide +kernel) ?_
    intro v15 h16
    refine tr_iload_n dX12_changesIn_23 rfl ?_
    refine q_imulE (c := 240) dX12_changesIn_24 (by exact om_0c59d38e h16) (by exact om_99db8683 hx1.2 hx1.1) ?_
    intro v17 h18
    refine tr_iload_n dX12_changesIn_25 rfl ?_
    refine q_iaddE dX12_changesIn_26 (by intro j1 j2 j3 j4; exact om_3728e21b hx1.2 hx1.1 hx2.2 hx2.1 h1 h9 h11 h18 j1 j2) ?_
    intro v19 h20
    refine q_iconst dX12_changesIn_27 (by decide) ?_
    intro v21 h22
    refine q_isubE dX12_changesIn_28 (by intro j1 j2 j3 j4; exact om_1bd5b41c hx1.2 hx1.1 hx2.2 hx2.1 h1 h9 h11 h18 h20 h22 j1 j2) ?_
    intro v23 h24
    refine q_zald dX12_changesIn_29 (kR82 hW0 ta4) (ti_in (nR82 hW0 ta4) (by exact om_29e84e10 hx1.2 hx1.1 hx2.2 hx2.1 h1 h9 h11 h18 h20 h22 h24) (by exact om_37e720a9 hx1.2 hx1.1 hx2.2 hx2.1 h1 h9 h11 h18 h20 h22 h24)) ?_
    intro v25 c26
    have b27 := iv82 hW0 ta4 c26
    refine q_icmp_eq 37 dX12_changesIn_30 (by decide) (fun h28 => ?_) (fun h28 => ?_)
    · skip
      refine q_iconst dX12_changesIn_37 (by decide) ?_
      intro v29 h30
      exact tr_zret hZ dX12_changesIn_38 rfl (ti_b01 (by exact om_d99fa9e4 h30) (by exact om_d3de7ec9 h30)) (by decide) (by decide) ⟨v29, rfl, rfl, rfl, rfl, rfl, rfl, rfl, (by exact om_3b50ecb9 h30), trivial⟩
    · skip
      refine q_iconst dX12_changesIn_33 (by decide) ?_
      intro v31 h32
      refine tr_goto 38 dX12_changesIn_34 (by decide) ?_
      exact tr_zret hZ dX12_changesIn_38 rfl (ti_b01 (by exact om_f9079521 h32) (by exact om_e6632817 h32)) (by decide) (by decide) ⟨v31, rfl, rfl, rfl, rfl, rfl, rfl, rfl, (by exact om_d753bc65 h32), trivial⟩
set_option maxHeartbeats 4000000 in
theorem k_X12_seemsToIn {l : Launch} {T : Nat → Nat} {cn : Nat} {K N : Nat → Nat} {I0 : cz_I} {R0 : cz_R} {L0 : cz_L} {d : Int} (hW0 : Wf T cn K N I0 R0 d) {a0 : Nat} (ta0 : T a0 = 15) {x1 : Int32} (hx1 : 0 ≤ x1.toInt ∧ x1.toInt ≤ 3) {x2 : Int32} (hx2 : 0 ≤ x2.toInt ∧ x2.toInt ≤ 239) : ConE l mX12_seemsToIn [.ref a0, .int x1, .int x2] cn K N I0 R0 L0 (ca_i (fun v cn' K' N' I' R' L' => cn = cn' ∧ K = K' ∧ N = N' ∧ I0 = I' ∧ R0 = R' ∧ L0 = L' ∧ (0 ≤ v.toInt ∧ v.toInt ≤ 1) ∧ True)) := by
  refine ConE.of (by decide +kernel) rfl (Nat.le_of_ble_eq_true rfl) rfl (fun X hX hZ hE => ?_)
  subst hX
  refine tr_iload_n dX12_seemsToIn_0 rfl ?_
  refine q_if_le 37 dX12_seemsToIn_1 (by decide) (fun h1 => ?_) (fun h1 => ?_)
  · skip
    refine q_iconst dX12_seemsToIn_37 (by decide) ?_
    intro v2 h3
    exact tr_zret hZ dX12_seemsToIn_38 rfl (ti_b01 (by exact om_d99fa9e4 h3) (by exact om_d3de7ec9 h3)) (by decide) (by decide) ⟨v2, rfl, rfl, rfl, rfl, rfl, rfl, rfl, (by exact om_3b50ecb9 h3), trivial⟩
  · skip
    refine tr_aload_n dX12_seemsToIn_4 rfl ?_
    obtain ⟨a4, d5, ta4⟩ := rf15_23 hW0 ta0
    refine tr_getR dX12_seemsToIn_5 fl12_34 (kR15 hW0 ta0) d5 ?_
    refine q_sipush dX12_seemsToIn_8 (by decide +kernel) ?_
    intro v6 h7
    refine tr_iload_n dX12_seemsToIn_11 rfl ?_
    refine q_imulE (c := 240) dX12_seemsToIn_12 (by exact om_0c59d38e h7) (by exact om_99db8683 hx1.2 hx1.1) ?_
    intro v8 h9
    refine tr_iload_n dX12_seemsToIn_13 rfl ?_
    refine q_iaddE dX12_seemsToIn_14 (by intro j1 j2 j3 j4; exact om_07d3d355 hx1.2 hx1.1 hx2.2 hx2.1 h1 h9 j1 j2) ?_
    intro v10 h11
    refine q_zald dX12_seemsToIn_15 (kR83 hW0 ta4) (ti_in (nR83 hW0 ta4) (by exact om_0a237d68 hx1.2 hx1.1 hx2.2 hx2.1 h1 h9 h11) (by exact om_ddb33957 hx1.2 hx1.1 hx2.2 hx2.1 h1 h9 h11)) ?_
    intro v12 c13
    have b14 := iv83 hW0 ta4 c13
    refine tr_aload_n dX12_seemsToIn_16 rfl ?_
    refine tr_getR dX12_seemsToIn_17 fl12_34 (kR15 hW0 ta0) d5 ?_
    refine q_sipush dX12_seemsToIn_20 (by decide +kernel) ?_
    intro v15 h16
    refine tr_iload_n dX12_seemsToIn_23 rfl ?_
    refine q_imulE (c := 240) dX12_seemsToIn_24 (by exact om_0c59d38e h16) (by exact om_99db8683 hx1.2 hx1.1) ?_
    intro v17 h18
    refine tr_iload_n dX12_seemsToIn_25 rfl ?_
    refine q_iaddE dX12_seemsToIn_26 (by intro j1 j2 j3 j4; exact om_3728e21b hx1.2 hx1.1 hx2.2 hx2.1 h1 h9 h11 h18 j1 j2) ?_
    intro v19 h20
    refine q_iconst dX12_seemsToIn_27 (by decide) ?_
    intro v21 h22
    refine q_isubE dX12_seemsToIn_28 (by intro j1 j2 j3 j4; exact om_1bd5b41c hx1.2 hx1.1 hx2.2 hx2.1 h1 h9 h11 h18 h20 h22 j1 j2) ?_
    intro v23 h24
    refine q_zald dX12_seemsToIn_29 (kR83 hW0 ta4) (ti_in (nR83 hW0 ta4) (by exact om_29e84e10 hx1.2 hx1.1 hx2.2 hx2.1 h1 h9 h11 h18 h20 h22 h24) (by exact om_37e720a9 hx1.2 hx1.1 hx2.2 hx2.1 h1 h9 h11 h18 h20 h22 h24)) ?_
    intro v25 c26
    have b27 := iv83 hW0 ta4 c26
    refine q_icmp_eq 37 dX12_seemsToIn_30 (by decide) (fun h28 => ?_) (fun h28 => ?_)
    · skip
      refine q_iconst dX12_seemsToIn_37 (by decide) ?_
      intro v29 h30
      exact tr_zret hZ dX12_seemsToIn_38 rfl (ti_b01 (by exact om_d99fa9e4 h30) (by exact om_d3de7ec9 h30)) (by decide) (by decide) ⟨v29, rfl, rfl, rfl, rfl, rfl, rfl, rfl, (by exact om_3b50ecb9 h30), trivial⟩
    · skip
      refine q_iconst dX12_seemsToIn_33 (by decide) ?_
      intro v31 h32
      refine tr_goto 38 dX12_seemsToIn_34 (by decide) ?_
      exact tr_zret hZ dX12_seemsToIn_38 rfl (ti_b01 (by exact om_f9079521 h32) (by exact om_e6632817 h32)) (by decide) (by decide) ⟨v31, rfl, rfl, rfl, rfl, rfl, rfl, rfl, (by exact om_d753bc65 h32), trivial⟩
def wi_X12_changes : List Nat := [960, 961, 962, 5247, 5311, 5375, 5439, 5503, 5567]
def wr_X12_changes : List Nat := []
set_option maxHeartbeats 4000000 in
theorem k_X12_changes {l : Launch} {T : Nat → Nat} {cn : Nat} {K N : Nat → Nat} {I0 : cz_I} {R0 : cz_R} {L0 : cz_L} {d : Int} (hW0 : Wf T cn K N I0 R0 d) {a0 : Nat} (ta0 : T a0 = 15) {x1 : Int32} {x2 : Int32} : ConE l mX12_changes [.ref a0, .int x1, .int x2] cn K N I0 R0 L0 (ca_i (fun v cn' K' N' I' R' L' => cn = cn' ∧ K = K' ∧ N = N' ∧ R0 = R' ∧ L0 = L' ∧ St T cn K N d wi_X12_changes wr_X12_changes I0 R0 I' R0 ∧ True)) := by
  refine ConE.of (by decide +kernel) rfl (Nat.le_of_ble_eq_true rfl) rfl (fun X hX hZ hE => ?_)
  subst hX
  have hS0 : St T cn K N d wi_X12_changes wr_X12_changes I0 R0 I0 R0 := St.rf0 hW0
  rcases rf15_3 hW0 ta0 with d2 | ⟨a1, d2, ta1⟩
  · skip
    refine tr_aload_n dX12_changes_0 rfl ?_
    refine q_iconst dX12_changes_1 (by decide) ?_
    intro v3 h4
    refine q_putI dX12_changes_2 fl12_70 (kR15 hS0.1 ta0) (Or.inl rfl) hS0 ta0 (iokF rfl) rfl (by decide +kernel) ?_
    intro I5 hS6 e7 f8
    refine tr_aload_n dX12_changes_5 rfl ?_
    refine tr_iload_n dX12_changes_6 rfl ?_
    refine q_callVi hE (M' := mX12_isHut) (as := [_]) dX12_changes_7 lk12_446 inX12_isHut seX12_isHut myX12_isHut (by decide) ⟨by decide, by decide⟩ rfl (kR15 hS6.1 ta0) (Nat.le_of_ble_eq_true rfl) rfl rfl (by decide) (by decide) (k_X12_isHut hS6.1 ta0) ?_
    rintro v13 cn' K' N' I9 R10 L11 ⟨rfl, rfl, rfl, rfl, rfl, rfl, h14, p15, p16, -⟩
    have p17 := (p16 d2)
    refine q_if_ne 19 dX12_changes_10 (by decide) (fun h18 => ?_) (fun h18 => ?_)
    · skip
      exfalso; exact om_3a97d4a5 p17 h18
    · skip
      refine tr_aload_n dX12_changes_13 rfl ?_
      refine q_iconst dX12_changes_14 (by decide) ?_
      intro v19 h20
      refine q_callVi hE (M' := mX12_refused) (as := [_]) dX12_changes_15 lk12_76 inX12_refused seX12_refused myX12_refused (by decide) ⟨by decide, by decide⟩ rfl (kR15 hS6.1 ta0) (Nat.le_of_ble_eq_true rfl) rfl rfl (by decide) (by decide) (k_X12_refused hS6.1 ta0) ?_
      rintro v25 cn' K' N' I21 R22 L23 ⟨rfl, rfl, rfl, rfl, rfl, g24, -⟩
      have hS26 := hS6.tr g24 (by decide +kernel) (by decide +kernel)
      have c27 : I21 a0 0 = v3 := (g24.cell ta0 (by decide +kernel)).trans e7
      exact tr_iret hZ dX12_changes_18 rfl (by decide) (by decide) ⟨v25, rfl, rfl, rfl, rfl, rfl, rfl, hS26, trivial⟩
  · skip
    refine tr_aload_n dX12_changes_0 rfl ?_
    refine q_iconst dX12_changes_1 (by decide) ?_
    intro v28 h29
    refine q_putI dX12_changes_2 fl12_70 (kR15 hS0.1 ta0) (Or.inl rfl) hS0 ta0 (iokF rfl) rfl (by decide +kernel) ?_
    intro I30 hS31 e32 f33
    refine tr_aload_n dX12_changes_5 rfl ?_
    refine tr_iload_n dX12_changes_6 rfl ?_
    refine q_callVi hE (M' := mX12_isHut) (as := [_]) dX12_changes_7 lk12_446 inX12_isHut seX12_isHut myX12_isHut (by decide) ⟨by decide, by decide⟩ rfl (kR15 hS31.1 ta0) (Nat.le_of_ble_eq_true rfl) rfl rfl (by decide) (by decide) (k_X12_isHut hS31.1 ta0) ?_
    rintro v38 cn' K' N' I34 R35 L36 ⟨rfl, rfl, rfl, rfl, rfl, rfl, h39, p40, p41, -⟩
    refine q_if_ne 19 dX12_changes_10 (by decide) (fun h42 => ?_) (fun h42 => ?_)
    · skip
      refine tr_aload_n dX12_changes_19 rfl ?_
      refine q_iconst dX12_changes_20 (by decide) ?_
      intro v43 h44
      refine q_callVv hE (M' := mX12_laysLight) (as := [_]) dX12_changes_21 lk12_434 inX12_laysLight seX12_laysLight myX12_laysLight (by decide) ⟨by decide, by decide⟩ rfl (kR15 hS31.1 ta0) (Nat.le_of_ble_eq_true rfl) rfl rfl (by decide) (by decide) (k_X12_laysLight hS31.1 ta0 ⟨_, d2⟩) ?_
      rintro cn' K' N' I45 R46 L47 ⟨rfl, rfl, rfl, rfl, rfl, g48, -⟩
      have hS50 := hS31.tr g48 (by decide +kernel) (by decide +kernel)
      have c51 : I45 a0 0 = v28 := (g48.cell ta0 (by decide +kernel)).trans e32
      refine q_iconst dX12_changes_24 (by decide) ?_
      intro v52 h53
      refine tr_istore_n dX12_changes_25 (by decide) (by decide) ?_
      refine q_iconst dX12_changes_26 (by decide) ?_
      intro v54 h55
      refine tr_istore dX12_changes_27 (by decide) (by decide) ?_
      have lp66 : ∀ (fu : Nat) (ls : Nat → Option Value) (v56 : Int32) (v57 : Int32) (I63 : cz_I), ls 0 = some (.ref a0) → ls 1 = some (.int x1) → ls 2 = some (.int x2) → ls 3 = some (.int v56) → ls 4 = some (.int v57) → St T cn K N d wi_X12_changes wr_X12_changes I0 R0 I63 R0 → 0 ≤ v57.toInt → (-v57.toInt + 2147483647).toNat < fu → Tr X mX12_changes 29 ls [] cn K N I63 R0 L0 0 0 := by
        intro fu
        induction fu with
        | zero => intros; rename_i hz; exact absurd hz (Nat.not_lt_zero _)
        | succ fu ih66 =>
          intro ls v56 v57 I63 hl58 hl59 hl60 hl61 hl62 hS64 g65 hm66
          refine tr_iload dX12_changes_29 hl62 ?_
          refine tr_aload_n dX12_changes_31 hl58 ?_
          refine tr_getR dX12_changes_32 fl12_385 (kR15 hS64.1 ta0) d2 ?_
          obtain ⟨v68, c69⟩ : ∃ v, I0 a1 0 = v := ⟨_, rfl⟩
          have b70 := hW0.2.2.2.2.2.1 a0 ta0 _ d2
          rw [c69] at b70
          have b71 := iv14_0 hW0 ta1 c69
          refine q_getI dX12_changes_35 fl12_192 (kR14 hS64.1 ta1) ((hS64.cell ta1 (by decide +kernel)).trans c69) ?_
          refine q_icmp_ge 82 dX12_changes_38 (by decide) (fun h72 => ?_) (fun h72 => ?_)
          · skip
            refine tr_aload_n dX12_changes_82 hl58 ?_
            refine tr_iload_n dX12_changes_83 hl61 ?_
            refine q_callVi hE (M' := mX12_good) (as := [_]) dX12_changes_84 lk12_81 inX12_good seX12_good myX12_good (by decide) ⟨by decide, by decide⟩ rfl (kR15 hS64.1 ta0) (Nat.le_of_ble_eq_true rfl) rfl rfl (by decide) (by decide) (k_X12_good hS64.1 ta0) ?_
            rintro v77 cn' K' N' I73 R74 L75 ⟨rfl, rfl, rfl, rfl, rfl, g76, -⟩
            have hS78 := hS64.tr g76 (by decide +kernel) (by decide +kernel)
            exact tr_iret hZ dX12_changes_87 rfl (by decide) (by decide) ⟨v77, rfl, rfl, rfl, rfl, rfl, rfl, hS78, trivial⟩
          · skip
            refine tr_iload_n dX12_changes_41 hl61 ?_
            refine tr_iload_n dX12_changes_42 hl60 ?_
            refine q_if_eq 59 dX12_changes_43 (by decide) (fun h79 => ?_) (fun h79 => ?_)
            · skip
              refine tr_aload_n dX12_changes_59 hl58 ?_
              refine tr_iload_n dX12_changes_60 hl59 ?_
              refine tr_iload dX12_changes_61 hl62 ?_
              refine q_callVi hE (M' := mX12_changesIn) (as := [_, _]) dX12_changes_63 lk12_413 inX12_changesIn seX12_changesIn myX12_changesIn (by decide) ⟨by decide, by decide⟩ rfl (kR15 hS64.1 ta0) (Nat.le_of_ble_eq_true rfl) rfl rfl (by decide) (by decide) (k_X12_changesIn hS64.1 ta0 (by exact om_68c66040 h39.2 h39.1 p40 h42 b70 b71.2 h72) (by exact om_7b69baed g65 b70 b71.2 h72)) ?_
              rintro v84 cn' K' N' I80 R81 L82 ⟨rfl, rfl, rfl, rfl, rfl, rfl, h85, -⟩
              refine q_if_eq 73 dX12_changes_66 (by decide) (fun h86 => ?_) (fun h86 => ?_)
              · skip
                refine q_iconst dX12_changes_73 (by decide) ?_
                intro v87 h88
                refine q_iaddE dX12_changes_74 (by intro j1 j2 j3 j4; exact om_1c96de31 h88 j1 j2) ?_
                intro v89 h90
                refine tr_istore_n dX12_changes_75 (by decide) (by decide) ?_
                refine q_iincE dX12_changes_76 hl62 (by decide) (by decide) (by intro j1 j2; exact om_851a16a6 g65 b70 b71.2 h72 j2) ?_
                intro v91 h92
                refine tr_goto 29 dX12_changes_79 (by decide) ?_
                exact ih66 _ v89 v91 I63 hl58 hl59 hl60 rfl rfl hS64 (by exact om_68881c41 g65 h92) (by exact om_bdc53839 g65 hm66 b70 b71.2 h72 h92)
              · skip
                refine q_iconst dX12_changes_69 (by decide) ?_
                intro v93 h94
                refine tr_goto 74 dX12_changes_70 (by decide) ?_
                refine q_iadd dX12_changes_74 ?_
                intro v95
                refine tr_istore_n dX12_changes_75 (by decide) (by decide) ?_
                refine q_iincE dX12_changes_76 hl62 (by decide) (by decide) (by intro j1 j2; exact om_851a16a6 g65 b70 b71.2 h72 j2) ?_
                intro v96 h97
                refine tr_goto 29 dX12_changes_79 (by decide) ?_
                exact ih66 _ v95 v96 I63 hl58 hl59 hl60 rfl rfl hS64 (by exact om_68881c41 g65 h97) (by exact om_428c7b87 g65 hm66 b70 b71.2 h72 h85.2 h85.1 h86 h97)
            · skip
              refine tr_aload_n dX12_changes_46 hl58 ?_
              refine tr_iload_n dX12_changes_47 hl59 ?_
              refine tr_iload dX12_changes_48 hl62 ?_
              refine q_callVi hE (M' := mX12_seemsToIn) (as := [_, _]) dX12_changes_50 lk12_416 inX12_seemsToIn seX12_seemsToIn myX12_seemsToIn (by decide) ⟨by decide, by decide⟩ rfl (kR15 hS64.1 ta0) (Nat.le_of_ble_eq_true rfl) rfl rfl (by decide) (by decide) (k_X12_seemsToIn hS64.1 ta0 (by exact om_30121119 h39.2 h39.1 p40 h42 b70 b71.2 h72 h79) (by exact om_7b69baed g65 b70 b71.2 h72)) ?_
              rintro v102 cn' K' N' I98 R99 L100 ⟨rfl, rfl, rfl, rfl, rfl, rfl, h103, -⟩
              refine q_if_eq 73 dX12_changes_53 (by decide) (fun h104 => ?_) (fun h104 => ?_)
              · skip
                refine q_iconst dX12_changes_73 (by decide) ?_
                intro v105 h106
                refine q_iaddE dX12_changes_74 (by intro j1 j2 j3 j4; exact om_1c96de31 h106 j1 j2) ?_
                intro v107 h108
                refine tr_istore_n dX12_changes_75 (by decide) (by decide) ?_
                refine q_iincE dX12_changes_76 hl62 (by decide) (by decide) (by intro j1 j2; exact om_851a16a6 g65 b70 b71.2 h72 j2) ?_
                intro v109 h110
                refine tr_goto 29 dX12_changes_79 (by decide) ?_
                exact ih66 _ v107 v109 I63 hl58 hl59 hl60 rfl rfl hS64 (by exact om_68881c41 g65 h110) (by exact om_f0e4fca1 g65 hm66 b70 b71.2 h72 h79 h110)
              · skip
                refine tr_goto 69 dX12_changes_56 (by decide) ?_
                refine q_iconst dX12_changes_69 (by decide) ?_
                intro v111 h112
                refine tr_goto 74 dX12_changes_70 (by decide) ?_
                refine q_iadd dX12_changes_74 ?_
                intro v113
                refine tr_istore_n dX12_changes_75 (by decide) (by decide) ?_
                refine q_iincE dX12_changes_76 hl62 (by decide) (by decide) (by intro j1 j2; exact om_851a16a6 g65 b70 b71.2 h72 j2) ?_
                intro v114 h115
                refine tr_goto 29 dX12_changes_79 (by decide) ?_
                exact ih66 _ v113 v114 I63 hl58 hl59 hl60 rfl rfl hS64 (by exact om_68881c41 g65 h115) (by exact om_a03d24b4 g65 hm66 b70 b71.2 h72 h79 h103.2 h103.1 h104 h115)
      exact lp66 _ _ v52 v54 I45 rfl rfl rfl rfl rfl hS50 (by exact om_d99fa9e4 h55) (Nat.lt_succ_self _)
    · skip
      refine tr_aload_n dX12_changes_13 rfl ?_
      refine q_iconst dX12_changes_14 (by decide) ?_
      intro v116 h117
      refine q_callVi hE (M' := mX12_refused) (as := [_]) dX12_changes_15 lk12_76 inX12_refused seX12_refused myX12_refused (by decide) ⟨by decide, by decide⟩ rfl (kR15 hS31.1 ta0) (Nat.le_of_ble_eq_true rfl) rfl rfl (by decide) (by decide) (k_X12_refused hS31.1 ta0) ?_
      rintro v122 cn' K' N' I118 R119 L120 ⟨rfl, rfl, rfl, rfl, rfl, g121, -⟩
      have hS123 := hS31.tr g121 (by decide +kernel) (by decide +kernel)
      have c124 : I118 a0 0 = v28 := (g121.cell ta0 (by decide +kernel)).trans e32
      exact tr_iret hZ dX12_changes_18 rfl (by decide) (by decide) ⟨v122, rfl, rfl, rfl, rfl, rfl, rfl, hS123, trivial⟩
def wi_X12_change : List Nat := [960, 961, 962, 5247, 5311, 5375, 5439, 5503, 5567]
def wr_X12_change : List Nat := []
set_option maxHeartbeats 4000000 in
theorem k_X12_change {l : Launch} {T : Nat → Nat} {cn : Nat} {K N : Nat → Nat} {I0 : cz_I} {R0 : cz_R} {L0 : cz_L} {d : Int} (hW0 : Wf T cn K N I0 R0 d) {a0 : Nat} (ta0 : T a0 = 15) {x1 : Int32} {x2 : Int32} : ConE l mX12_change [.ref a0, .int x1, .int x2] cn K N I0 R0 L0 (ca_i (fun v cn' K' N' I' R' L' => cn = cn' ∧ K = K' ∧ N = N' ∧ R0 = R' ∧ L0 = L' ∧ St T cn K N d wi_X12_change wr_X12_change I0 R0 I' R0 ∧ True)) := by
  refine ConE.of (by decide +kernel) rfl (Nat.le_of_ble_eq_true rfl) rfl (fun X hX hZ hE => ?_)
  subst hX
  have hS0 : St T cn K N d wi_X12_change wr_X12_change I0 R0 I0 R0 := St.rf0 hW0
  rcases rf15_3 hW0 ta0 with d2 | ⟨a1, d2, ta1⟩
  · skip
    refine tr_aload_n dX12_change_0 rfl ?_
    refine q_iconst dX12_change_1 (by decide) ?_
    intro v3 h4
    refine q_putI dX12_change_2 fl12_70 (kR15 hS0.1 ta0) (Or.inl rfl) hS0 ta0 (iokF rfl) rfl (by decide +kernel) ?_
    intro I5 hS6 e7 f8
    refine tr_aload_n dX12_change_5 rfl ?_
    refine tr_iload_n dX12_change_6 rfl ?_
    refine q_callVi hE (M' := mX12_isHut) (as := [_]) dX12_change_7 lk12_446 inX12_isHut seX12_isHut myX12_isHut (by decide) ⟨by decide, by decide⟩ rfl (kR15 hS6.1 ta0) (Nat.le_of_ble_eq_true rfl) rfl rfl (by decide) (by decide) (k_X12_isHut hS6.1 ta0) ?_
    rintro v13 cn' K' N' I9 R10 L11 ⟨rfl, rfl, rfl, rfl, rfl, rfl, h14, p15, p16, -⟩
    have p17 := (p16 d2)
    refine q_if_ne 19 dX12_change_10 (by decide) (fun h18 => ?_) (fun h18 => ?_)
    · skip
      exfalso; exact om_3a97d4a5 p17 h18
    · skip
      refine tr_aload_n dX12_change_13 rfl ?_
      refine q_iconst dX12_change_14 (by decide) ?_
      intro v19 h20
      refine q_callVi hE (M' := mX12_refused) (as := [_]) dX12_change_15 lk12_76 inX12_refused seX12_refused myX12_refused (by decide) ⟨by decide, by decide⟩ rfl (kR15 hS6.1 ta0) (Nat.le_of_ble_eq_true rfl) rfl rfl (by decide) (by decide) (k_X12_refused hS6.1 ta0) ?_
      rintro v25 cn' K' N' I21 R22 L23 ⟨rfl, rfl, rfl, rfl, rfl, g24, -⟩
      have hS26 := hS6.tr g24 (by decide +kernel) (by decide +kernel)
      have c27 : I21 a0 0 = v3 := (g24.cell ta0 (by decide +kernel)).trans e7
      exact tr_iret hZ dX12_change_18 rfl (by decide) (by decide) ⟨v25, rfl, rfl, rfl, rfl, rfl, rfl, hS26, trivial⟩
  · skip
    refine tr_aload_n dX12_change_0 rfl ?_
    refine q_iconst dX12_change_1 (by decide) ?_
    intro v28 h29
    refine q_putI dX12_change_2 fl12_70 (kR15 hS0.1 ta0) (Or.inl rfl) hS0 ta0 (iokF rfl) rfl (by decide +kernel) ?_
    intro I30 hS31 e32 f33
    refine tr_aload_n dX12_change_5 rfl ?_
    refine tr_iload_n dX12_change_6 rfl ?_
    refine q_callVi hE (M' := mX12_isHut) (as := [_]) dX12_change_7 lk12_446 inX12_isHut seX12_isHut myX12_isHut (by decide) ⟨by decide, by decide⟩ rfl (kR15 hS31.1 ta0) (Nat.le_of_ble_eq_true rfl) rfl rfl (by decide) (by decide) (k_X12_isHut hS31.1 ta0) ?_
    rintro v38 cn' K' N' I34 R35 L36 ⟨rfl, rfl, rfl, rfl, rfl, rfl, h39, p40, p41, -⟩
    refine q_if_ne 19 dX12_change_10 (by decide) (fun h42 => ?_) (fun h42 => ?_)
    · skip
      refine tr_aload_n dX12_change_19 rfl ?_
      refine q_iconst dX12_change_20 (by decide) ?_
      intro v43 h44
      refine q_callVv hE (M' := mX12_laysLight) (as := [_]) dX12_change_21 lk12_434 inX12_laysLight seX12_laysLight myX12_laysLight (by decide) ⟨by decide, by decide⟩ rfl (kR15 hS31.1 ta0) (Nat.le_of_ble_eq_true rfl) rfl rfl (by decide) (by decide) (k_X12_laysLight hS31.1 ta0 ⟨_, d2⟩) ?_
      rintro cn' K' N' I45 R46 L47 ⟨rfl, rfl, rfl, rfl, rfl, g48, -⟩
      have hS50 := hS31.tr g48 (by decide +kernel) (by decide +kernel)
      have c51 : I45 a0 0 = v28 := (g48.cell ta0 (by decide +kernel)).trans e32
      refine q_iconst dX12_change_24 (by decide) ?_
      intro v52 h53
      refine tr_istore_n dX12_change_25 (by decide) (by decide) ?_
      refine q_iconst dX12_change_26 (by decide) ?_
      intro v54 h55
      refine tr_istore dX12_change_27 (by decide) (by decide) ?_
      have lp66 : ∀ (fu : Nat) (ls : Nat → Option Value) (v56 : Int32) (v57 : Int32) (I63 : cz_I), ls 0 = some (.ref a0) → ls 1 = some (.int x1) → ls 2 = some (.int x2) → ls 3 = some (.int v56) → ls 4 = some (.int v57) → St T cn K N d wi_X12_change wr_X12_change I0 R0 I63 R0 → 0 ≤ v57.toInt → (-v57.toInt + 2147483647).toNat < fu → Tr X mX12_change 29 ls [] cn K N I63 R0 L0 0 0 := by
        intro fu
        induction fu with
        | zero => intros; rename_i hz; exact absurd hz (Nat.not_lt_zero _)
        | succ fu ih66 =>
          intro ls v56 v57 I63 hl58 hl59 hl60 hl61 hl62 hS64 g65 hm66
          refine tr_iload dX12_change_29 hl62 ?_
          refine tr_aload_n dX12_change_31 hl58 ?_
          refine tr_getR dX12_change_32 fl12_385 (kR15 hS64.1 ta0) d2 ?_
          obtain ⟨v68, c69⟩ : ∃ v, I0 a1 0 = v := ⟨_, rfl⟩
          have b70 := hW0.2.2.2.2.2.1 a0 ta0 _ d2
          rw [c69] at b70
          have b71 := iv14_0 hW0 ta1 c69
          refine q_getI dX12_change_35 fl12_192 (kR14 hS64.1 ta1) ((hS64.cell ta1 (by decide +kernel)).trans c69) ?_
          refine q_icmp_ge 75 dX12_change_38 (by decide) (fun h72 => ?_) (fun h72 => ?_)
          · skip
            refine tr_aload_n dX12_change_75 hl58 ?_
            refine q_iconst dX12_change_76 (by decide) ?_
            intro v73 h74
            refine q_callVi hE (M' := mX12_refused) (as := [_]) dX12_change_77 lk12_76 inX12_refused seX12_refused myX12_refused (by decide) ⟨by decide, by decide⟩ rfl (kR15 hS64.1 ta0) (Nat.le_of_ble_eq_true rfl) rfl rfl (by decide) (by decide) (k_X12_refused hS64.1 ta0) ?_
            rintro v79 cn' K' N' I75 R76 L77 ⟨rfl, rfl, rfl, rfl, rfl, g78, -⟩
            have hS80 := hS64.tr g78 (by decide +kernel) (by decide +kernel)
            exact tr_iret hZ dX12_change_80 rfl (by decide) (by decide) ⟨v79, rfl, rfl, rfl, rfl, rfl, rfl, hS80, trivial⟩
          · skip
            refine tr_aload_n dX12_change_41 hl58 ?_
            refine tr_iload_n dX12_change_42 hl59 ?_
            refine tr_iload dX12_change_43 hl62 ?_
            refine q_callVi hE (M' := mX12_changesIn) (as := [_, _]) dX12_change_45 lk12_413 inX12_changesIn seX12_changesIn myX12_changesIn (by decide) ⟨by decide, by decide⟩ rfl (kR15 hS64.1 ta0) (Nat.le_of_ble_eq_true rfl) rfl rfl (by decide) (by decide) (k_X12_changesIn hS64.1 ta0 (by exact om_68c66040 h39.2 h39.1 p40 h42 b70 b71.2 h72) (by exact om_7b69baed g65 b70 b71.2 h72)) ?_
            rintro v85 cn' K' N' I81 R82 L83 ⟨rfl, rfl, rfl, rfl, rfl, rfl, h86, -⟩
            refine q_if_ne 54 dX12_change_48 (by decide) (fun h87 => ?_) (fun h87 => ?_)
            · skip
              refine tr_iload_n dX12_change_54 hl61 ?_
              refine tr_iload_n dX12_change_55 hl60 ?_
              refine q_icmp_ne 66 dX12_change_56 (by decide) (fun h88 => ?_) (fun h88 => ?_)
              · skip
                refine q_iinc dX12_change_66 hl61 (by decide) ?_
                intro v89
                refine q_iincE dX12_change_69 hl62 (by decide) (by decide) (by intro j1 j2; exact om_851a16a6 g65 b70 b71.2 h72 j2) ?_
                intro v90 h91
                refine tr_goto 29 dX12_change_72 (by decide) ?_
                exact ih66 _ v89 v90 I63 hl58 hl59 hl60 rfl rfl hS64 (by exact om_68881c41 g65 h91) (by exact om_72af56d9 g65 hm66 b70 b71.2 h72 h86.2 h86.1 h87 h88 h91)
              · skip
                refine tr_aload_n dX12_change_59 hl58 ?_
                refine tr_iload dX12_change_60 hl62 ?_
                refine q_callVi hE (M' := mX12_good) (as := [_]) dX12_change_62 lk12_81 inX12_good seX12_good myX12_good (by decide) ⟨by decide, by decide⟩ rfl (kR15 hS64.1 ta0) (Nat.le_of_ble_eq_true rfl) rfl rfl (by decide) (by decide) (k_X12_good hS64.1 ta0) ?_
                rintro v96 cn' K' N' I92 R93 L94 ⟨rfl, rfl, rfl, rfl, rfl, g95, -⟩
                have hS97 := hS64.tr g95 (by decide +kernel) (by decide +kernel)
                exact tr_iret hZ dX12_change_65 rfl (by decide) (by decide) ⟨v96, rfl, rfl, rfl, rfl, rfl, rfl, hS97, trivial⟩
            · skip
              refine tr_goto 69 dX12_change_51 (by decide) ?_
              refine q_iincE dX12_change_69 hl62 (by decide) (by decide) (by intro j1 j2; exact om_851a16a6 g65 b70 b71.2 h72 j2) ?_
              intro v98 h99
              refine tr_goto 29 dX12_change_72 (by decide) ?_
              exact ih66 _ v56 v98 I63 hl58 hl59 hl60 hl61 rfl hS64 (by exact om_68881c41 g65 h99) (by exact om_bdc53839 g65 hm66 b70 b71.2 h72 h99)
      exact lp66 _ _ v52 v54 I45 rfl rfl rfl rfl rfl hS50 (by exact om_d99fa9e4 h55) (Nat.lt_succ_self _)
    · skip
      refine tr_aload_n dX12_change_13 rfl ?_
      refine q_iconst dX12_change_14 (by decide) ?_
      intro v100 h101
      refine q_callVi hE (M' := mX12_refused) (as := [_]) dX12_change_15 lk12_76 inX12_refused seX12_refused myX12_refused (by decide) ⟨by decide, by decide⟩ rfl (kR15 hS31.1 ta0) (Nat.le_of_ble_eq_true rfl) rfl rfl (by decide) (by decide) (k_X12_refused hS31.1 ta0) ?_
      rintro v106 cn' K' N' I102 R103 L104 ⟨rfl, rfl, rfl, rfl, rfl, g105, -⟩
      have hS107 := hS31.tr g105 (by decide +kernel) (by decide +kernel)
      have c108 : I102 a0 0 = v28 := (g105.cell ta0 (by decide +kernel)).trans e32
      exact tr_iret hZ dX12_change_18 rfl (by decide) (by decide) ⟨v106, rfl, rfl, rfl, rfl, rfl, rfl, hS107, trivial⟩
set_option maxHeartbeats 4000000 in
theorem k_X12_dueIn {l : Launch} {T : Nat → Nat} {cn : Nat} {K N : Nat → Nat} {I0 : cz_I} {R0 : cz_R} {L0 : cz_L} {d : Int} (hW0 : Wf T cn K N I0 R0 d) {a0 : Nat} (ta0 : T a0 = 15) {x1 : Int32} (hx1 : 0 ≤ x1.toInt ∧ x1.toInt ≤ 239) (nn3 : ∃ b, R0 a0 3 = some b) : ConE l mX12_dueIn [.ref a0, .int x1] cn K N I0 R0 L0 (ca_i (fun v cn' K' N' I' R' L' => cn = cn' ∧ K = K' ∧ N = N' ∧ I0 = I' ∧ R0 = R' ∧ L0 = L' ∧ True)) := by
  refine ConE.of (by decide +kernel) rfl (Nat.le_of_ble_eq_true rfl) rfl (fun X hX hZ hE => ?_)
  subst hX
  obtain ⟨a1, d2⟩ := nn3
  have ta1 : T a1 = 14 := hW0.rsN ta0 rfl d2
  refine q_iconst dX12_dueIn_0 (by decide) ?_
  intro v3 h4
  refine tr_istore_n dX12_dueIn_1 (by decide) (by decide) ?_
  refine q_iconst dX12_dueIn_2 (by decide) ?_
  intro v5 h6
  refine tr_istore_n dX12_dueIn_3 (by decide) (by decide) ?_
  have lp14 : ∀ (fu : Nat) (ls : Nat → Option Value) (v7 : Int32) (v8 : Int32), ls 0 = some (.ref a0) → ls 1 = some (.int x1) → ls 2 = some (.int v7) → ls 3 = some (.int v8) → 0 ≤ v8.toInt → (-v8.toInt + 2147483647).toNat < fu → Tr X mX12_dueIn 4 ls [] cn K N I0 R0 L0 0 0 := by
    intro fu
    induction fu with
    | zero => intros; rename_i hz; exact absurd hz (Nat.not_lt_zero _)
    | succ fu ih14 =>
      intro ls v7 v8 hl9 hl10 hl11 hl12 g13 hm14
      refine tr_iload_n dX12_dueIn_4 hl12 ?_
      refine tr_aload_n dX12_dueIn_5 hl9 ?_
      refine tr_getR dX12_dueIn_6 fl12_385 (kR15 hW0 ta0) d2 ?_
      obtain ⟨v16, c17⟩ : ∃ v, I0 a1 3 = v := ⟨_, rfl⟩
      have b18 := iv14_3 hW0 ta1 c17
      refine q_getI dX12_dueIn_9 fl12_224 (kR14 hW0 ta1) c17 ?_
      refine q_icmp_ge 46 dX12_dueIn_12 (by decide) (fun h19 => ?_) (fun h19 => ?_)
      · skip
        refine tr_iload_n dX12_dueIn_46 hl11 ?_
        exact tr_iret hZ dX12_dueIn_47 rfl (by decide) (by decide) ⟨v7, rfl, rfl, rfl, rfl, rfl, rfl, rfl, trivial⟩
      · skip
        refine tr_iload_n dX12_dueIn_15 hl11 ?_
        refine tr_aload_n dX12_dueIn_16 hl9 ?_
        refine tr_aload_n dX12_dueIn_17 hl9 ?_
        refine tr_getR dX12_dueIn_18 fl12_385 (kR15 hW0 ta0) d2 ?_
        obtain ⟨a20, d21, ta20⟩ := rf14_15 hW0 ta1
        refine tr_getR dX12_dueIn_21 fl12_296 (kR14 hW0 ta1) d21 ?_
        refine tr_iload_n dX12_dueIn_24 hl12 ?_
        refine q_iald dX12_dueIn_25 (kR58 hW0 ta20) (ti_in (nR58 hW0 ta20) (by exact om_2cfcd5a5 g13) (by exact om_5f13cc30 b18.2 b18.1 h19)) ?_
        intro v22 c23
        have b24 := iv58 hW0 ta20 c23
        refine tr_iload_n dX12_dueIn_26 hl10 ?_
        refine q_callVi hE (M' := mX12_changesIn) (as := [_, _]) dX12_dueIn_27 lk12_413 inX12_changesIn seX12_changesIn myX12_changesIn (by decide) ⟨by decide, by decide⟩ rfl (kR15 hW0 ta0) (Nat.le_of_ble_eq_true rfl) rfl rfl (by decide) (by decide) (k_X12_changesIn hW0 ta0 (by exact om_6c59cd6a b24) (by exact om_87537644 hx1)) ?_
        rintro v29 cn' K' N' I25 R26 L27 ⟨rfl, rfl, rfl, rfl, rfl, rfl, h30, -⟩
        refine q_if_eq 37 dX12_dueIn_30 (by decide) (fun h31 => ?_) (fun h31 => ?_)
        · skip
          refine q_iconst dX12_dueIn_37 (by decide) ?_
          intro v32 h33
          refine q_iaddE dX12_dueIn_38 (by intro j1 j2 j3 j4; exact om_1c96de31 h33 j1 j2) ?_
          intro v34 h35
          refine tr_istore_n dX12_dueIn_39 (by decide) (by decide) ?_
          refine q_iincE dX12_dueIn_40 hl12 (by decide) (by decide) (by intro j1 j2; exact om_4034714d g13 b18.2 b18.1 h19 j2) ?_
          intro v36 h37
          refine tr_goto 4 dX12_dueIn_43 (by decide) ?_
          exact ih14 _ v34 v36 hl9 hl10 rfl rfl (by exact om_68881c41 g13 h37) (by exact om_fc025699 g13 hm14 b18.2 b18.1 h19 h37)
        · skip
          refine q_iconst dX12_dueIn_33 (by decide) ?_
          intro v38 h39
          refine tr_goto 38 dX12_dueIn_34 (by decide) ?_
          refine q_iadd dX12_dueIn_38 ?_
          intro v40
          refine tr_istore_n dX12_dueIn_39 (by decide) (by decide) ?_
          refine q_iincE dX12_dueIn_40 hl12 (by decide) (by decide) (by intro j1 j2; exact om_4034714d g13 b18.2 b18.1 h19 j2) ?_
          intro v41 h42
          refine tr_goto 4 dX12_dueIn_43 (by decide) ?_
          exact ih14 _ v40 v41 hl9 hl10 rfl rfl (by exact om_68881c41 g13 h42) (by exact om_ed32802d g13 hm14 b18.2 b18.1 h19 h30.2 h30.1 h31 h42)
  exact lp14 _ _ v3 v5 rfl rfl rfl rfl (by exact om_d99fa9e4 h6) (Nat.lt_succ_self _)
