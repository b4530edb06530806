set_option maxHeartbeats 4000000 in
theorem fq_X12_events {l : Launch} {T : Nat → Nat} {cn : Nat} {K N : Nat → Nat} {I0 : cz_I} {R0 : cz_R} {L0 : cz_L} {d : Int} (hW0 : Wf T cn K N I0 R0 d)  {a0 : Nat} (ta0 : T a0 = 15) (nn3 : ∃ b, R0 a0 3 = some b) : ConE l mX12_events [.ref a0] cn K N I0 R0 L0 (ca_i (fun v cn' K' N' I' R' L' => cn = cn' ∧ K = K' ∧ N = N' ∧ I0 = I' ∧ R0 = R' ∧ L0 = L' ∧ (0 ≤ v.toInt ∧ v.toInt ≤ 20) ∧ (∀ b1, R0 a0 3 = some b1 → ∀ b2, R0 a0 16 = some b2 → v.toInt = (I0 b1 2).toInt + (I0 b2 1).toInt) ∧ True)) := by
  refine ConE.of (by decide +kernel) rfl (Nat.le_of_ble_eq_true rfl) rfl (fun X hX hZ hE => ?_)
  subst hX
  obtain ⟨a1, d2⟩ := nn3
  have ta1 : T a1 = 14 := hW0.rsN ta0 rfl d2
  obtain ⟨v3, c4⟩ : ∃ v, I0 a1 2 = v := ⟨_, rfl⟩
  have b5 := iv14_2 hW0 ta1 c4
  obtain ⟨a6, d7, ta6⟩ := rf15_16 hW0 ta0
  obtain ⟨v8, c9⟩ : ∃ v, I0 a6 1 = v := ⟨_, rfl⟩
  have b10 := iv77_1 hW0 ta6 (by decide) c9
  obtain ⟨a11, d12, ta11⟩ := rf14_11 hW0 ta1
  obtain ⟨a13, d14, ta13⟩ := rf14_12 hW0 ta1
  obtain ⟨a15, d16, ta15⟩ := rf14_13 hW0 ta1
  obtain ⟨a17, d18, ta17⟩ := rf14_14 hW0 ta1
  obtain ⟨a19, d20, ta19⟩ := rf15_21 hW0 ta0
  obtain ⟨a21, d22, ta21⟩ := rf15_22 hW0 ta0
  obtain ⟨a23, d24, ta23⟩ := rf15_23 hW0 ta0
  obtain ⟨a25, d26, ta25⟩ := rf15_24 hW0 ta0
  obtain ⟨a27, d28, ta27⟩ := rf15_25 hW0 ta0
  obtain ⟨a29, d30, ta29⟩ := rf15_26 hW0 ta0
  obtain ⟨v31, c32⟩ : ∃ v, I0 a1 0 = v := ⟨_, rfl⟩
  have b33 := hW0.2.2.2.2.2.1 a0 ta0 _ d2
  rw [c32] at b33
  have b34 := iv14_0 hW0 ta1 c32
  obtain ⟨v35, c36⟩ : ∃ v, I0 a1 1 = v := ⟨_, rfl⟩
  have b37 := iv14_1 hW0 ta1 c36
  refine tr_aload_n dX12_events_0 rfl ?_
  refine tr_getR dX12_events_1 fl12_385 (kR15 hW0 ta0) d2 ?_
  refine q_getI dX12_events_4 fl12_265 (kR14 hW0 ta1) c4 ?_
  refine tr_aload_n dX12_events_7 rfl ?_
  refine tr_getR dX12_events_8 fl12_17 (kR15 hW0 ta0) d7 ?_
  refine q_iconst dX12_events_11 (by decide) ?_
  intro v38 h39
  refine q_iald dX12_events_12 (kR77 hW0 ta6) (ti_in (nR77 hW0 ta6) (by omega) (by omega)) ?_
  intro v40 c41
  rw [show v38.toNatClampNeg = 1 from ti_cl (by omega)] at c41
  obtain rfl : v8 = v40 := (c9).symm.trans c41
  refine q_iaddE dX12_events_13 (by intros; omega) ?_
  intro v42 h43
  exact tr_iret hZ dX12_events_14 rfl (by decide) (by decide) ⟨v42, rfl, rfl, rfl, rfl, rfl, rfl, rfl, (by omega), (fun q0 z0 => fun q1 z1 => by obtain rfl := Option.some.inj ((d2).symm.trans z0); obtain rfl := Option.some.inj ((d7).symm.trans z1); (try rw [c4]); (try rw [c9]); first | done | with_reducible assumption | omega), trivial⟩
set_option maxHeartbeats 4000000 in
theorem fq_X12_fromOf {l : Launch} {T : Nat → Nat} {cn : Nat} {K N : Nat → Nat} {I0 : cz_I} {R0 : cz_R} {L0 : cz_L} {d : Int} (hW0 : Wf T cn K N I0 R0 d) (gX : Nat → Nat → Int) {a0 : Nat} (ta0 : T a0 = 15) {x1 : Int32} (hX : EvY I0 R0 a0 gX) (pre0 : 0 ≤ x1.toInt) (pre1 : ∀ b1, R0 a0 3 = some b1 → ∀ b2, R0 a0 16 = some b2 → x1.toInt < (I0 b1 2).toInt + (I0 b2 1).toInt) (nn3 : ∃ b, R0 a0 3 = some b) : ConE l mX12_fromOf [.ref a0, .int x1] cn K N I0 R0 L0 (ca_i (fun v cn' K' N' I' R' L' => cn = cn' ∧ K = K' ∧ N = N' ∧ I0 = I' ∧ R0 = R' ∧ L0 = L' ∧ (0 ≤ v.toInt ∧ v.toInt ≤ 240) ∧ (v.toInt = (gX x1.toInt.toNat 2)) ∧ True)) := by
  refine ConE.of (by decide +kernel) rfl (Nat.le_of_ble_eq_true rfl) rfl (fun X hX hZ hE => ?_)
  subst hX
  obtain ⟨a1, d2⟩ := nn3
  have ta1 : T a1 = 14 := hW0.rsN ta0 rfl d2
  have p3 := pre0
  obtain ⟨v4, c5⟩ : ∃ v, I0 a1 2 = v := ⟨_, rfl⟩
  have b6 := iv14_2 hW0 ta1 c5
  obtain ⟨a7, d8, ta7⟩ := rf15_16 hW0 ta0
  obtain ⟨v9, c10⟩ : ∃ v, I0 a7 1 = v := ⟨_, rfl⟩
  have b11 := iv77_1 hW0 ta7 (by decide) c10
  have p12 := pre1 _ d2 _ d8
  rw [c5] at p12
  rw [c10] at p12
  obtain ⟨a13, d14, ta13⟩ := rf14_11 hW0 ta1
  obtain ⟨a15, d16, ta15⟩ := rf14_12 hW0 ta1
  obtain ⟨a17, d18, ta17⟩ := rf14_13 hW0 ta1
  obtain ⟨a19, d20, ta19⟩ := rf14_14 hW0 ta1
  obtain ⟨a21, d22, ta21⟩ := rf15_21 hW0 ta0
  obtain ⟨a23, d24, ta23⟩ := rf15_22 hW0 ta0
  obtain ⟨a25, d26, ta25⟩ := rf15_23 hW0 ta0
  obtain ⟨a27, d28, ta27⟩ := rf15_24 hW0 ta0
  obtain ⟨a29, d30, ta29⟩ := rf15_25 hW0 ta0
  obtain ⟨a31, d32, ta31⟩ := rf15_26 hW0 ta0
  obtain ⟨v33, c34⟩ : ∃ v, I0 a1 0 = v := ⟨_, rfl⟩
  have b35 := hW0.2.2.2.2.2.1 a0 ta0 _ d2
  rw [c34] at b35
  have b36 := iv14_0 hW0 ta1 c34
  obtain ⟨v37, c38⟩ : ∃ v, I0 a1 1 = v := ⟨_, rfl⟩
  have b39 := iv14_1 hW0 ta1 c38
  refine tr_iload_n dX12_fromOf_0 rfl ?_
  refine tr_aload_n dX12_fromOf_1 rfl ?_
  refine tr_getR dX12_fromOf_2 fl12_385 (kR15 hW0 ta0) d2 ?_
  refine q_getI dX12_fromOf_5 fl12_265 (kR14 hW0 ta1) c5 ?_
  refine q_icmp_ge 23 dX12_fromOf_8 (by decide) (fun h40 => ?_) (fun h40 => ?_)
  · skip
    refine tr_aload_n dX12_fromOf_23 rfl ?_
    refine tr_getR dX12_fromOf_24 fl12_17 (kR15 hW0 ta0) d8 ?_
    refine q_iconst dX12_fromOf_27 (by decide) ?_
    intro v41 h42
    refine tr_iload_n dX12_fromOf_28 rfl ?_
    refine q_iaddE dX12_fromOf_29 (by intros; omega) ?_
    intro v43 h44
    refine tr_aload_n dX12_fromOf_30 rfl ?_
    refine tr_getR dX12_fromOf_31 fl12_385 (kR15 hW0 ta0) d2 ?_
    refine q_getI dX12_fromOf_34 fl12_265 (kR14 hW0 ta1) c5 ?_
    refine q_isubE dX12_fromOf_37 (by intros; omega) ?_
    intro v45 h46
    refine q_iald dX12_fromOf_38 (kR77 hW0 ta7) (ti_in (nR77 hW0 ta7) (by omega) (by omega)) ?_
    intro v47 c48
    have eb50 := (hX _ _ d2 d8).1 x1.toInt.toNat (by rw [c5, c10]; omega)
    have eb50f : v47.toInt = gX x1.toInt.toNat 2 := (by have z := (hX _ _ d2 d8).2.2 (x1.toInt - v4.toInt).toNat (by rw [c10]; omega); rw [show (I0 a1 2).toInt.toNat + (x1.toInt - v4.toInt).toNat = x1.toInt.toNat by rw [c5]; omega] at z; have y := z.2.2.1; rw [show 3 + (x1.toInt - v4.toInt).toNat = v45.toNatClampNeg by have y := ti_nat (i := v45) (by omega); omega, c48] at y; exact y.symm)
    have eb50b := And.intro eb50.2.2.2.1 eb50.2.2.2.2.1
    exact tr_iret hZ dX12_fromOf_39 rfl (by decide) (by decide) ⟨v47, rfl, rfl, rfl, rfl, rfl, rfl, rfl, (by omega), (by have z := (hX _ _ d2 d8).2.2 (x1.toInt - v4.toInt).toNat (by rw [c10]; omega); rw [show (I0 a1 2).toInt.toNat + (x1.toInt - v4.toInt).toNat = x1.toInt.toNat by rw [c5]; omega] at z; have y := z.2.2.1; rw [show 3 + (x1.toInt - v4.toInt).toNat = v45.toNatClampNeg by have y := ti_nat (i := v45) (by omega); omega, c48] at y; exact y.symm), trivial⟩
  · skip
    refine tr_aload_n dX12_fromOf_11 rfl ?_
    refine tr_getR dX12_fromOf_12 fl12_385 (kR15 hW0 ta0) d2 ?_
    refine tr_getR dX12_fromOf_15 fl12_280 (kR14 hW0 ta1) d18 ?_
    refine tr_iload_n dX12_fromOf_18 rfl ?_
    refine q_iald dX12_fromOf_19 (kR56 hW0 ta17) (ti_in (nR56 hW0 ta17) (by omega) (by omega)) ?_
    intro v51 c52
    have b53 := iv56 hW0 ta17 c52
    refine tr_goto 39 dX12_fromOf_20 (by decide) ?_
    have eb54 := (hX _ _ d2 d8).1 x1.toInt.toNat (by rw [c5, c10]; omega)
    have eb54f : v51.toInt = gX x1.toInt.toNat 2 := (by have z := (hX _ _ d2 d8).2.1 2 x1.toInt.toNat _ (by omega) (by rw [c5]; omega) d18; rw [show I0 a17 x1.toInt.toNat = v51 from c52] at z; exact z)
    have eb54b := And.intro eb54.2.2.2.1 eb54.2.2.2.2.1
    exact tr_iret hZ dX12_fromOf_39 rfl (by decide) (by decide) ⟨v51, rfl, rfl, rfl, rfl, rfl, rfl, rfl, (by omega), (by have z := (hX _ _ d2 d8).2.1 2 x1.toInt.toNat _ (by omega) (by rw [c5]; omega) d18; rw [show I0 a17 x1.toInt.toNat = v51 from c52] at z; exact z), trivial⟩
set_option maxHeartbeats 4000000 in
theorem fq_X12_toOf {l : Launch} {T : Nat → Nat} {cn : Nat} {K N : Nat → Nat} {I0 : cz_I} {R0 : cz_R} {L0 : cz_L} {d : Int} (hW0 : Wf T cn K N I0 R0 d) (gX : Nat → Nat → Int) {a0 : Nat} (ta0 : T a0 = 15) {x1 : Int32} (hX : EvY I0 R0 a0 gX) (pre0 : 0 ≤ x1.toInt) (pre1 : ∀ b1, R0 a0 3 = some b1 → ∀ b2, R0 a0 16 = some b2 → x1.toInt < (I0 b1 2).toInt + (I0 b2 1).toInt) (nn3 : ∃ b, R0 a0 3 = some b) : ConE l mX12_toOf [.ref a0, .int x1] cn K N I0 R0 L0 (ca_i (fun v cn' K' N' I' R' L' => cn = cn' ∧ K = K' ∧ N = N' ∧ I0 = I' ∧ R0 = R' ∧ L0 = L' ∧ (0 ≤ v.toInt ∧ v.toInt ≤ 240) ∧ (v.toInt = (gX x1.toInt.toNat 3)) ∧ True)) := by
  refine ConE.of (by decide +kernel) rfl (Nat.le_of_ble_eq_true rfl) rfl (fun X hX hZ hE => ?_)
  subst hX
  obtain ⟨a1, d2⟩ := nn3
  have ta1 : T a1 = 14 := hW0.rsN ta0 rfl d2
  have p3 := pre0
  obtain ⟨v4, c5⟩ : ∃ v, I0 a1 2 = v := ⟨_, rfl⟩
  have b6 := iv14_2 hW0 ta1 c5
  obtain ⟨a7, d8, ta7⟩ := rf15_16 hW0 ta0
  obtain ⟨v9, c10⟩ : ∃ v, I0 a7 1 = v := ⟨_, rfl⟩
  have b11 := iv77_1 hW0 ta7 (by decide) c10
  have p12 := pre1 _ d2 _ d8
  rw [c5] at p12
  rw [c10] at p12
  obtain ⟨a13, d14, ta13⟩ := rf14_11 hW0 ta1
  obtain ⟨a15, d16, ta15⟩ := rf14_12 hW0 ta1
  obtain ⟨a17, d18, ta17⟩ := rf14_13 hW0 ta1
  obtain ⟨a19, d20, ta19⟩ := rf14_14 hW0 ta1
  obtain ⟨a21, d22, ta21⟩ := rf15_21 hW0 ta0
  obtain ⟨a23, d24, ta23⟩ := rf15_22 hW0 ta0
  obtain ⟨a25, d26, ta25⟩ := rf15_23 hW0 ta0
  obtain ⟨a27, d28, ta27⟩ := rf15_24 hW0 ta0
  obtain ⟨a29, d30, ta29⟩ := rf15_25 hW0 ta0
  obtain ⟨a31, d32, ta31⟩ := rf15_26 hW0 ta0
  obtain ⟨v33, c34⟩ : ∃ v, I0 a1 0 = v := ⟨_, rfl⟩
  have b35 := hW0.2.2.2.2.2.1 a0 ta0 _ d2
  rw [c34] at b35
  have b36 := iv14_0 hW0 ta1 c34
  obtain ⟨v37, c38⟩ : ∃ v, I0 a1 1 = v := ⟨_, rfl⟩
  have b39 := iv14_1 hW0 ta1 c38
  refine tr_iload_n dX12_toOf_0 rfl ?_
  refine tr_aload_n dX12_toOf_1 rfl ?_
  refine tr_getR dX12_toOf_2 fl12_385 (kR15 hW0 ta0) d2 ?_
  refine q_getI dX12_toOf_5 fl12_265 (kR14 hW0 ta1) c5 ?_
  refine q_icmp_ge 23 dX12_toOf_8 (by decide) (fun h40 => ?_) (fun h40 => ?_)
  · skip
    refine tr_aload_n dX12_toOf_23 rfl ?_
    refine tr_getR dX12_toOf_24 fl12_17 (kR15 hW0 ta0) d8 ?_
    refine q_bipush dX12_toOf_27 (by decide +kernel) ?_
    intro v41 h42
    refine tr_iload_n dX12_toOf_29 rfl ?_
    refine q_iaddE dX12_toOf_30 (by intros; omega) ?_
    intro v43 h44
    refine tr_aload_n dX12_toOf_31 rfl ?_
    refine tr_getR dX12_toOf_32 fl12_385 (kR15 hW0 ta0) d2 ?_
    refine q_getI dX12_toOf_35 fl12_265 (kR14 hW0 ta1) c5 ?_
    refine q_isubE dX12_toOf_38 (by intros; omega) ?_
    intro v45 h46
    refine q_iald dX12_toOf_39 (kR77 hW0 ta7) (ti_in (nR77 hW0 ta7) (by omega) (by omega)) ?_
    intro v47 c48
    have eb50 := (hX _ _ d2 d8).1 x1.toInt.toNat (by rw [c5, c10]; omega)
    have eb50f : v47.toInt = gX x1.toInt.toNat 3 := (by have z := (hX _ _ d2 d8).2.2 (x1.toInt - v4.toInt).toNat (by rw [c10]; omega); rw [show (I0 a1 2).toInt.toNat + (x1.toInt - v4.toInt).toNat = x1.toInt.toNat by rw [c5]; omega] at z; have y := z.2.2.2; rw [show 9 + (x1.toInt - v4.toInt).toNat = v45.toNatClampNeg by have y := ti_nat (i := v45) (by omega); omega, c48] at y; exact y.symm)
    have eb50b := And.intro eb50.2.2.2.2.2.1 eb50.2.2.2.2.2.2
    exact tr_iret hZ dX12_toOf_40 rfl (by decide) (by decide) ⟨v47, rfl, rfl, rfl, rfl, rfl, rfl, rfl, (by omega), (by have z := (hX _ _ d2 d8).2.2 (x1.toInt - v4.toInt).toNat (by rw [c10]; omega); rw [show (I0 a1 2).toInt.toNat + (x1.toInt - v4.toInt).toNat = x1.toInt.toNat by rw [c5]; omega] at z; have y := z.2.2.2; rw [show 9 + (x1.toInt - v4.toInt).toNat = v45.toNatClampNeg by have y := ti_nat (i := v45) (by omega); omega, c48] at y; exact y.symm), trivial⟩
  · skip
    refine tr_aload_n dX12_toOf_11 rfl ?_
    refine tr_getR dX12_toOf_12 fl12_385 (kR15 hW0 ta0) d2 ?_
    refine tr_getR dX12_toOf_15 fl12_283 (kR14 hW0 ta1) d20 ?_
    refine tr_iload_n dX12_toOf_18 rfl ?_
    refine q_iald dX12_toOf_19 (kR57 hW0 ta19) (ti_in (nR57 hW0 ta19) (by omega) (by omega)) ?_
    intro v51 c52
    have b53 := iv57 hW0 ta19 c52
    refine tr_goto 40 dX12_toOf_20 (by decide) ?_
    have eb54 := (hX _ _ d2 d8).1 x1.toInt.toNat (by rw [c5, c10]; omega)
    have eb54f : v51.toInt = gX x1.toInt.toNat 3 := (by have z := (hX _ _ d2 d8).2.1 3 x1.toInt.toNat _ (by omega) (by rw [c5]; omega) d20; rw [show I0 a19 x1.toInt.toNat = v51 from c52] at z; exact z)
    have eb54b := And.intro eb54.2.2.2.2.2.1 eb54.2.2.2.2.2.2
    exact tr_iret hZ dX12_toOf_40 rfl (by decide) (by decide) ⟨v51, rfl, rfl, rfl, rfl, rfl, rfl, rfl, (by omega), (by have z := (hX _ _ d2 d8).2.1 3 x1.toInt.toNat _ (by omega) (by rw [c5]; omega) d20; rw [show I0 a19 x1.toInt.toNat = v51 from c52] at z; exact z), trivial⟩
set_option maxHeartbeats 4000000 in
theorem fq_X12_kindOf {l : Launch} {T : Nat → Nat} {cn : Nat} {K N : Nat → Nat} {I0 : cz_I} {R0 : cz_R} {L0 : cz_L} {d : Int} (hW0 : Wf T cn K N I0 R0 d) (gX : Nat → Nat → Int) {a0 : Nat} (ta0 : T a0 = 15) {x1 : Int32} (hX : EvY I0 R0 a0 gX) (pre0 : 0 ≤ x1.toInt) (pre1 : ∀ b1, R0 a0 3 = some b1 → ∀ b2, R0 a0 16 = some b2 → x1.toInt < (I0 b1 2).toInt + (I0 b2 1).toInt) (nn3 : ∃ b, R0 a0 3 = some b) : ConE l mX12_kindOf [.ref a0, .int x1] cn K N I0 R0 L0 (ca_i (fun v cn' K' N' I' R' L' => cn = cn' ∧ K = K' ∧ N = N' ∧ I0 = I' ∧ R0 = R' ∧ L0 = L' ∧ (v.toInt = (gX x1.toInt.toNat 0)) ∧ True)) := by
  refine ConE.of (by decide +kernel) rfl (Nat.le_of_ble_eq_true rfl) rfl (fun X hX hZ hE => ?_)
  subst hX
  obtain ⟨a1, d2⟩ := nn3
  have ta1 : T a1 = 14 := hW0.rsN ta0 rfl d2
  have p3 := pre0
  obtain ⟨v4, c5⟩ : ∃ v, I0 a1 2 = v := ⟨_, rfl⟩
  have b6 := iv14_2 hW0 ta1 c5
  obtain ⟨a7, d8, ta7⟩ := rf15_16 hW0 ta0
  obtain ⟨v9, c10⟩ : ∃ v, I0 a7 1 = v := ⟨_, rfl⟩
  have b11 := iv77_1 hW0 ta7 (by decide) c10
  have p12 := pre1 _ d2 _ d8
  rw [c5] at p12
  rw [c10] at p12
  obtain ⟨a13, d14, ta13⟩ := rf14_11 hW0 ta1
  obtain ⟨a15, d16, ta15⟩ := rf14_12 hW0 ta1
  obtain ⟨a17, d18, ta17⟩ := rf14_13 hW0 ta1
  obtain ⟨a19, d20, ta19⟩ := rf14_14 hW0 ta1
  obtain ⟨a21, d22, ta21⟩ := rf15_21 hW0 ta0
  obtain ⟨a23, d24, ta23⟩ := rf15_22 hW0 ta0
  obtain ⟨a25, d26, ta25⟩ := rf15_23 hW0 ta0
  obtain ⟨a27, d28, ta27⟩ := rf15_24 hW0 ta0
  obtain ⟨a29, d30, ta29⟩ := rf15_25 hW0 ta0
  obtain ⟨a31, d32, ta31⟩ := rf15_26 hW0 ta0
  obtain ⟨v33, c34⟩ : ∃ v, I0 a1 0 = v := ⟨_, rfl⟩
  have b35 := hW0.2.2.2.2.2.1 a0 ta0 _ d2
  rw [c34] at b35
  have b36 := iv14_0 hW0 ta1 c34
  obtain ⟨v37, c38⟩ : ∃ v, I0 a1 1 = v := ⟨_, rfl⟩
  have b39 := iv14_1 hW0 ta1 c38
  refine tr_iload_n dX12_kindOf_0 rfl ?_
  refine tr_aload_n dX12_kindOf_1 rfl ?_
  refine tr_getR dX12_kindOf_2 fl12_385 (kR15 hW0 ta0) d2 ?_
  refine q_getI dX12_kindOf_5 fl12_265 (kR14 hW0 ta1) c5 ?_
  refine q_icmp_ge 23 dX12_kindOf_8 (by decide) (fun h40 => ?_) (fun h40 => ?_)
  · skip
    refine q_iconst dX12_kindOf_23 (by decide) ?_
    intro v41 h42
    exact tr_iret hZ dX12_kindOf_24 rfl (by decide) (by decide) ⟨v41, rfl, rfl, rfl, rfl, rfl, rfl, rfl, (by have z := (hX _ _ d2 d8).2.2 (x1.toInt - v4.toInt).toNat (by rw [c10]; omega); rw [show (I0 a1 2).toInt.toNat + (x1.toInt - v4.toInt).toNat = x1.toInt.toNat by rw [c5]; omega] at z; have y := z.1; omega), trivial⟩
  · skip
    refine tr_aload_n dX12_kindOf_11 rfl ?_
    refine tr_getR dX12_kindOf_12 fl12_385 (kR15 hW0 ta0) d2 ?_
    refine tr_getR dX12_kindOf_15 fl12_274 (kR14 hW0 ta1) d14 ?_
    refine tr_iload_n dX12_kindOf_18 rfl ?_
    refine q_iald dX12_kindOf_19 (kR54 hW0 ta13) (ti_in (nR54 hW0 ta13) (by omega) (by omega)) ?_
    intro v43 c44
    refine tr_goto 24 dX12_kindOf_20 (by decide) ?_
    exact tr_iret hZ dX12_kindOf_24 rfl (by decide) (by decide) ⟨v43, rfl, rfl, rfl, rfl, rfl, rfl, rfl, (by have z := (hX _ _ d2 d8).2.1 0 x1.toInt.toNat _ (by omega) (by rw [c5]; omega) d14; rw [show I0 a13 x1.toInt.toNat = v43 from c44] at z; exact z), trivial⟩
set_option maxHeartbeats 4000000 in
theorem fq_X12_hutOf {l : Launch} {T : Nat → Nat} {cn : Nat} {K N : Nat → Nat} {I0 : cz_I} {R0 : cz_R} {L0 : cz_L} {d : Int} (hW0 : Wf T cn K N I0 R0 d) (gX : Nat → Nat → Int) {a0 : Nat} (ta0 : T a0 = 15) {x1 : Int32} (hX : EvY I0 R0 a0 gX) (pre0 : 0 ≤ x1.toInt) (pre1 : ∀ b1, R0 a0 3 = some b1 → ∀ b2, R0 a0 16 = some b2 → x1.toInt < (I0 b1 2).toInt + (I0 b2 1).toInt) (nn3 : ∃ b, R0 a0 3 = some b) : ConE l mX12_hutOf [.ref a0, .int x1] cn K N I0 R0 L0 (ca_i (fun v cn' K' N' I' R' L' => cn = cn' ∧ K = K' ∧ N = N' ∧ I0 = I' ∧ R0 = R' ∧ L0 = L' ∧ ((-2) ≤ v.toInt ∧ v.toInt ≤ 3) ∧ (v.toInt = (gX x1.toInt.toNat 1)) ∧ True)) := by
  refine ConE.of (by decide +kernel) rfl (Nat.le_of_ble_eq_true rfl) rfl (fun X hX hZ hE => ?_)
  subst hX
  obtain ⟨a1, d2⟩ := nn3
  have ta1 : T a1 = 14 := hW0.rsN ta0 rfl d2
  have p3 := pre0
  obtain ⟨v4, c5⟩ : ∃ v, I0 a1 2 = v := ⟨_, rfl⟩
  have b6 := iv14_2 hW0 ta1 c5
  obtain ⟨a7, d8, ta7⟩ := rf15_16 hW0 ta0
  obtain ⟨v9, c10⟩ : ∃ v, I0 a7 1 = v := ⟨_, rfl⟩
  have b11 := iv77_1 hW0 ta7 (by decide) c10
  have p12 := pre1 _ d2 _ d8
  rw [c5] at p12
  rw [c10] at p12
  obtain ⟨a13, d14, ta13⟩ := rf14_11 hW0 ta1
  obtain ⟨a15, d16, ta15⟩ := rf14_12 hW0 ta1
  obtain ⟨a17, d18, ta17⟩ := rf14_13 hW0 ta1
  obtain ⟨a19, d20, ta19⟩ := rf14_14 hW0 ta1
  obtain ⟨a21, d22, ta21⟩ := rf15_21 hW0 ta0
  obtain ⟨a23, d24, ta23⟩ := rf15_22 hW0 ta0
  obtain ⟨a25, d26, ta25⟩ := rf15_23 hW0 ta0
  obtain ⟨a27, d28, ta27⟩ := rf15_24 hW0 ta0
  obtain ⟨a29, d30, ta29⟩ := rf15_25 hW0 ta0
  obtain ⟨a31, d32, ta31⟩ := rf15_26 hW0 ta0
  obtain ⟨v33, c34⟩ : ∃ v, I0 a1 0 = v := ⟨_, rfl⟩
  have b35 := hW0.2.2.2.2.2.1 a0 ta0 _ d2
  rw [c34] at b35
  have b36 := iv14_0 hW0 ta1 c34
  obtain ⟨v37, c38⟩ : ∃ v, I0 a1 1 = v := ⟨_, rfl⟩
  have b39 := iv14_1 hW0 ta1 c38
  refine tr_iload_n dX12_hutOf_0 rfl ?_
  refine tr_aload_n dX12_hutOf_1 rfl ?_
  refine tr_getR dX12_hutOf_2 fl12_385 (kR15 hW0 ta0) d2 ?_
  refine q_getI dX12_hutOf_5 fl12_265 (kR14 hW0 ta1) c5 ?_
  refine q_icmp_ge 23 dX12_hutOf_8 (by decide) (fun h40 => ?_) (fun h40 => ?_)
  · skip
    refine q_bipush dX12_hutOf_23 (by decide +kernel) ?_
    intro v41 h42
    exact tr_iret hZ dX12_hutOf_25 rfl (by decide) (by decide) ⟨v41, rfl, rfl, rfl, rfl, rfl, rfl, rfl, (by omega), (by have z := (hX _ _ d2 d8).2.2 (x1.toInt - v4.toInt).toNat (by rw [c10]; omega); rw [show (I0 a1 2).toInt.toNat + (x1.toInt - v4.toInt).toNat = x1.toInt.toNat by rw [c5]; omega] at z; have y := z.2.1; omega), trivial⟩
  · skip
    refine tr_aload_n dX12_hutOf_11 rfl ?_
    refine tr_getR dX12_hutOf_12 fl12_385 (kR15 hW0 ta0) d2 ?_
    refine tr_getR dX12_hutOf_15 fl12_277 (kR14 hW0 ta1) d16 ?_
    refine tr_iload_n dX12_hutOf_18 rfl ?_
    refine q_iald dX12_hutOf_19 (kR55 hW0 ta15) (ti_in (nR55 hW0 ta15) (by omega) (by omega)) ?_
    intro v43 c44
    have b45 := iv55 hW0 ta15 c44
    refine tr_goto 25 dX12_hutOf_20 (by decide) ?_
    exact tr_iret hZ dX12_hutOf_25 rfl (by decide) (by decide) ⟨v43, rfl, rfl, rfl, rfl, rfl, rfl, rfl, (by omega), (by have z := (hX _ _ d2 d8).2.1 1 x1.toInt.toNat _ (by omega) (by rw [c5]; omega) d16; rw [show I0 a15 x1.toInt.toNat = v43 from c44] at z; exact z), trivial⟩
def wik_X12_marksLight : List Nat := [5247, 5375, 5439, 5503, 5567]
def wrk_X12_marksLight : List Nat := []
set_option maxHeartbeats 4000000 in
theorem fk_X12_marksLight {l : Launch} {T : Nat → Nat} {cn : Nat} {K N : Nat → Nat} {I0 : cz_I} {R0 : cz_R} {L0 : cz_L} {d : Int} (hW0 : Wf T cn K N I0 R0 d) (gX : Nat → Nat → Int) {a0 : Nat} (ta0 : T a0 = 15) {x1 : Int32} {x2 : Int32} (hx2 : 0 ≤ x2.toInt ∧ x2.toInt ≤ 239) (hX : EvY I0 R0 a0 gX) (pre0 : 0 ≤ x1.toInt) (pre1 : ∀ b1, R0 a0 3 = some b1 → ∀ b2, R0 a0 16 = some b2 → x1.toInt < (I0 b1 2).toInt + (I0 b2 1).toInt) (nn3 : ∃ b, R0 a0 3 = some b) : ConE l mX12_marksLight [.ref a0, .int x1, .int x2] cn K N I0 R0 L0 (ca_v (fun cn' K' N' I' R' L' => cn = cn' ∧ K = K' ∧ N = N' ∧ R0 = R' ∧ L0 = L' ∧ St T cn K N d wik_X12_marksLight wrk_X12_marksLight I0 R0 I' R0 ∧ (∀ r, R0 a0 21 = some r → MkW 0 I0 I' r (gX x1.toInt.toNat 0 = 0) (x2.toInt)) ∧ (∀ r, R0 a0 24 = some r → MkW 1 I0 I' r (gX x1.toInt.toNat 0 = 1) (x2.toInt)) ∧ (∀ r, R0 a0 25 = some r → MkW 1 I0 I' r (gX x1.toInt.toNat 0 = 4) (x2.toInt)) ∧ (∀ r, R0 a0 26 = some r → MkW 1 I0 I' r (gX x1.toInt.toNat 0 = 3) (240 * gX x1.toInt.toNat 1 + x2.toInt)) ∧ (∀ r, R0 a0 23 = some r → MkW 1 I0 I' r (gX x1.toInt.toNat 0 = 2) (240 * gX x1.toInt.toNat 1 + x2.toInt)) ∧ True)) := by
  refine ConE.of (by decide +kernel) rfl (Nat.le_of_ble_eq_true rfl) rfl (fun X hX hZ hE => ?_)
  subst hX
  have hS0 : St T cn K N d wik_X12_marksLight wrk_X12_marksLight I0 R0 I0 R0 := St.rf0 hW0
  obtain ⟨a1, d2⟩ := nn3
  have ta1 : T a1 = 14 := hW0.rsN ta0 rfl d2
  have p3 := pre0
  obtain ⟨v4, c5⟩ : ∃ v, I0 a1 2 = v := ⟨_, rfl⟩
  have b6 := iv14_2 hW0 ta1 c5
  obtain ⟨a7, d8, ta7⟩ := rf15_16 hW0 ta0
  obtain ⟨v9, c10⟩ : ∃ v, I0 a7 1 = v := ⟨_, rfl⟩
  have b11 := iv77_1 hW0 ta7 (by decide) c10
  have p12 := pre1 _ d2 _ d8
  rw [c5] at p12
  rw [c10] at p12
  obtain ⟨a13, d14, ta13⟩ := rf14_11 hW0 ta1
  obtain ⟨a15, d16, ta15⟩ := rf14_12 hW0 ta1
  obtain ⟨a17, d18, ta17⟩ := rf14_13 hW0 ta1
  obtain ⟨a19, d20, ta19⟩ := rf14_14 hW0 ta1
  obtain ⟨a21, d22, ta21⟩ := rf15_21 hW0 ta0
  obtain ⟨a23, d24, ta23⟩ := rf15_22 hW0 ta0
  obtain ⟨a25, d26, ta25⟩ := rf15_23 hW0 ta0
  obtain ⟨a27, d28, ta27⟩ := rf15_24 hW0 ta0
  obtain ⟨a29, d30, ta29⟩ := rf15_25 hW0 ta0
  obtain ⟨a31, d32, ta31⟩ := rf15_26 hW0 ta0
  obtain ⟨v33, c34⟩ : ∃ v, I0 a1 0 = v := ⟨_, rfl⟩
  have b35 := hW0.2.2.2.2.2.1 a0 ta0 _ d2
  rw [c34] at b35
  have b36 := iv14_0 hW0 ta1 c34
  obtain ⟨v37, c38⟩ : ∃ v, I0 a1 1 = v := ⟨_, rfl⟩
  have b39 := iv14_1 hW0 ta1 c38
  refine tr_aload_n dX12_marksLight_0 rfl ?_
  refine tr_iload_n dX12_marksLight_1 rfl ?_
  refine q_callVi hE (M' := mX12_kindOf) (as := [_]) dX12_marksLight_2 lk12_404 inX12_kindOf seX12_kindOf myX12_kindOf (by decide) ⟨by decide, by decide⟩ rfl (kR15 hS0.1 ta0) (Nat.le_of_ble_eq_true rfl) rfl rfl (by decide) (by decide) (fq_X12_kindOf hS0.1 (gX) ta0 hX (by first | done | with_reducible assumption | omega) (fun q0 z0 => fun q1 z1 => by obtain rfl := Option.some.inj ((d2).symm.trans z0); obtain rfl := Option.some.inj ((d8).symm.trans z1); (try rw [c5]); (try rw [c10]); first | done | with_reducible assumption | omega) ⟨_, d2⟩) ?_
  rintro v45 cn' K' N' I40 R41 L42 ⟨rfl, rfl, rfl, rfl, rfl, rfl, p46, -⟩
  have hk47 := ((hX _ _ d2 d8).1 x1.toInt.toNat (by rw [c5, c10]; omega))
  have hk47k := And.intro hk47.1 hk47.2.1
  by_cases h48 : v45.toInt = 0
  · skip
    refine tr_tabIn (off := 31) 36 dX12_marksLight_5 (by omega) (by omega) (by rw [h48]; decide +kernel) (by decide) ?_
    refine tr_aload_n dX12_marksLight_36 rfl ?_
    refine tr_getR dX12_marksLight_37 fl12_27 (kR15 hS0.1 ta0) d22 ?_
    refine tr_iload_n dX12_marksLight_40 rfl ?_
    refine q_iconst dX12_marksLight_41 (by decide) ?_
    intro v49 h50
    refine q_zastE dX12_marksLight_42 (kR81 hS0.1 ta21) (ti_in (nR81 hS0.1 ta21) (by omega) (by omega)) hS0 ta21 (by omega) rfl rfl (by rfl) ?_
    intro I51 hS52 e54 f53
    refine tr_goto 103 dX12_marksLight_43 (by decide) ?_
    exact tr_vret hZ dX12_marksLight_103 rfl (by decide) (by decide) ⟨rfl, rfl, rfl, rfl, rfl, rfl, hS52, (fun r hr => by obtain rfl := Option.some.inj (d22.symm.trans hr); exact MkW.at (ix := x2.toNatClampNeg) (by omega) (by have y := ti_nat (i := x2) (by omega); omega) (Eq.trans e54 (Int32.toInt_inj.mp ((show v49.toInt = 0 by omega).trans rfl))) (fun j hj => (f53 _ _ (fun q => hj q.2)))), (fun r hr => by obtain rfl := Option.some.inj (d28.symm.trans hr); exact MkW.no (by omega) (fun j => (f53 _ _ (fun q => by have z := ta27; rw [q.1, ta21] at z; exact absurd z (by decide))))), (fun r hr => by obtain rfl := Option.some.inj (d30.symm.trans hr); exact MkW.no (by omega) (fun j => (f53 _ _ (fun q => by have z := ta29; rw [q.1, ta21] at z; exact absurd z (by decide))))), (fun r hr => by obtain rfl := Option.some.inj (d32.symm.trans hr); exact MkW.no (by omega) (fun j => (f53 _ _ (fun q => by have z := ta31; rw [q.1, ta21] at z; exact absurd z (by decide))))), (fun r hr => by obtain rfl := Option.some.inj (d26.symm.trans hr); exact MkW.no (by omega) (fun j => (f53 _ _ (fun q => by have z := ta25; rw [q.1, ta21] at z; exact absurd z (by decide))))), trivial⟩
  · skip
    by_cases h55 : v45.toInt = 1
    · skip
      refine tr_tabIn (off := 41) 46 dX12_marksLight_5 (by omega) (by omega) (by rw [h55]; decide +kernel) (by decide) ?_
      refine tr_aload_n dX12_marksLight_46 rfl ?_
      refine tr_getR dX12_marksLight_47 fl12_37 (kR15 hS0.1 ta0) d28 ?_
      refine tr_iload_n dX12_marksLight_50 rfl ?_
      refine q_iconst dX12_marksLight_51 (by decide) ?_
      intro v56 h57
      refine q_zastE dX12_marksLight_52 (kR84 hS0.1 ta27) (ti_in (nR84 hS0.1 ta27) (by omega) (by omega)) hS0 ta27 (by omega) rfl rfl (by rfl) ?_
      intro I58 hS59 e61 f60
      refine tr_goto 103 dX12_marksLight_53 (by decide) ?_
      exact tr_vret hZ dX12_marksLight_103 rfl (by decide) (by decide) ⟨rfl, rfl, rfl, rfl, rfl, rfl, hS59, (fun r hr => by obtain rfl := Option.some.inj (d22.symm.trans hr); exact MkW.no (by omega) (fun j => (f60 _ _ (fun q => by have z := ta21; rw [q.1, ta27] at z; exact absurd z (by decide))))), (fun r hr => by obtain rfl := Option.some.inj (d28.symm.trans hr); exact MkW.at (ix := x2.toNatClampNeg) (by omega) (by have y := ti_nat (i := x2) (by omega); omega) (Eq.trans e61 (Int32.toInt_inj.mp ((show v56.toInt = 1 by omega).trans rfl))) (fun j hj => (f60 _ _ (fun q => hj q.2)))), (fun r hr => by obtain rfl := Option.some.inj (d30.symm.trans hr); exact MkW.no (by omega) (fun j => (f60 _ _ (fun q => by have z := ta29; rw [q.1, ta27] at z; exact absurd z (by decide))))), (fun r hr => by obtain rfl := Option.some.inj (d32.symm.trans hr); exact MkW.no (by omega) (fun j => (f60 _ _ (fun q => by have z := ta31; rw [q.1, ta27] at z; exact absurd z (by decide))))), (fun r hr => by obtain rfl := Option.some.inj (d26.symm.trans hr); exact MkW.no (by omega) (fun j => (f60 _ _ (fun q => by have z := ta25; rw [q.1, ta27] at z; exact absurd z (by decide))))), trivial⟩
    · skip
      by_cases h62 : v45.toInt = 2
      · skip
        refine tr_tabIn (off := 51) 56 dX12_marksLight_5 (by omega) (by omega) (by rw [h62]; decide +kernel) (by decide) ?_
        refine tr_aload_n dX12_marksLight_56 rfl ?_
        refine tr_getR dX12_marksLight_57 fl12_34 (kR15 hS0.1 ta0) d26 ?_
        refine q_sipush dX12_marksLight_60 (by decide +kernel) ?_
        intro v63 h64
        refine tr_aload_n dX12_marksLight_63 rfl ?_
        refine tr_iload_n dX12_marksLight_64 rfl ?_
        refine q_callVi hE (M' := mX12_hutOf) (as := [_]) dX12_marksLight_65 lk12_407 inX12_hutOf seX12_hutOf myX12_hutOf (by decide) ⟨by decide, by decide⟩ rfl (kR15 hS0.1 ta0) (Nat.le_of_ble_eq_true rfl) rfl rfl (by decide) (by decide) (fq_X12_hutOf hS0.1 (gX) ta0 hX (by first | done | with_reducible assumption | omega) (fun q0 z0 => fun q1 z1 => by obtain rfl := Option.some.inj ((d2).symm.trans z0); obtain rfl := Option.some.inj ((d8).symm.trans z1); (try rw [c5]); (try rw [c10]); first | done | with_reducible assumption | omega) ⟨_, d2⟩) ?_
        rintro v70 cn' K' N' I65 R66 L67 ⟨rfl, rfl, rfl, rfl, rfl, rfl, h71, p72, -⟩
        have hk47h := hk47.2.2.1 (by omega)
        refine q_imulE (c := 240) dX12_marksLight_68 (by omega) (by omega) ?_
        intro v73 h74
        refine tr_iload_n dX12_marksLight_69 rfl ?_
        refine q_iaddE dX12_marksLight_70 (by intros; omega) ?_
        intro v75 h76
        refine q_iconst dX12_marksLight_71 (by decide) ?_
        intro v77 h78
        refine q_zastE dX12_marksLight_72 (kR83 hS0.1 ta25) (ti_in (nR83 hS0.1 ta25) (by omega) (by omega)) hS0 ta25 (by omega) rfl rfl (by rfl) ?_
        intro I79 hS80 e82 f81
        refine tr_goto 103 dX12_marksLight_73 (by decide) ?_
        exact tr_vret hZ dX12_marksLight_103 rfl (by decide) (by decide) ⟨rfl, rfl, rfl, rfl, rfl, rfl, hS80, (fun r hr => by obtain rfl := Option.some.inj (d22.symm.trans hr); exact MkW.no (by omega) (fun j => (f81 _ _ (fun q => by have z := ta21; rw [q.1, ta25] at z; exact absurd z (by decide))))), (fun r hr => by obtain rfl := Option.some.inj (d28.symm.trans hr); exact MkW.no (by omega) (fun j => (f81 _ _ (fun q => by have z := ta27; rw [q.1, ta25] at z; exact absurd z (by decide))))), (fun r hr => by obtain rfl := Option.some.inj (d30.symm.trans hr); exact MkW.no (by omega) (fun j => (f81 _ _ (fun q => by have z := ta29; rw [q.1, ta25] at z; exact absurd z (by decide))))), (fun r hr => by obtain rfl := Option.some.inj (d32.symm.trans hr); exact MkW.no (by omega) (fun j => (f81 _ _ (fun q => by have z := ta31; rw [q.1, ta25] at z; exact absurd z (by decide))))), (fun r hr => by obtain rfl := Option.some.inj (d26.symm.trans hr); exact MkW.at (ix := v75.toNatClampNeg) (by omega) (by have y := ti_nat (i := v75) (by omega); omega) (Eq.trans e82 (Int32.toInt_inj.mp ((show v77.toInt = 1 by omega).trans rfl))) (fun j hj => (f81 _ _ (fun q => hj q.2)))), trivial⟩
      · skip
        by_cases h83 : v45.toInt = 3
        · skip
          refine tr_tabIn (off := 71) 76 dX12_marksLight_5 (by omega) (by omega) (by rw [h83]; decide +kernel) (by decide) ?_
          refine tr_aload_n dX12_marksLight_76 rfl ?_
          refine tr_getR dX12_marksLight_77 fl12_43 (kR15 hS0.1 ta0) d32 ?_
          refine q_sipush dX12_marksLight_80 (by decide +kernel) ?_
          intro v84 h85
          refine tr_aload_n dX12_marksLight_83 rfl ?_
          refine tr_iload_n dX12_marksLight_84 rfl ?_
          refine q_callVi hE (M' := mX12_hutOf) (as := [_]) dX12_marksLight_85 lk12_407 inX12_hutOf seX12_hutOf myX12_hutOf (by decide) ⟨by decide, by decide⟩ rfl (kR15 hS0.1 ta0) (Nat.le_of_ble_eq_true rfl) rfl rfl (by decide) (by decide) (fq_X12_hutOf hS0.1 (gX) ta0 hX (by first | done | with_reducible assumption | omega) (fun q0 z0 => fun q1 z1 => by obtain rfl := Option.some.inj ((d2).symm.trans z0); obtain rfl := Option.some.inj ((d8).symm.trans z1); (try rw [c5]); (try rw [c10]); first | done | with_reducible assumption | omega) ⟨_, d2⟩) ?_
          rintro v91 cn' K' N' I86 R87 L88 ⟨rfl, rfl, rfl, rfl, rfl, rfl, h92, p93, -⟩
          have hk47h := hk47.2.2.1 (by omega)
          refine q_imulE (c := 240) dX12_marksLight_88 (by omega) (by omega) ?_
          intro v94 h95
          refine tr_iload_n dX12_marksLight_89 rfl ?_
          refine q_iaddE dX12_marksLight_90 (by intros; omega) ?_
          intro v96 h97
          refine q_iconst dX12_marksLight_91 (by decide) ?_
          intro v98 h99
          refine q_zastE dX12_marksLight_92 (kR86 hS0.1 ta31) (ti_in (nR86 hS0.1 ta31) (by omega) (by omega)) hS0 ta31 (by omega) rfl rfl (by rfl) ?_
          intro I100 hS101 e103 f102
          refine tr_goto 103 dX12_marksLight_93 (by decide) ?_
          exact tr_vret hZ dX12_marksLight_103 rfl (by decide) (by decide) ⟨rfl, rfl, rfl, rfl, rfl, rfl, hS101, (fun r hr => by obtain rfl := Option.some.inj (d22.symm.trans hr); exact MkW.no (by omega) (fun j => (f102 _ _ (fun q => by have z := ta21; rw [q.1, ta31] at z; exact absurd z (by decide))))), (fun r hr => by obtain rfl := Option.some.inj (d28.symm.trans hr); exact MkW.no (by omega) (fun j => (f102 _ _ (fun q => by have z := ta27; rw [q.1, ta31] at z; exact absurd z (by decide))))), (fun r hr => by obtain rfl := Option.some.inj (d30.symm.trans hr); exact MkW.no (by omega) (fun j => (f102 _ _ (fun q => by have z := ta29; rw [q.1, ta31] at z; exact absurd z (by decide))))), (fun r hr => by obtain rfl := Option.some.inj (d32.symm.trans hr); exact MkW.at (ix := v96.toNatClampNeg) (by omega) (by have y := ti_nat (i := v96) (by omega); omega) (Eq.trans e103 (Int32.toInt_inj.mp ((show v98.toInt = 1 by omega).trans rfl))) (fun j hj => (f102 _ _ (fun q => hj q.2)))), (fun r hr => by obtain rfl := Option.some.inj (d26.symm.trans hr); exact MkW.no (by omega) (fun j => (f102 _ _ (fun q => by have z := ta25; rw [q.1, ta31] at z; exact absurd z (by decide))))), trivial⟩
        · skip
          refine tr_tabOut 96 dX12_marksLight_5 (by omega) (by decide) ?_
          refine tr_aload_n dX12_marksLight_96 rfl ?_
          refine tr_getR dX12_marksLight_97 fl12_40 (kR15 hS0.1 ta0) d30 ?_
          refine tr_iload_n dX12_marksLight_100 rfl ?_
          refine q_iconst dX12_marksLight_101 (by decide) ?_
          intro v104 h105
          refine q_zastE dX12_marksLight_102 (kR85 hS0.1 ta29) (ti_in (nR85 hS0.1 ta29) (by omega) (by omega)) hS0 ta29 (by omega) rfl rfl (by rfl) ?_
          intro I106 hS107 e109 f108
          exact tr_vret hZ dX12_marksLight_103 rfl (by decide) (by decide) ⟨rfl, rfl, rfl, rfl, rfl, rfl, hS107, (fun r hr => by obtain rfl := Option.some.inj (d22.symm.trans hr); exact MkW.no (by omega) (fun j => (f108 _ _ (fun q => by have z := ta21; rw [q.1, ta29] at z; exact absurd z (by decide))))), (fun r hr => by obtain rfl := Option.some.inj (d28.symm.trans hr); exact MkW.no (by omega) (fun j => (f108 _ _ (fun q => by have z := ta27; rw [q.1, ta29] at z; exact absurd z (by decide))))), (fun r hr => by obtain rfl := Option.some.inj (d30.symm.trans hr); exact MkW.at (ix := x2.toNatClampNeg) (by omega) (by have y := ti_nat (i := x2) (by omega); omega) (Eq.trans e109 (Int32.toInt_inj.mp ((show v104.toInt = 1 by omega).trans rfl))) (fun j hj => (f108 _ _ (fun q => hj q.2)))), (fun r hr => by obtain rfl := Option.some.inj (d32.symm.trans hr); exact MkW.no (by omega) (fun j => (f108 _ _ (fun q => by have z := ta31; rw [q.1, ta29] at z; exact absurd z (by decide))))), (fun r hr => by obtain rfl := Option.some.inj (d26.symm.trans hr); exact MkW.no (by omega) (fun j => (f108 _ _ (fun q => by have z := ta25; rw [q.1, ta29] at z; exact absurd z (by decide))))), trivial⟩
