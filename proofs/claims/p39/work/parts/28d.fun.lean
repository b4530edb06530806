section CzEw
variable {T : Nat → Nat} {cn : Nat} {K N : Nat → Nat} {d d1 : Int} {I J : cz_I} {R : cz_R} {x m : Nat} {e f v f' v' : Int} {wi wr : List Nat}
/-- an EVENT's number f, in the class: of the told ones, or of a cloud that came -/
def EvV (I : cz_I) (R : cz_R) (x : Nat) (e f v : Int) : Prop := ∀ al nw, R x 2 = some al → R x 6 = some nw → (e < (I al 3).toInt → ∀ V ob, R al 4 = some V → R V e.toNat = some ob → v = (I ob f.toNat).toInt) ∧ (¬ e < (I al 3).toInt → (f = 0 → v = 0) ∧ (f = 1 → v = -2) ∧ (f = 2 → ∀ r, R nw 3 = some r → v = (I r (e - (I al 3).toInt).toNat).toInt) ∧ (f = 3 → ∀ r, R nw 4 = some r → v = (I r (e - (I al 3).toInt).toNat).toInt))
theorem EvV.cg (h : EvV I R x e f v) (hf : f' = f) (hv : v' = v) : EvV I R x e f' v' := by subst hf; subst hv; exact h
/-- the same of the reference -/
def EvW (I : cz_I) (R : cz_R) (m : Nat) (e f v : Int) : Prop := ∀ b w, R m 3 = some b → R m 16 = some w → (e < (I b 2).toInt → ∀ a, R b (11 + f.toNat) = some a → v = (I a e.toNat).toInt) ∧ (¬ e < (I b 2).toInt → (f = 0 → v = 0) ∧ (f = 1 → v = -2) ∧ (f = 2 → v = (I w (3 + (e - (I b 2).toInt).toNat)).toInt) ∧ (f = 3 → v = (I w (9 + (e - (I b 2).toInt).toNat)).toInt))
theorem EvW.cg (h : EvW I R m e f v) (hf : f' = f) (hv : v' = v) : EvW I R m e f' v' := by subst hf; subst hv; exact h
theorem EvW.kp (h : EvW J R m e f v) (h0 : 0 ≤ f ∧ f ≤ 3) (hW : Wf T cn K N I R d) (tm : T m = 15) (hS : St T cn K N d1 wi wr I R J R) (c1 : wi.all (fun c => !(Nat.beq (c / 64) 14)) = true) (c2 : wi.all (fun c => !(Nat.beq (c / 64) 54)) = true) (c3 : wi.all (fun c => !(Nat.beq (c / 64) 55)) = true) (c4 : wi.all (fun c => !(Nat.beq (c / 64) 56)) = true) (c5 : wi.all (fun c => !(Nat.beq (c / 64) 57)) = true) (c6 : wi.all (fun c => !(Nat.beq (c / 64) 77)) = true) : EvW I R m e f v := by
  intro b w hb hw
  have tb : T b = 14 := hW.rsN tm rfl hb
  have tw : T w = 77 := hW.rs tm rfl rfl hw
  obtain ⟨h1, h2⟩ := h b w hb hw
  rw [hS.cell tb (wm_no c1)] at h1 h2
  refine ⟨fun q a ha => ?_, fun q => ?_⟩
  · have z := h1 q a ha
    rw [z]
    have hf : f = 0 ∨ f = 1 ∨ f = 2 ∨ f = 3 := by omega
    rcases hf with rfl | rfl | rfl | rfl
    · rw [hS.cell (hW.rs tb rfl rfl ha : T a = 54) (wm_no c2)]
    · rw [hS.cell (hW.rs tb rfl rfl ha : T a = 55) (wm_no c3)]
    · rw [hS.cell (hW.rs tb rfl rfl ha : T a = 56) (wm_no c4)]
    · rw [hS.cell (hW.rs tb rfl rfl ha : T a = 57) (wm_no c5)]
  · obtain ⟨z0, z1, z2, z3⟩ := h2 q
    rw [hS.cell tw (wm_no c6)] at z2 z3
    exact ⟨z0, z1, z2, z3⟩
end CzEw
set_option maxHeartbeats 4000000 in
theorem fk_X10_eventCount {l : Launch} {T : Nat → Nat} {cn : Nat} {K N : Nat → Nat} {I0 : cz_I} {R0 : cz_R} {L0 : cz_L} {d : Int} (hW0 : Wf T cn K N I0 R0 d)  {a0 : Nat} (ta0 : T a0 = 1) : ConE l mX10_eventCount [.ref a0] cn K N I0 R0 L0 (ca_i (fun v cn' K' N' I' R' L' => cn = cn' ∧ K = K' ∧ N = N' ∧ I0 = I' ∧ R0 = R' ∧ L0 = L' ∧ (∀ b1, R0 a0 2 = some b1 → ∀ b2, R0 a0 6 = some b2 → v.toInt = (I0 b1 3).toInt + (I0 b2 2).toInt) ∧ True)) := by
  refine ConE.of (by decide +kernel) rfl (Nat.le_of_ble_eq_true rfl) rfl (fun X hX hZ hE => ?_)
  subst hX
  obtain ⟨a1, d2, ta1⟩ := rf1_2 hW0 ta0
  obtain ⟨v3, c4⟩ : ∃ v, I0 a1 3 = v := ⟨_, rfl⟩
  have b5 := iv2_3 hW0 ta1 c4
  obtain ⟨a6, d7, ta6⟩ := rf1_6 hW0 ta0
  obtain ⟨v8, c9⟩ : ∃ v, I0 a6 2 = v := ⟨_, rfl⟩
  have b10 := iv8_2 hW0 ta6 c9
  refine tr_aload_n dX10_eventCount_0 rfl ?_
  refine tr_getR dX10_eventCount_1 fl10_16 (kR1 hW0 ta0) d2 ?_
  refine q_getI dX10_eventCount_4 fl10_311 (kR2 hW0 ta1) c4 ?_
  refine tr_aload_n dX10_eventCount_7 rfl ?_
  refine tr_getR dX10_eventCount_8 fl10_35 (kR1 hW0 ta0) d7 ?_
  refine q_getI dX10_eventCount_11 fl10_272 (kR8 hW0 ta6) c9 ?_
  refine q_iaddE dX10_eventCount_14 (by intros; omega) ?_
  intro v11 h12
  exact tr_iret hZ dX10_eventCount_15 rfl (by decide) (by decide) ⟨v11, rfl, rfl, rfl, rfl, rfl, rfl, rfl, (fun q0 z0 => fun q1 z1 => by obtain rfl := Option.some.inj ((d2).symm.trans z0); obtain rfl := Option.some.inj ((d7).symm.trans z1); (try rw [c4]); (try rw [c9]); first | done | with_reducible assumption | omega), trivial⟩
set_option maxHeartbeats 4000000 in
theorem fk_X10_isEvent {l : Launch} {T : Nat → Nat} {cn : Nat} {K N : Nat → Nat} {I0 : cz_I} {R0 : cz_R} {L0 : cz_L} {d : Int} (hW0 : Wf T cn K N I0 R0 d)  {a0 : Nat} (ta0 : T a0 = 1) {x1 : Int32} : ConE l mX10_isEvent [.ref a0, .int x1] cn K N I0 R0 L0 (ca_i (fun v cn' K' N' I' R' L' => cn = cn' ∧ K = K' ∧ N = N' ∧ I0 = I' ∧ R0 = R' ∧ L0 = L' ∧ (0 ≤ v.toInt ∧ v.toInt ≤ 1) ∧ (∀ b1, R0 a0 2 = some b1 → ∀ b2, R0 a0 6 = some b2 → (v.toInt = 1 → (0 ≤ x1.toInt ∧ x1.toInt < (I0 b1 3).toInt + (I0 b2 2).toInt))) ∧ (∀ b1, R0 a0 2 = some b1 → ∀ b2, R0 a0 6 = some b2 → (v.toInt = 0 → (x1.toInt < 0 ∨ x1.toInt ≥ (I0 b1 3).toInt + (I0 b2 2).toInt))) ∧ True)) := by
  refine ConE.of (by decide +kernel) rfl (Nat.le_of_ble_eq_true rfl) rfl (fun X hX hZ hE => ?_)
  subst hX
  obtain ⟨a1, d2, ta1⟩ := rf1_2 hW0 ta0
  obtain ⟨v3, c4⟩ : ∃ v, I0 a1 3 = v := ⟨_, rfl⟩
  have b5 := iv2_3 hW0 ta1 c4
  obtain ⟨a6, d7, ta6⟩ := rf1_6 hW0 ta0
  obtain ⟨v8, c9⟩ : ∃ v, I0 a6 2 = v := ⟨_, rfl⟩
  have b10 := iv8_2 hW0 ta6 c9
  refine tr_iload_n dX10_isEvent_0 rfl ?_
  refine q_if_lt 16 dX10_isEvent_1 (by decide) (fun h11 => ?_) (fun h11 => ?_)
  · skip
    refine q_iconst dX10_isEvent_16 (by decide) ?_
    intro v12 h13
    exact tr_zret hZ dX10_isEvent_17 rfl (ti_b01 (by omega) (by omega)) (by decide) (by decide) ⟨v12, rfl, rfl, rfl, rfl, rfl, rfl, rfl, (by omega), (fun q0 z0 => fun q1 z1 => by obtain rfl := Option.some.inj ((d2).symm.trans z0); obtain rfl := Option.some.inj ((d7).symm.trans z1); (try rw [c4]); (try rw [c9]); first | done | with_reducible assumption | omega), (fun q0 z0 => fun q1 z1 => by obtain rfl := Option.some.inj ((d2).symm.trans z0); obtain rfl := Option.some.inj ((d7).symm.trans z1); (try rw [c4]); (try rw [c9]); first | done | with_reducible assumption | omega), trivial⟩
  · skip
    refine tr_iload_n dX10_isEvent_4 rfl ?_
    refine tr_aload_n dX10_isEvent_5 rfl ?_
    refine q_callVi hE (M' := mX10_eventCount) (as := []) dX10_isEvent_6 lk10_225 inX10_eventCount seX10_eventCount myX10_eventCount (by decide) ⟨by decide, by decide⟩ rfl (kR1 hW0 ta0) (Nat.le_of_ble_eq_true rfl) rfl rfl (by decide) (by decide) (fk_X10_eventCount hW0  ta0) ?_
    rintro v19 cn' K' N' I14 R15 L16 ⟨rfl, rfl, rfl, rfl, rfl, rfl, p20, -⟩
    have p21 := p20 _ d2 _ d7
    clear p20
    rw [c4] at p21
    rw [c9] at p21
    refine q_icmp_ge 16 dX10_isEvent_9 (by decide) (fun h22 => ?_) (fun h22 => ?_)
    · skip
      refine q_iconst dX10_isEvent_16 (by decide) ?_
      intro v23 h24
      exact tr_zret hZ dX10_isEvent_17 rfl (ti_b01 (by omega) (by omega)) (by decide) (by decide) ⟨v23, rfl, rfl, rfl, rfl, rfl, rfl, rfl, (by omega), (fun q0 z0 => fun q1 z1 => by obtain rfl := Option.some.inj ((d2).symm.trans z0); obtain rfl := Option.some.inj ((d7).symm.trans z1); (try rw [c4]); (try rw [c9]); first | done | with_reducible assumption | omega), (fun q0 z0 => fun q1 z1 => by obtain rfl := Option.some.inj ((d2).symm.trans z0); obtain rfl := Option.some.inj ((d7).symm.trans z1); (try rw [c4]); (try rw [c9]); first | done | with_reducible assumption | omega), trivial⟩
    · skip
      refine q_iconst dX10_isEvent_12 (by decide) ?_
      intro v25 h26
      refine tr_goto 17 dX10_isEvent_13 (by decide) ?_
      exact tr_zret hZ dX10_isEvent_17 rfl (ti_b01 (by omega) (by omega)) (by decide) (by decide) ⟨v25, rfl, rfl, rfl, rfl, rfl, rfl, rfl, (by omega), (fun q0 z0 => fun q1 z1 => by obtain rfl := Option.some.inj ((d2).symm.trans z0); obtain rfl := Option.some.inj ((d7).symm.trans z1); (try rw [c4]); (try rw [c9]); first | done | with_reducible assumption | omega), (fun q0 z0 => fun q1 z1 => by obtain rfl := Option.some.inj ((d2).symm.trans z0); obtain rfl := Option.some.inj ((d7).symm.trans z1); (try rw [c4]); (try rw [c9]); first | done | with_reducible assumption | omega), trivial⟩
set_option maxHeartbeats 4000000 in
theorem fk_X10_eventFrom {l : Launch} {T : Nat → Nat} {cn : Nat} {K N : Nat → Nat} {I0 : cz_I} {R0 : cz_R} {L0 : cz_L} {d : Int} (hW0 : Wf T cn K N I0 R0 d)  {a0 : Nat} (ta0 : T a0 = 1) {x1 : Int32} (hx1 : 0 ≤ x1.toInt ∧ x1.toInt ≤ 19) (pre0 : ∀ b1, R0 a0 2 = some b1 → ∀ b2, R0 a0 6 = some b2 → x1.toInt < (I0 b1 3).toInt + (I0 b2 2).toInt) : ConE l mX10_eventFrom [.ref a0, .int x1] cn K N I0 R0 L0 (ca_i (fun v cn' K' N' I' R' L' => cn = cn' ∧ K = K' ∧ N = N' ∧ I0 = I' ∧ R0 = R' ∧ L0 = L' ∧ (EvV I0 R0 a0 x1.toInt 2 v.toInt) ∧ True)) := by
  refine ConE.of (by decide +kernel) rfl (Nat.le_of_ble_eq_true rfl) rfl (fun X hX hZ hE => ?_)
  subst hX
  obtain ⟨a1, d2, ta1⟩ := rf1_2 hW0 ta0
  obtain ⟨v3, c4⟩ : ∃ v, I0 a1 3 = v := ⟨_, rfl⟩
  have b5 := iv2_3 hW0 ta1 c4
  obtain ⟨a6, d7, ta6⟩ := rf1_6 hW0 ta0
  obtain ⟨v8, c9⟩ : ∃ v, I0 a6 2 = v := ⟨_, rfl⟩
  have b10 := iv8_2 hW0 ta6 c9
  have p11 := pre0 _ d2 _ d7
  rw [c4] at p11
  rw [c9] at p11
  obtain ⟨a12, d13, ta12⟩ := rf2_4 hW0 ta1
  obtain ⟨a14, d15, ta14⟩ := rf8_3 hW0 ta6
  obtain ⟨a16, d17, ta16⟩ := rf8_4 hW0 ta6
  refine tr_iload_n dX10_eventFrom_0 rfl ?_
  refine tr_aload_n dX10_eventFrom_1 rfl ?_
  refine tr_getR dX10_eventFrom_2 fl10_16 (kR1 hW0 ta0) d2 ?_
  refine q_getI dX10_eventFrom_5 fl10_311 (kR2 hW0 ta1) c4 ?_
  refine q_icmp_ge 26 dX10_eventFrom_8 (by decide) (fun h18 => ?_) (fun h18 => ?_)
  · skip
    refine tr_aload_n dX10_eventFrom_26 rfl ?_
    refine tr_getR dX10_eventFrom_27 fl10_35 (kR1 hW0 ta0) d7 ?_
    refine tr_getR dX10_eventFrom_30 fl10_364 (kR8 hW0 ta6) d15 ?_
    refine tr_iload_n dX10_eventFrom_33 rfl ?_
    refine tr_aload_n dX10_eventFrom_34 rfl ?_
    refine tr_getR dX10_eventFrom_35 fl10_16 (kR1 hW0 ta0) d2 ?_
    refine q_getI dX10_eventFrom_38 fl10_311 (kR2 hW0 ta1) c4 ?_
    refine q_isubE dX10_eventFrom_41 (by intros; omega) ?_
    intro v19 h20
    refine q_iald dX10_eventFrom_42 (kR27 hW0 ta14) (ti_in (nR27 hW0 ta14) (by omega) (by omega)) ?_
    intro v21 c22
    have b23 := iv27 hW0 ta14 c22
    exact tr_iret hZ dX10_eventFrom_43 rfl (by decide) (by decide) ⟨v21, rfl, rfl, rfl, rfl, rfl, rfl, rfl, (fun al nw h1 h2 => by obtain rfl := Option.some.inj (d2.symm.trans h1); obtain rfl := Option.some.inj (d7.symm.trans h2); refine ⟨fun q => absurd q (by rw [c4]; omega), fun _ => ⟨fun q => absurd q (by decide), fun q => absurd q (by decide), fun _ r hr => by obtain rfl := Option.some.inj (d15.symm.trans hr); have z := c22; rw [show v19.toNatClampNeg = (x1.toInt - (I0 a1 3).toInt).toNat from congrArg Int.toNat (by rw [c4]; omega)] at z; rw [z]; first | done | omega, fun q => absurd q (by decide)⟩⟩), trivial⟩
  · skip
    refine tr_aload_n dX10_eventFrom_11 rfl ?_
    refine tr_getR dX10_eventFrom_12 fl10_16 (kR1 hW0 ta0) d2 ?_
    refine tr_getR dX10_eventFrom_15 fl10_313 (kR2 hW0 ta1) d13 ?_
    refine tr_iload_n dX10_eventFrom_18 rfl ?_
    obtain ⟨a24, d25, ta24⟩ := rf19 hW0 ta12 (j := x1.toNatClampNeg) (ti_lt (by omega) (by omega))
    refine tr_aald dX10_eventFrom_19 (kR19 hW0 ta12) (by decide) (by decide) (ti_in (nR19 hW0 ta12) (by omega) (by omega)) d25 ?_
    obtain ⟨v26, c27⟩ : ∃ v, I0 a24 2 = v := ⟨_, rfl⟩
    have b28 := iv3_2 hW0 ta24 c27
    refine q_getI dX10_eventFrom_20 fl10_361 (kR3 hW0 ta24) c27 ?_
    refine tr_goto 43 dX10_eventFrom_23 (by decide) ?_
    exact tr_iret hZ dX10_eventFrom_43 rfl (by decide) (by decide) ⟨v26, rfl, rfl, rfl, rfl, rfl, rfl, rfl, (fun al nw h1 h2 => by obtain rfl := Option.some.inj (d2.symm.trans h1); obtain rfl := Option.some.inj (d7.symm.trans h2); refine ⟨fun _ V ob h3 h4 => ?_, fun q => absurd (by rw [c4]; omega) q⟩; obtain rfl := Option.some.inj (d13.symm.trans h3); have z := d25; rw [show x1.toNatClampNeg = x1.toInt.toNat from congrArg Int.toNat (by omega)] at z; obtain rfl := Option.some.inj (z.symm.trans h4); show _ = (I0 _ 2).toInt; rw [c27]; first | done | omega), trivial⟩
set_option maxHeartbeats 4000000 in
theorem fk_X10_eventTo {l : Launch} {T : Nat → Nat} {cn : Nat} {K N : Nat → Nat} {I0 : cz_I} {R0 : cz_R} {L0 : cz_L} {d : Int} (hW0 : Wf T cn K N I0 R0 d)  {a0 : Nat} (ta0 : T a0 = 1) {x1 : Int32} (hx1 : 0 ≤ x1.toInt ∧ x1.toInt ≤ 19) (pre0 : ∀ b1, R0 a0 2 = some b1 → ∀ b2, R0 a0 6 = some b2 → x1.toInt < (I0 b1 3).toInt + (I0 b2 2).toInt) : ConE l mX10_eventTo [.ref a0, .int x1] cn K N I0 R0 L0 (ca_i (fun v cn' K' N' I' R' L' => cn = cn' ∧ K = K' ∧ N = N' ∧ I0 = I' ∧ R0 = R' ∧ L0 = L' ∧ (EvV I0 R0 a0 x1.toInt 3 v.toInt) ∧ True)) := by
  refine ConE.of (by decide +kernel) rfl (Nat.le_of_ble_eq_true rfl) rfl (fun X hX hZ hE => ?_)
  subst hX
  obtain ⟨a1, d2, ta1⟩ := rf1_2 hW0 ta0
  obtain ⟨v3, c4⟩ : ∃ v, I0 a1 3 = v := ⟨_, rfl⟩
  have b5 := iv2_3 hW0 ta1 c4
  obtain ⟨a6, d7, ta6⟩ := rf1_6 hW0 ta0
  obtain ⟨v8, c9⟩ : ∃ v, I0 a6 2 = v := ⟨_, rfl⟩
  have b10 := iv8_2 hW0 ta6 c9
  have p11 := pre0 _ d2 _ d7
  rw [c4] at p11
  rw [c9] at p11
  obtain ⟨a12, d13, ta12⟩ := rf2_4 hW0 ta1
  obtain ⟨a14, d15, ta14⟩ := rf8_3 hW0 ta6
  obtain ⟨a16, d17, ta16⟩ := rf8_4 hW0 ta6
  refine tr_iload_n dX10_eventTo_0 rfl ?_
  refine tr_aload_n dX10_eventTo_1 rfl ?_
  refine tr_getR dX10_eventTo_2 fl10_16 (kR1 hW0 ta0) d2 ?_
  refine q_getI dX10_eventTo_5 fl10_311 (kR2 hW0 ta1) c4 ?_
  refine q_icmp_ge 26 dX10_eventTo_8 (by decide) (fun h18 => ?_) (fun h18 => ?_)
  · skip
    refine tr_aload_n dX10_eventTo_26 rfl ?_
    refine tr_getR dX10_eventTo_27 fl10_35 (kR1 hW0 ta0) d7 ?_
    refine tr_getR dX10_eventTo_30 fl10_369 (kR8 hW0 ta6) d17 ?_
    refine tr_iload_n dX10_eventTo_33 rfl ?_
    refine tr_aload_n dX10_eventTo_34 rfl ?_
    refine tr_getR dX10_eventTo_35 fl10_16 (kR1 hW0 ta0) d2 ?_
    refine q_getI dX10_eventTo_38 fl10_311 (kR2 hW0 ta1) c4 ?_
    refine q_isubE dX10_eventTo_41 (by intros; omega) ?_
    intro v19 h20
    refine q_iald dX10_eventTo_42 (kR28 hW0 ta16) (ti_in (nR28 hW0 ta16) (by omega) (by omega)) ?_
    intro v21 c22
    have b23 := iv28 hW0 ta16 c22
    exact tr_iret hZ dX10_eventTo_43 rfl (by decide) (by decide) ⟨v21, rfl, rfl, rfl, rfl, rfl, rfl, rfl, (fun al nw h1 h2 => by obtain rfl := Option.some.inj (d2.symm.trans h1); obtain rfl := Option.some.inj (d7.symm.trans h2); refine ⟨fun q => absurd q (by rw [c4]; omega), fun _ => ⟨fun q => absurd q (by decide), fun q => absurd q (by decide), fun q => absurd q (by decide), fun _ r hr => by obtain rfl := Option.some.inj (d17.symm.trans hr); have z := c22; rw [show v19.toNatClampNeg = (x1.toInt - (I0 a1 3).toInt).toNat from congrArg Int.toNat (by rw [c4]; omega)] at z; rw [z]; first | done | omega⟩⟩), trivial⟩
  · skip
    refine tr_aload_n dX10_eventTo_11 rfl ?_
    refine tr_getR dX10_eventTo_12 fl10_16 (kR1 hW0 ta0) d2 ?_
    refine tr_getR dX10_eventTo_15 fl10_313 (kR2 hW0 ta1) d13 ?_
    refine tr_iload_n dX10_eventTo_18 rfl ?_
    obtain ⟨a24, d25, ta24⟩ := rf19 hW0 ta12 (j := x1.toNatClampNeg) (ti_lt (by omega) (by omega))
    refine tr_aald dX10_eventTo_19 (kR19 hW0 ta12) (by decide) (by decide) (ti_in (nR19 hW0 ta12) (by omega) (by omega)) d25 ?_
    obtain ⟨v26, c27⟩ : ∃ v, I0 a24 3 = v := ⟨_, rfl⟩
    have b28 := iv3_3 hW0 ta24 c27
    refine q_getI dX10_eventTo_20 fl10_366 (kR3 hW0 ta24) c27 ?_
    refine tr_goto 43 dX10_eventTo_23 (by decide) ?_
    exact tr_iret hZ dX10_eventTo_43 rfl (by decide) (by decide) ⟨v26, rfl, rfl, rfl, rfl, rfl, rfl, rfl, (fun al nw h1 h2 => by obtain rfl := Option.some.inj (d2.symm.trans h1); obtain rfl := Option.some.inj (d7.symm.trans h2); refine ⟨fun _ V ob h3 h4 => ?_, fun q => absurd (by rw [c4]; omega) q⟩; obtain rfl := Option.some.inj (d13.symm.trans h3); have z := d25; rw [show x1.toNatClampNeg = x1.toInt.toNat from congrArg Int.toNat (by omega)] at z; obtain rfl := Option.some.inj (z.symm.trans h4); show _ = (I0 _ 3).toInt; rw [c27]; first | done | omega), trivial⟩
def wik_X10_event : List Nat := [81]
def wrk_X10_event : List Nat := []
def Cs_X10_event (T : Nat → Nat) (I0 : cz_I) (R0 : cz_R) (a0 : Nat) (x1 : Int32) (x2 : Int32) (v : Int32) (I' : cz_I) (R' : cz_R) : Prop :=
  ((∀ b1, R0 a0 2 = some b1 → ∀ b2, R0 a0 6 = some b2 → (((x1.toInt < 0 ∨ x1.toInt ≥ (I0 b1 3).toInt + (I0 b2 2).toInt) ∨ x2.toInt < 0) ∨ x2.toInt > 3)) ∧ (v.toInt = -1) ∧ (SmC T I0 R0 I' R0) ∧ True) ∨
  ((0 ≤ x1.toInt) ∧ (∀ b1, R0 a0 2 = some b1 → ∀ b2, R0 a0 6 = some b2 → x1.toInt < (I0 b1 3).toInt + (I0 b2 2).toInt) ∧ (0 ≤ x2.toInt) ∧ (x2.toInt ≤ 3) ∧ (SmC T I0 R0 I' R0) ∧ (EvV I0 R0 a0 x1.toInt x2.toInt v.toInt) ∧ True)
set_option maxHeartbeats 4000000 in
theorem fk_X10_event {l : Launch} {T : Nat → Nat} {cn : Nat} {K N : Nat → Nat} {I0 : cz_I} {R0 : cz_R} {L0 : cz_L} {d : Int} (hW0 : Wf T cn K N I0 R0 d)  {a0 : Nat} (ta0 : T a0 = 1) {x1 : Int32} {x2 : Int32} : ConE l mX10_event [.ref a0, .int x1, .int x2] cn K N I0 R0 L0 (ca_i (fun v cn' K' N' I' R' L' => cn = cn' ∧ K = K' ∧ N = N' ∧ R0 = R' ∧ L0 = L' ∧ St T cn K N d wik_X10_event wrk_X10_event I0 R0 I' R0 ∧ Cs_X10_event T I0 R0 a0 x1 x2 v I' R0 ∧ True)) := by
  refine ConE.of (by decide +kernel) rfl (Nat.le_of_ble_eq_true rfl) rfl (fun X hX hZ hE => ?_)
  subst hX
  have hS0 : St T cn K N d wik_X10_event wrk_X10_event I0 R0 I0 R0 := St.rf0 hW0
  obtain ⟨a1, d2, ta1⟩ := rf1_2 hW0 ta0
  obtain ⟨v3, c4⟩ : ∃ v, I0 a1 3 = v := ⟨_, rfl⟩
  have b5 := iv2_3 hW0 ta1 c4
  obtain ⟨a6, d7, ta6⟩ := rf1_6 hW0 ta0
  obtain ⟨v8, c9⟩ : ∃ v, I0 a6 2 = v := ⟨_, rfl⟩
  have b10 := iv8_2 hW0 ta6 c9
  obtain ⟨a11, d12, ta11⟩ := rf2_4 hW0 ta1
  obtain ⟨a13, d14, ta13⟩ := rf8_3 hW0 ta6
  obtain ⟨a15, d16, ta15⟩ := rf8_4 hW0 ta6
  refine tr_aload_n dX10_event_0 rfl ?_
  refine tr_iload_n dX10_event_1 rfl ?_
  refine q_callVi hE (M' := mX10_isEvent) (as := [_]) dX10_event_2 lk10_234 inX10_isEvent seX10_isEvent myX10_isEvent (by decide) ⟨by decide, by decide⟩ rfl (kR1 hS0.1 ta0) (Nat.le_of_ble_eq_true rfl) rfl rfl (by decide) (by decide) (fk_X10_isEvent hS0.1  ta0) ?_
  rintro v22 cn' K' N' I17 R18 L19 ⟨rfl, rfl, rfl, rfl, rfl, rfl, h23, p24, p25, -⟩
  have p26 := p24 _ d2 _ d7
  clear p24
  rw [c4] at p26
  rw [c9] at p26
  have p27 := p25 _ d2 _ d7
  clear p25
  rw [c4] at p27
  rw [c9] at p27
  refine q_if_ne 14 dX10_event_5 (by decide) (fun h28 => ?_) (fun h28 => ?_)
  · skip
    refine tr_iload_n dX10_event_14 rfl ?_
    refine tr_aload_n dX10_event_15 rfl ?_
    refine tr_getR dX10_event_16 fl10_16 (kR1 hS0.1 ta0) d2 ?_
    refine q_getI dX10_event_19 fl10_311 (kR2 hS0.1 ta1) c4 ?_
    refine q_icmp_ge 29 dX10_event_22 (by decide) (fun h29 => ?_) (fun h29 => ?_)
    · skip
      refine q_iconst dX10_event_29 (by decide) ?_
      intro v30 h31
      refine tr_istore_n dX10_event_30 (by decide) (by decide) ?_
      refine tr_iload_n dX10_event_31 rfl ?_
      by_cases h32 : x2.toInt = 0
      · skip
        refine tr_tabIn (off := 32) 64 dX10_event_32 (by omega) (by omega) (by rw [h32]; decide +kernel) (by decide) ?_
        refine tr_aload_n dX10_event_64 rfl ?_
        refine tr_iload_n dX10_event_65 rfl ?_
        refine q_if_eq 84 dX10_event_66 (by decide) (fun h33 => ?_) (fun h33 => ?_)
        · skip
          refine q_iconst dX10_event_84 (by decide) ?_
          intro v34 h35
          refine q_callVi hE (M' := mX10_answered) (as := [_]) dX10_event_85 lk10_109 inX10_answered seX10_answered myX10_answered (by decide) ⟨by decide, by decide⟩ rfl (kR1 hS0.1 ta0) (Nat.le_of_ble_eq_true rfl) rfl rfl (by decide) (by decide) (fk_X10_answered hS0.1  ta0) ?_
          rintro v41 cn' K' N' I36 R37 L38 ⟨rfl, rfl, rfl, rfl, rfl, g39, p42, p43, -⟩
          have hS44 := hS0.tr g39 (by decide +kernel) (by decide +kernel)
          obtain ⟨v45, c46⟩ : ∃ v, I36 a0 17 = v := ⟨_, rfl⟩
          rw [c46] at p43
          exact tr_iret hZ dX10_event_88 rfl (by decide) (by decide) ⟨v41, rfl, rfl, rfl, rfl, rfl, rfl, hS44, (Or.inr (⟨(by first | done | with_reducible assumption | omega), (fun q0 z0 => fun q1 z1 => by obtain rfl := Option.some.inj ((d2).symm.trans z0); obtain rfl := Option.some.inj ((d7).symm.trans z1); (try rw [c4]); (try rw [c9]); first | done | with_reducible assumption | omega), (by first | done | with_reducible assumption | omega), (by first | done | with_reducible assumption | omega), ⟨rfl, fun a j h => by rcases h with h | h | h | h | h | h | h; exact (g39.cell h (wm_no (by decide +kernel))); exact (g39.cell h (wm_no (by decide +kernel))); exact (g39.cell h (wm_no (by decide +kernel))); exact (g39.cell h (wm_no (by decide +kernel))); exact (g39.cell h (wm_no (by decide +kernel))); exact (g39.cell h (wm_no (by decide +kernel))); exact (g39.cell h (wm_no (by decide +kernel)))⟩, (EvV.cg (show EvV I0 R0 a0 x1.toInt 0 v41.toInt from (fun al nw h1 h2 => by obtain rfl := Option.some.inj (d2.symm.trans h1); obtain rfl := Option.some.inj (d7.symm.trans h2); refine ⟨fun q => absurd q (by rw [c4]; omega), fun _ => ⟨fun _ => by omega, fun q => absurd q (by decide), fun q => absurd q (by decide), fun q => absurd q (by decide)⟩⟩)) (by omega) rfl), trivial⟩)), trivial⟩
        · skip
          exfalso; omega
      · skip
        by_cases h47 : x2.toInt = 1
        · skip
          refine tr_tabIn (off := 57) 89 dX10_event_32 (by omega) (by omega) (by rw [h47]; decide +kernel) (by decide) ?_
          refine tr_aload_n dX10_event_89 rfl ?_
          refine tr_iload_n dX10_event_90 rfl ?_
          refine q_if_eq 109 dX10_event_91 (by decide) (fun h48 => ?_) (fun h48 => ?_)
          · skip
            refine q_bipush dX10_event_109 (by decide +kernel) ?_
            intro v49 h50
            refine q_callVi hE (M' := mX10_answered) (as := [_]) dX10_event_111 lk10_109 inX10_answered seX10_answered myX10_answered (by decide) ⟨by decide, by decide⟩ rfl (kR1 hS0.1 ta0) (Nat.le_of_ble_eq_true rfl) rfl rfl (by decide) (by decide) (fk_X10_answered hS0.1  ta0) ?_
            rintro v56 cn' K' N' I51 R52 L53 ⟨rfl, rfl, rfl, rfl, rfl, g54, p57, p58, -⟩
            have hS59 := hS0.tr g54 (by decide +kernel) (by decide +kernel)
            obtain ⟨v60, c61⟩ : ∃ v, I51 a0 17 = v := ⟨_, rfl⟩
            rw [c61] at p58
            exact tr_iret hZ dX10_event_114 rfl (by decide) (by decide) ⟨v56, rfl, rfl, rfl, rfl, rfl, rfl, hS59, (Or.inr (⟨(by first | done | with_reducible assumption | omega), (fun q0 z0 => fun q1 z1 => by obtain rfl := Option.some.inj ((d2).symm.trans z0); obtain rfl := Option.some.inj ((d7).symm.trans z1); (try rw [c4]); (try rw [c9]); first | done | with_reducible assumption | omega), (by first | done | with_reducible assumption | omega), (by first | done | with_reducible assumption | omega), ⟨rfl, fun a j h => by rcases h with h | h | h | h | h | h | h; exact (g54.cell h (wm_no (by decide +kernel))); exact (g54.cell h (wm_no (by decide +kernel))); exact (g54.cell h (wm_no (by decide +kernel))); exact (g54.cell h (wm_no (by decide +kernel))); exact (g54.cell h (wm_no (by decide +kernel))); exact (g54.cell h (wm_no (by decide +kernel))); exact (g54.cell h (wm_no (by decide +kernel)))⟩, (EvV.cg (show EvV I0 R0 a0 x1.toInt 1 v56.toInt from (fun al nw h1 h2 => by obtain rfl := Option.some.inj (d2.symm.trans h1); obtain rfl := Option.some.inj (d7.symm.trans h2); refine ⟨fun q => absurd q (by rw [c4]; omega), fun _ => ⟨fun q => absurd q (by decide), fun _ => by omega, fun q => absurd q (by decide), fun q => absurd q (by decide)⟩⟩)) (by omega) rfl), trivial⟩)), trivial⟩
          · skip
            exfalso; omega
        · skip
          by_cases h62 : x2.toInt = 2
          · skip
            refine tr_tabIn (off := 83) 115 dX10_event_32 (by omega) (by omega) (by rw [h62]; decide +kernel) (by decide) ?_
            refine tr_aload_n dX10_event_115 rfl ?_
            refine tr_aload_n dX10_event_116 rfl ?_
            refine tr_iload_n dX10_event_117 rfl ?_
            refine q_callVi hE (M' := mX10_eventFrom) (as := [_]) dX10_event_118 lk10_228 inX10_eventFrom seX10_eventFrom myX10_eventFrom (by decide) ⟨by decide, by decide⟩ rfl (kR1 hS0.1 ta0) (Nat.le_of_ble_eq_true rfl) rfl rfl (by decide) (by decide) (fk_X10_eventFrom hS0.1  ta0 (by omega) (fun q0 z0 => fun q1 z1 => by obtain rfl := Option.some.inj ((d2).symm.trans z0); obtain rfl := Option.some.inj ((d7).symm.trans z1); (try rw [c4]); (try rw [c9]); first | done | with_reducible assumption | omega)) ?_
            rintro v68 cn' K' N' I63 R64 L65 ⟨rfl, rfl, rfl, rfl, rfl, rfl, rp69, -⟩
            refine q_callVi hE (M' := mX10_answered) (as := [_]) dX10_event_121 lk10_109 inX10_answered seX10_answered myX10_answered (by decide) ⟨by decide, by decide⟩ rfl (kR1 hS0.1 ta0) (Nat.le_of_ble_eq_true rfl) rfl rfl (by decide) (by decide) (fk_X10_answered hS0.1  ta0) ?_
            rintro v75 cn' K' N' I70 R71 L72 ⟨rfl, rfl, rfl, rfl, rfl, g73, p76, p77, -⟩
            have hS78 := hS0.tr g73 (by decide +kernel) (by decide +kernel)
            obtain ⟨v79, c80⟩ : ∃ v, I70 a0 17 = v := ⟨_, rfl⟩
            rw [c80] at p77
            exact tr_iret hZ dX10_event_124 rfl (by decide) (by decide) ⟨v75, rfl, rfl, rfl, rfl, rfl, rfl, hS78, (by first | exact Or.inl ⟨(fun q0 z0 => fun q1 z1 => by obtain rfl := Option.some.inj ((d2).symm.trans z0); obtain rfl := Option.some.inj ((d7).symm.trans z1); (try rw [c4]); (try rw [c9]); first | done | with_reducible assumption | omega), (by first | done | with_reducible assumption | omega), ⟨rfl, fun a j h => by rcases h with h | h | h | h | h | h | h; exact (g73.cell h (wm_no (by decide +kernel))); exact (g73.cell h (wm_no (by decide +kernel))); exact (g73.cell h (wm_no (by decide +kernel))); exact (g73.cell h (wm_no (by decide +kernel))); exact (g73.cell h (wm_no (by decide +kernel))); exact (g73.cell h (wm_no (by decide +kernel))); exact (g73.cell h (wm_no (by decide +kernel)))⟩, trivial⟩ | exact Or.inr (⟨(by first | done | with_reducible assumption | omega), (fun q0 z0 => fun q1 z1 => by obtain rfl := Option.some.inj ((d2).symm.trans z0); obtain rfl := Option.some.inj ((d7).symm.trans z1); (try rw [c4]); (try rw [c9]); first | done | with_reducible assumption | omega), (by first | done | with_reducible assumption | omega), (by first | done | with_reducible assumption | omega), ⟨rfl, fun a j h => by rcases h with h | h | h | h | h | h | h; exact (g73.cell h (wm_no (by decide +kernel))); exact (g73.cell h (wm_no (by decide +kernel))); exact (g73.cell h (wm_no (by decide +kernel))); exact (g73.cell h (wm_no (by decide +kernel))); exact (g73.cell h (wm_no (by decide +kernel))); exact (g73.cell h (wm_no (by decide +kernel))); exact (g73.cell h (wm_no (by decide +kernel)))⟩, (EvV.cg rp69 (by omega) (by omega)), trivial⟩)), trivial⟩
          · skip
            by_cases h81 : x2.toInt = 3
            · skip
              refine tr_tabIn (off := 93) 125 dX10_event_32 (by omega) (by omega) (by rw [h81]; decide +kernel) (by decide) ?_
              refine tr_aload_n dX10_event_125 rfl ?_
              refine tr_aload_n dX10_event_126 rfl ?_
              refine tr_iload_n dX10_event_127 rfl ?_
              refine q_callVi hE (M' := mX10_eventTo) (as := [_]) dX10_event_128 lk10_231 inX10_eventTo seX10_eventTo myX10_eventTo (by decide) ⟨by decide, by decide⟩ rfl (kR1 hS0.1 ta0) (Nat.le_of_ble_eq_true rfl) rfl rfl (by decide) (by decide) (fk_X10_eventTo hS0.1  ta0 (by omega) (fun q0 z0 => fun q1 z1 => by obtain rfl := Option.some.inj ((d2).symm.trans z0); obtain rfl := Option.some.inj ((d7).symm.trans z1); (try rw [c4]); (try rw [c9]); first | done | with_reducible assumption | omega)) ?_
              rintro v87 cn' K' N' I82 R83 L84 ⟨rfl, rfl, rfl, rfl, rfl, rfl, rp88, -⟩
              refine q_callVi hE (M' := mX10_answered) (as := [_]) dX10_event_131 lk10_109 inX10_answered seX10_answered myX10_answered (by decide) ⟨by decide, by decide⟩ rfl (kR1 hS0.1 ta0) (Nat.le_of_ble_eq_true rfl) rfl rfl (by decide) (by decide) (fk_X10_answered hS0.1  ta0) ?_
              rintro v94 cn' K' N' I89 R90 L91 ⟨rfl, rfl, rfl, rfl, rfl, g92, p95, p96, -⟩
              have hS97 := hS0.tr g92 (by decide +kernel) (by decide +kernel)
              obtain ⟨v98, c99⟩ : ∃ v, I89 a0 17 = v := ⟨_, rfl⟩
              rw [c99] at p96
              exact tr_iret hZ dX10_event_134 rfl (by decide) (by decide) ⟨v94, rfl, rfl, rfl, rfl, rfl, rfl, hS97, (by first | exact Or.inl ⟨(fun q0 z0 => fun q1 z1 => by obtain rfl := Option.some.inj ((d2).symm.trans z0); obtain rfl := Option.some.inj ((d7).symm.trans z1); (try rw [c4]); (try rw [c9]); first | done | with_reducible assumption | omega), (by first | done | with_reducible assumption | omega), ⟨rfl, fun a j h => by rcases h with h | h | h | h | h | h | h; exact (g92.cell h (wm_no (by decide +kernel))); exact (g92.cell h (wm_no (by decide +kernel))); exact (g92.cell h (wm_no (by decide +kernel))); exact (g92.cell h (wm_no (by decide +kernel))); exact (g92.cell h (wm_no (by decide +kernel))); exact (g92.cell h (wm_no (by decide +kernel))); exact (g92.cell h (wm_no (by decide +kernel)))⟩, trivial⟩ | exact Or.inr (⟨(by first | done | with_reducible assumption | omega), (fun q0 z0 => fun q1 z1 => by obtain rfl := Option.some.inj ((d2).symm.trans z0); obtain rfl := Option.some.inj ((d7).symm.trans z1); (try rw [c4]); (try rw [c9]); first | done | with_reducible assumption | omega), (by first | done | with_reducible assumption | omega), (by first | done | with_reducible assumption | omega), ⟨rfl, fun a j h => by rcases h with h | h | h | h | h | h | h; exact (g92.cell h (wm_no (by decide +kernel))); exact (g92.cell h (wm_no (by decide +kernel))); exact (g92.cell h (wm_no (by decide +kernel))); exact (g92.cell h (wm_no (by decide +kernel))); exact (g92.cell h (wm_no (by decide +kernel))); exact (g92.cell h (wm_no (by decide +kernel))); exact (g92.cell h (wm_no (by decide +kernel)))⟩, (EvV.cg rp88 (by omega) (by omega)), trivial⟩)), trivial⟩
            · skip
              refine tr_tabOut 135 dX10_event_32 (by omega) (by decide) ?_
              refine tr_aload_n dX10_event_135 rfl ?_
              refine q_iconst dX10_event_136 (by decide) ?_
              intro v100 h101
              refine q_callVi hE (M' := mX10_refused) (as := [_]) dX10_event_137 lk10_79 inX10_refused seX10_refused myX10_refused (by decide) ⟨by decide, by decide⟩ rfl (kR1 hS0.1 ta0) (Nat.le_of_ble_eq_true rfl) rfl rfl (by decide) (by decide) (fk_X10_refused hS0.1  ta0) ?_
              rintro v107 cn' K' N' I102 R103 L104 ⟨rfl, rfl, rfl, rfl, rfl, g105, p108, p109, -⟩
              have hS110 := hS0.tr g105 (by decide +kernel) (by decide +kernel)
              obtain ⟨v111, c112⟩ : ∃ v, I102 a0 17 = v := ⟨_, rfl⟩
              rw [c112] at p109
              exact tr_iret hZ dX10_event_140 rfl (by decide) (by decide) ⟨v107, rfl, rfl, rfl, rfl, rfl, rfl, hS110, (by first | exact Or.inl ⟨(fun q0 z0 => fun q1 z1 => by obtain rfl := Option.some.inj ((d2).symm.trans z0); obtain rfl := Option.some.inj ((d7).symm.trans z1); (try rw [c4]); (try rw [c9]); first | done | with_reducible assumption | omega), (by first | done | with_reducible assumption | omega), ⟨rfl, fun a j h => by rcases h with h | h | h | h | h | h | h; exact (g105.cell h (wm_no (by decide +kernel))); exact (g105.cell h (wm_no (by decide +kernel))); exact (g105.cell h (wm_no (by decide +kernel))); exact (g105.cell h (wm_no (by decide +kernel))); exact (g105.cell h (wm_no (by decide +kernel))); exact (g105.cell h (wm_no (by decide +kernel))); exact (g105.cell h (wm_no (by decide +kernel)))⟩, trivial⟩ | exact Or.inr (⟨(by first | done | with_reducible assumption | omega), (fun q0 z0 => fun q1 z1 => by obtain rfl := Option.some.inj ((d2).symm.trans z0); obtain rfl := Option.some.inj ((d7).symm.trans z1); (try rw [c4]); (try rw [c9]); first | done | with_reducible assumption | omega), (by first | done | with_reducible assumption | omega), (by first | done | with_reducible assumption | omega), ⟨rfl, fun a j h => by rcases h with h | h | h | h | h | h | h; exact (g105.cell h (wm_no (by decide +kernel))); exact (g105.cell h (wm_no (by decide +kernel))); exact (g105.cell h (wm_no (by decide +kernel))); exact (g105.cell h (wm_no (by decide +kernel))); exact (g105.cell h (wm_no (by decide +kernel))); exact (g105.cell h (wm_no (by decide +kernel))); exact (g105.cell h (wm_no (by decide +kernel)))⟩, (by omega), trivial⟩)), trivial⟩
    · skip
      refine q_iconst dX10_event_25 (by decide) ?_
      intro v113 h114
      refine tr_goto 30 dX10_event_26 (by decide) ?_
      refine tr_istore_n dX10_event_30 (by decide) (by decide) ?_
      refine tr_iload_n dX10_event_31 rfl ?_
      by_cases h115 : x2.toInt = 0
      · skip
        refine tr_tabIn (off := 32) 64 dX10_event_32 (by omega) (by omega) (by rw [h115]; decide +kernel) (by decide) ?_
        refine tr_aload_n dX10_event_64 rfl ?_
        refine tr_iload_n dX10_event_65 rfl ?_
        refine q_if_eq 84 dX10_event_66 (by decide) (fun h116 => ?_) (fun h116 => ?_)
        · skip
          exfalso; omega
        · skip
          refine tr_aload_n dX10_event_69 rfl ?_
          refine tr_getR dX10_event_70 fl10_16 (kR1 hS0.1 ta0) d2 ?_
          refine tr_getR dX10_event_73 fl10_313 (kR2 hS0.1 ta1) d12 ?_
          refine tr_iload_n dX10_event_76 rfl ?_
          obtain ⟨a117, d118, ta117⟩ := rf19 hS0.1 ta11 (j := x1.toNatClampNeg) (ti_lt (by omega) (by omega))
          refine tr_aald dX10_event_77 (kR19 hS0.1 ta11) (by decide) (by decide) (ti_in (nR19 hS0.1 ta11) (by omega) (by omega)) d118 ?_
          obtain ⟨v119, c120⟩ : ∃ v, I0 a117 0 = v := ⟨_, rfl⟩
          refine q_getI dX10_event_78 fl10_317 (kR3 hS0.1 ta117) c120 ?_
          refine tr_goto 85 dX10_event_81 (by decide) ?_
          refine q_callVi hE (M' := mX10_answered) (as := [_]) dX10_event_85 lk10_109 inX10_answered seX10_answered myX10_answered (by decide) ⟨by decide, by decide⟩ rfl (kR1 hS0.1 ta0) (Nat.le_of_ble_eq_true rfl) rfl rfl (by decide) (by decide) (fk_X10_answered hS0.1  ta0) ?_
          rintro v126 cn' K' N' I121 R122 L123 ⟨rfl, rfl, rfl, rfl, rfl, g124, p127, p128, -⟩
          have hS129 := hS0.tr g124 (by decide +kernel) (by decide +kernel)
          obtain ⟨v130, c131⟩ : ∃ v, I121 a0 17 = v := ⟨_, rfl⟩
          rw [c131] at p128
          exact tr_iret hZ dX10_event_88 rfl (by decide) (by decide) ⟨v126, rfl, rfl, rfl, rfl, rfl, rfl, hS129, (by first | exact Or.inl ⟨(fun q0 z0 => fun q1 z1 => by obtain rfl := Option.some.inj ((d2).symm.trans z0); obtain rfl := Option.some.inj ((d7).symm.trans z1); (try rw [c4]); (try rw [c9]); first | done | with_reducible assumption | omega), (by first | done | with_reducible assumption | omega), ⟨rfl, fun a j h => by rcases h with h | h | h | h | h | h | h; exact (g124.cell h (wm_no (by decide +kernel))); exact (g124.cell h (wm_no (by decide +kernel))); exact (g124.cell h (wm_no (by decide +kernel))); exact (g124.cell h (wm_no (by decide +kernel))); exact (g124.cell h (wm_no (by decide +kernel))); exact (g124.cell h (wm_no (by decide +kernel))); exact (g124.cell h (wm_no (by decide +kernel)))⟩, trivial⟩ | exact Or.inr (⟨(by first | done | with_reducible assumption | omega), (fun q0 z0 => fun q1 z1 => by obtain rfl := Option.some.inj ((d2).symm.trans z0); obtain rfl := Option.some.inj ((d7).symm.trans z1); (try rw [c4]); (try rw [c9]); first | done | with_reducible assumption | omega), (by first | done | with_reducible assumption | omega), (by first | done | with_reducible assumption | omega), ⟨rfl, fun a j h => by rcases h with h | h | h | h | h | h | h; exact (g124.cell h (wm_no (by decide +kernel))); exact (g124.cell h (wm_no (by decide +kernel))); exact (g124.cell h (wm_no (by decide +kernel))); exact (g124.cell h (wm_no (by decide +kernel))); exact (g124.cell h (wm_no (by decide +kernel))); exact (g124.cell h (wm_no (by decide +kernel))); exact (g124.cell h (wm_no (by decide +kernel)))⟩, (EvV.cg (show EvV I0 R0 a0 x1.toInt 0 v126.toInt from (fun al nw h1 h2 => by obtain rfl := Option.some.inj (d2.symm.trans h1); obtain rfl := Option.some.inj (d7.symm.trans h2); refine ⟨fun _ V ob h3 h4 => ?_, fun q => absurd (by rw [c4]; omega) q⟩; obtain rfl := Option.some.inj (d12.symm.trans h3); have z := d118; rw [show x1.toNatClampNeg = x1.toInt.toNat from congrArg Int.toNat (by omega)] at z; obtain rfl := Option.some.inj (z.symm.trans h4); show _ = (I0 _ 0).toInt; rw [c120]; first | done | omega)) (by omega) rfl), trivial⟩)), trivial⟩
      · skip
        by_cases h132 : x2.toInt = 1
        · skip
          refine tr_tabIn (off := 57) 89 dX10_event_32 (by omega) (by omega) (by rw [h132]; decide +kernel) (by decide) ?_
          refine tr_aload_n dX10_event_89 rfl ?_
          refine tr_iload_n dX10_event_90 rfl ?_
          refine q_if_eq 109 dX10_event_91 (by decide) (fun h133 => ?_) (fun h133 => ?_)
          · skip
            exfalso; omega
          · skip
            refine tr_aload_n dX10_event_94 rfl ?_
            refine tr_getR dX10_event_95 fl10_16 (kR1 hS0.1 ta0) d2 ?_
            refine tr_getR dX10_event_98 fl10_313 (kR2 hS0.1 ta1) d12 ?_
            refine tr_iload_n dX10_event_101 rfl ?_
            obtain ⟨a134, d135, ta134⟩ := rf19 hS0.1 ta11 (j := x1.toNatClampNeg) (ti_lt (by omega) (by omega))
            refine tr_aald dX10_event_102 (kR19 hS0.1 ta11) (by decide) (by decide) (ti_in (nR19 hS0.1 ta11) (by omega) (by omega)) d135 ?_
            obtain ⟨v136, c137⟩ : ∃ v, I0 a134 1 = v := ⟨_, rfl⟩
            refine q_getI dX10_event_103 fl10_322 (kR3 hS0.1 ta134) c137 ?_
            refine tr_goto 111 dX10_event_106 (by decide) ?_
            refine q_callVi hE (M' := mX10_answered) (as := [_]) dX10_event_111 lk10_109 inX10_answered seX10_answered myX10_answered (by decide) ⟨by decide, by decide⟩ rfl (kR1 hS0.1 ta0) (Nat.le_of_ble_eq_true rfl) rfl rfl (by decide) (by decide) (fk_X10_answered hS0.1  ta0) ?_
            rintro v143 cn' K' N' I138 R139 L140 ⟨rfl, rfl, rfl, rfl, rfl, g141, p144, p145, -⟩
            have hS146 := hS0.tr g141 (by decide +kernel) (by decide +kernel)
            obtain ⟨v147, c148⟩ : ∃ v, I138 a0 17 = v := ⟨_, rfl⟩
            rw [c148] at p145
            exact tr_iret hZ dX10_event_114 rfl (by decide) (by decide) ⟨v143, rfl, rfl, rfl, rfl, rfl, rfl, hS146, (by first | exact Or.inl ⟨(fun q0 z0 => fun q1 z1 => by obtain rfl := Option.some.inj ((d2).symm.trans z0); obtain rfl := Option.some.inj ((d7).symm.trans z1); (try rw [c4]); (try rw [c9]); first | done | with_reducible assumption | omega), (by first | done | with_reducible assumption | omega), ⟨rfl, fun a j h => by rcases h with h | h | h | h | h | h | h; exact (g141.cell h (wm_no (by decide +kernel))); exact (g141.cell h (wm_no (by decide +kernel))); exact (g141.cell h (wm_no (by decide +kernel))); exact (g141.cell h (wm_no (by decide +kernel))); exact (g141.cell h (wm_no (by decide +kernel))); exact (g141.cell h (wm_no (by decide +kernel))); exact (g141.cell h (wm_no (by decide +kernel)))⟩, trivial⟩ | exact Or.inr (⟨(by first | done | with_reducible assumption | omega), (fun q0 z0 => fun q1 z1 => by obtain rfl := Option.some.inj ((d2).symm.trans z0); obtain rfl := Option.some.inj ((d7).symm.trans z1); (try rw [c4]); (try rw [c9]); first | done | with_reducible assumption | omega), (by first | done | with_reducible assumption | omega), (by first | done | with_reducible assumption | omega), ⟨rfl, fun a j h => by rcases h with h | h | h | h | h | h | h; exact (g141.cell h (wm_no (by decide +kernel))); exact (g141.cell h (wm_no (by decide +kernel))); exact (g141.cell h (wm_no (by decide +kernel))); exact (g141.cell h (wm_no (by decide +kernel))); exact (g141.cell h (wm_no (by decide +kernel))); exact (g141.cell h (wm_no (by decide +kernel))); exact (g141.cell h (wm_no (by decide +kernel)))⟩, (EvV.cg (show EvV I0 R0 a0 x1.toInt 1 v143.toInt from (fun al nw h1 h2 => by obtain rfl := Option.some.inj (d2.symm.trans h1); obtain rfl := Option.some.inj (d7.symm.trans h2); refine ⟨fun _ V ob h3 h4 => ?_, fun q => absurd (by rw [c4]; omega) q⟩; obtain rfl := Option.some.inj (d12.symm.trans h3); have z := d135; rw [show x1.toNatClampNeg = x1.toInt.toNat from congrArg Int.toNat (by omega)] at z; obtain rfl := Option.some.inj (z.symm.trans h4); show _ = (I0 _ 1).toInt; rw [c137]; first | done | omega)) (by omega) rfl), trivial⟩)), trivial⟩
        · skip
          by_cases h149 : x2.toInt = 2
          · skip
            refine tr_tabIn (off := 83) 115 dX10_event_32 (by omega) (by omega) (by rw [h149]; decide +kernel) (by decide) ?_
            refine tr_aload_n dX10_event_115 rfl ?_
            refine tr_aload_n dX10_event_116 rfl ?_
            refine tr_iload_n dX10_event_117 rfl ?_
            refine q_callVi hE (M' := mX10_eventFrom) (as := [_]) dX10_event_118 lk10_228 inX10_eventFrom seX10_eventFrom myX10_eventFrom (by decide) ⟨by decide, by decide⟩ rfl (kR1 hS0.1 ta0) (Nat.le_of_ble_eq_true rfl) rfl rfl (by decide) (by decide) (fk_X10_eventFrom hS0.1  ta0 (by omega) (fun q0 z0 => fun q1 z1 => by obtain rfl := Option.some.inj ((d2).symm.trans z0); obtain rfl := Option.some.inj ((d7).symm.trans z1); (try rw [c4]); (try rw [c9]); first | done | with_reducible assumption | omega)) ?_
            rintro v155 cn' K' N' I150 R151 L152 ⟨rfl, rfl, rfl, rfl, rfl, rfl, rp156, -⟩
            refine q_callVi hE (M' := mX10_answered) (as := [_]) dX10_event_121 lk10_109 inX10_answered seX10_answered myX10_answered (by decide) ⟨by decide, by decide⟩ rfl (kR1 hS0.1 ta0) (Nat.le_of_ble_eq_true rfl) rfl rfl (by decide) (by decide) (fk_X10_answered hS0.1  ta0) ?_
            rintro v162 cn' K' N' I157 R158 L159 ⟨rfl, rfl, rfl, rfl, rfl, g160, p163, p164, -⟩
            have hS165 := hS0.tr g160 (by decide +kernel) (by decide +kernel)
            obtain ⟨v166, c167⟩ : ∃ v, I157 a0 17 = v := ⟨_, rfl⟩
            rw [c167] at p164
            exact tr_iret hZ dX10_event_124 rfl (by decide) (by decide) ⟨v162, rfl, rfl, rfl, rfl, rfl, rfl, hS165, (by first | exact Or.inl ⟨(fun q0 z0 => fun q1 z1 => by obtain rfl := Option.some.inj ((d2).symm.trans z0); obtain rfl := Option.some.inj ((d7).symm.trans z1); (try rw [c4]); (try rw [c9]); first | done | with_reducible assumption | omega), (by first | done | with_reducible assumption | omega), ⟨rfl, fun a j h => by rcases h with h | h | h | h | h | h | h; exact (g160.cell h (wm_no (by decide +kernel))); exact (g160.cell h (wm_no (by decide +kernel))); exact (g160.cell h (wm_no (by decide +kernel))); exact (g160.cell h (wm_no (by decide +kernel))); exact (g160.cell h (wm_no (by decide +kernel))); exact (g160.cell h (wm_no (by decide +kernel))); exact (g160.cell h (wm_no (by decide +kernel)))⟩, trivial⟩ | exact Or.inr (⟨(by first | done | with_reducible assumption | omega), (fun q0 z0 => fun q1 z1 => by obtain rfl := Option.some.inj ((d2).symm.trans z0); obtain rfl := Option.some.inj ((d7).symm.trans z1); (try rw [c4]); (try rw [c9]); first | done | with_reducible assumption | omega), (by first | done | with_reducible assumption | omega), (by first | done | with_reducible assumption | omega), ⟨rfl, fun a j h => by rcases h with h | h | h | h | h | h | h; exact (g160.cell h (wm_no (by decide +kernel))); exact (g160.cell h (wm_no (by decide +kernel))); exact (g160.cell h (wm_no (by decide +kernel))); exact (g160.cell h (wm_no (by decide +kernel))); exact (g160.cell h (wm_no (by decide +kernel))); exact (g160.cell h (wm_no (by decide +kernel))); exact (g160.cell h (wm_no (by decide +kernel)))⟩, (EvV.cg rp156 (by omega) (by omega)), trivial⟩)), trivial⟩
          · skip
            by_cases h168 : x2.toInt = 3
            · skip
              refine tr_tabIn (off := 93) 125 dX10_event_32 (by omega) (by omega) (by rw [h168]; decide +kernel) (by decide) ?_
              refine tr_aload_n dX10_event_125 rfl ?_
              refine tr_aload_n dX10_event_126 rfl ?_
              refine tr_iload_n dX10_event_127 rfl ?_
              refine q_callVi hE (M' := mX10_eventTo) (as := [_]) dX10_event_128 lk10_231 inX10_eventTo seX10_eventTo myX10_eventTo (by decide) ⟨by decide, by decide⟩ rfl (kR1 hS0.1 ta0) (Nat.le_of_ble_eq_true rfl) rfl rfl (by decide) (by decide) (fk_X10_eventTo hS0.1  ta0 (by omega) (fun q0 z0 => fun q1 z1 => by obtain rfl := Option.some.inj ((d2).symm.trans z0); obtain rfl := Option.some.inj ((d7).symm.trans z1); (try rw [c4]); (try rw [c9]); first | done | with_reducible assumption | omega)) ?_
              rintro v174 cn' K' N' I169 R170 L171 ⟨rfl, rfl, rfl, rfl, rfl, rfl, rp175, -⟩
              refine q_callVi hE (M' := mX10_answered) (as := [_]) dX10_event_131 lk10_109 inX10_answered seX10_answered myX10_answered (by decide) ⟨by decide, by decide⟩ rfl (kR1 hS0.1 ta0) (Nat.le_of_ble_eq_true rfl) rfl rfl (by decide) (by decide) (fk_X10_answered hS0.1  ta0) ?_
              rintro v181 cn' K' N' I176 R177 L178 ⟨rfl, rfl, rfl, rfl, rfl, g179, p182, p183, -⟩
              have hS184 := hS0.tr g179 (by decide +kernel) (by decide +kernel)
              obtain ⟨v185, c186⟩ : ∃ v, I176 a0 17 = v := ⟨_, rfl⟩
              rw [c186] at p183
              exact tr_iret hZ dX10_event_134 rfl (by decide) (by decide) ⟨v181, rfl, rfl, rfl, rfl, rfl, rfl, hS184, (by first | exact Or.inl ⟨(fun q0 z0 => fun q1 z1 => by obtain rfl := Option.some.inj ((d2).symm.trans z0); obtain rfl := Option.some.inj ((d7).symm.trans z1); (try rw [c4]); (try rw [c9]); first | done | with_reducible assumption | omega), (by first | done | with_reducible assumption | omega), ⟨rfl, fun a j h => by rcases h with h | h | h | h | h | h | h; exact (g179.cell h (wm_no (by decide +kernel))); exact (g179.cell h (wm_no (by decide +kernel))); exact (g179.cell h (wm_no (by decide +kernel))); exact (g179.cell h (wm_no (by decide +kernel))); exact (g179.cell h (wm_no (by decide +kernel))); exact (g179.cell h (wm_no (by decide +kernel))); exact (g179.cell h (wm_no (by decide +kernel)))⟩, trivial⟩ | exact Or.inr (⟨(by first | done | with_reducible assumption | omega), (fun q0 z0 => fun q1 z1 => by obtain rfl := Option.some.inj ((d2).symm.trans z0); obtain rfl := Option.some.inj ((d7).symm.trans z1); (try rw [c4]); (try rw [c9]); first | done | with_reducible assumption | omega), (by first | done | with_reducible assumption | omega), (by first | done | with_reducible assumption | omega), ⟨rfl, fun a j h => by rcases h with h | h | h | h | h | h | h; exact (g179.cell h (wm_no (by decide +kernel))); exact (g179.cell h (wm_no (by decide +kernel))); exact (g179.cell h (wm_no (by decide +kernel))); exact (g179.cell h (wm_no (by decide +kernel))); exact (g179.cell h (wm_no (by decide +kernel))); exact (g179.cell h (wm_no (by decide +kernel))); exact (g179.cell h (wm_no (by decide +kernel)))⟩, (EvV.cg rp175 (by omega) (by omega)), trivial⟩)), trivial⟩
            · skip
              refine tr_tabOut 135 dX10_event_32 (by omega) (by decide) ?_
              refine tr_aload_n dX10_event_135 rfl ?_
              refine q_iconst dX10_event_136 (by decide) ?_
              intro v187 h188
              refine q_callVi hE (M' := mX10_refused) (as := [_]) dX10_event_137 lk10_79 inX10_refused seX10_refused myX10_refused (by decide) ⟨by decide, by decide⟩ rfl (kR1 hS0.1 ta0) (Nat.le_of_ble_eq_true rfl) rfl rfl (by decide) (by decide) (fk_X10_refused hS0.1  ta0) ?_
              rintro v194 cn' K' N' I189 R190 L191 ⟨rfl, rfl, rfl, rfl, rfl, g192, p195, p196, -⟩
              have hS197 := hS0.tr g192 (by decide +kernel) (by decide +kernel)
              obtain ⟨v198, c199⟩ : ∃ v, I189 a0 17 = v := ⟨_, rfl⟩
              rw [c199] at p196
              exact tr_iret hZ dX10_event_140 rfl (by decide) (by decide) ⟨v194, rfl, rfl, rfl, rfl, rfl, rfl, hS197, (by first | exact Or.inl ⟨(fun q0 z0 => fun q1 z1 => by obtain rfl := Option.some.inj ((d2).symm.trans z0); obtain rfl := Option.some.inj ((d7).symm.trans z1); (try rw [c4]); (try rw [c9]); first | done | with_reducible assumption | omega), (by first | done | with_reducible assumption | omega), ⟨rfl, fun a j h => by rcases h with h | h | h | h | h | h | h; exact (g192.cell h (wm_no (by decide +kernel))); exact (g192.cell h (wm_no (by decide +kernel))); exact (g192.cell h (wm_no (by decide +kernel))); exact (g192.cell h (wm_no (by decide +kernel))); exact (g192.cell h (wm_no (by decide +kernel))); exact (g192.cell h (wm_no (by decide +kernel))); exact (g192.cell h (wm_no (by decide +kernel)))⟩, trivial⟩ | exact Or.inr (⟨(by first | done | with_reducible assumption | omega), (fun q0 z0 => fun q1 z1 => by obtain rfl := Option.some.inj ((d2).symm.trans z0); obtain rfl := Option.some.inj ((d7).symm.trans z1); (try rw [c4]); (try rw [c9]); first | done | with_reducible assumption | omega), (by first | done | with_reducible assumption | omega), (by first | done | with_reducible assumption | omega), ⟨rfl, fun a j h => by rcases h with h | h | h | h | h | h | h; exact (g192.cell h (wm_no (by decide +kernel))); exact (g192.cell h (wm_no (by decide +kernel))); exact (g192.cell h (wm_no (by decide +kernel))); exact (g192.cell h (wm_no (by decide +kernel))); exact (g192.cell h (wm_no (by decide +kernel))); exact (g192.cell h (wm_no (by decide +kernel))); exact (g192.cell h (wm_no (by decide +kernel)))⟩, (by omega), trivial⟩)), trivial⟩
  · skip
    refine tr_aload_n dX10_event_8 rfl ?_
    refine q_iconst dX10_event_9 (by decide) ?_
    intro v200 h201
    refine q_callVi hE (M' := mX10_refused) (as := [_]) dX10_event_10 lk10_79 inX10_refused seX10_refused myX10_refused (by decide) ⟨by decide, by decide⟩ rfl (kR1 hS0.1 ta0) (Nat.le_of_ble_eq_true rfl) rfl rfl (by decide) (by decide) (fk_X10_refused hS0.1  ta0) ?_
    rintro v207 cn' K' N' I202 R203 L204 ⟨rfl, rfl, rfl, rfl, rfl, g205, p208, p209, -⟩
    have hS210 := hS0.tr g205 (by decide +kernel) (by decide +kernel)
    obtain ⟨v211, c212⟩ : ∃ v, I202 a0 17 = v := ⟨_, rfl⟩
    rw [c212] at p209
    exact tr_iret hZ dX10_event_13 rfl (by decide) (by decide) ⟨v207, rfl, rfl, rfl, rfl, rfl, rfl, hS210, (by first | exact Or.inl ⟨(fun q0 z0 => fun q1 z1 => by obtain rfl := Option.some.inj ((d2).symm.trans z0); obtain rfl := Option.some.inj ((d7).symm.trans z1); (try rw [c4]); (try rw [c9]); first | done | with_reducible assumption | omega), (by first | done | with_reducible assumption | omega), ⟨rfl, fun a j h => by rcases h with h | h | h | h | h | h | h; exact (g205.cell h (wm_no (by decide +kernel))); exact (g205.cell h (wm_no (by decide +kernel))); exact (g205.cell h (wm_no (by decide +kernel))); exact (g205.cell h (wm_no (by decide +kernel))); exact (g205.cell h (wm_no (by decide +kernel))); exact (g205.cell h (wm_no (by decide +kernel))); exact (g205.cell h (wm_no (by decide +kernel)))⟩, trivial⟩ | exact Or.inr (⟨(by first | done | with_reducible assumption | omega), (fun q0 z0 => fun q1 z1 => by obtain rfl := Option.some.inj ((d2).symm.trans z0); obtain rfl := Option.some.inj ((d7).symm.trans z1); (try rw [c4]); (try rw [c9]); first | done | with_reducible assumption | omega), (by first | done | with_reducible assumption | omega), (by first | done | with_reducible assumption | omega), ⟨rfl, fun a j h => by rcases h with h | h | h | h | h | h | h; exact (g205.cell h (wm_no (by decide +kernel))); exact (g205.cell h (wm_no (by decide +kernel))); exact (g205.cell h (wm_no (by decide +kernel))); exact (g205.cell h (wm_no (by decide +kernel))); exact (g205.cell h (wm_no (by decide +kernel))); exact (g205.cell h (wm_no (by decide +kernel))); exact (g205.cell h (wm_no (by decide +kernel)))⟩, (by omega), trivial⟩)), trivial⟩
set_option maxHeartbeats 4000000 in
theorem fk_X12_events {l : Launch} {T : Nat → Nat} {cn : Nat} {K N : Nat → Nat} {I0 : cz_I} {R0 : cz_R} {L0 : cz_L} {d : Int} (hW0 : Wf T cn K N I0 R0 d)  {a0 : Nat} (ta0 : T a0 = 15) (nn3 : ∃ b, R0 a0 3 = some b) : ConE l mX12_events [.ref a0] cn K N I0 R0 L0 (ca_i (fun v cn' K' N' I' R' L' => cn = cn' ∧ K = K' ∧ N = N' ∧ I0 = I' ∧ R0 = R' ∧ L0 = L' ∧ (∀ b1, R0 a0 3 = some b1 → ∀ b2, R0 a0 16 = some b2 → v.toInt = (I0 b1 2).toInt + (I0 b2 1).toInt) ∧ True)) := by
  refine ConE.of (by decide +kernel) rfl (Nat.le_of_ble_eq_true rfl) rfl (fun X hX hZ hE => ?_)
  subst hX
  obtain ⟨a1, d2⟩ := nn3
  have ta1 : T a1 = 14 := hW0.rsN ta0 rfl d2
  obtain ⟨v3, c4⟩ : ∃ v, I0 a1 2 = v := ⟨_, rfl⟩
  have b5 := iv14_2 hW0 ta1 c4
  obtain ⟨a6, d7, ta6⟩ := rf15_16 hW0 ta0
  obtain ⟨v8, c9⟩ : ∃ v, I0 a6 1 = v := ⟨_, rfl⟩
  have b10 := iv77_1 hW0 ta6 (by decide) c9
  refine tr_aload_n dX12_events_0 rfl ?_
  refine tr_getR dX12_events_1 fl12_385 (kR15 hW0 ta0) d2 ?_
  refine q_getI dX12_events_4 fl12_265 (kR14 hW0 ta1) c4 ?_
  refine tr_aload_n dX12_events_7 rfl ?_
  refine tr_getR dX12_events_8 fl12_17 (kR15 hW0 ta0) d7 ?_
  refine q_iconst dX12_events_11 (by decide) ?_
  intro v11 h12
  refine q_iald dX12_events_12 (kR77 hW0 ta6) (ti_in (nR77 hW0 ta6) (by omega) (by omega)) ?_
  intro v13 c14
  rw [show v11.toNatClampNeg = 1 from ti_cl (by omega)] at c14
  obtain rfl : v8 = v13 := (c9).symm.trans c14
  refine q_iaddE dX12_events_13 (by intros; omega) ?_
  intro v15 h16
  exact tr_iret hZ dX12_events_14 rfl (by decide) (by decide) ⟨v15, rfl, rfl, rfl, rfl, rfl, rfl, rfl, (fun q0 z0 => fun q1 z1 => by obtain rfl := Option.some.inj ((d2).symm.trans z0); obtain rfl := Option.some.inj ((d7).symm.trans z1); (try rw [c4]); (try rw [c9]); first | done | with_reducible assumption | omega), trivial⟩
set_option maxHeartbeats 4000000 in
theorem fk_X12_isEvent {l : Launch} {T : Nat → Nat} {cn : Nat} {K N : Nat → Nat} {I0 : cz_I} {R0 : cz_R} {L0 : cz_L} {d : Int} (hW0 : Wf T cn K N I0 R0 d)  {a0 : Nat} (ta0 : T a0 = 15) {x1 : Int32} : ConE l mX12_isEvent [.ref a0, .int x1] cn K N I0 R0 L0 (ca_i (fun v cn' K' N' I' R' L' => cn = cn' ∧ K = K' ∧ N = N' ∧ I0 = I' ∧ R0 = R' ∧ L0 = L' ∧ (0 ≤ v.toInt ∧ v.toInt ≤ 1) ∧ (((v.toInt = 0) ∧ (R0 a0 3 = none) ∧ True) ∨ ((v.toInt = 1) ∧ (0 ≤ x1.toInt) ∧ (∀ b1, R0 a0 3 = some b1 → ∀ b2, R0 a0 16 = some b2 → x1.toInt < (I0 b1 2).toInt + (I0 b2 1).toInt) ∧ (∃ b, R0 a0 3 = some b) ∧ True) ∨ ((v.toInt = 0) ∧ (∀ b1, R0 a0 3 = some b1 → ∀ b2, R0 a0 16 = some b2 → (x1.toInt < 0 ∨ x1.toInt ≥ (I0 b1 2).toInt + (I0 b2 1).toInt)) ∧ (∃ b, R0 a0 3 = some b) ∧ True)) ∧ True)) := by
  refine ConE.of (by decide +kernel) rfl (Nat.le_of_ble_eq_true rfl) rfl (fun X hX hZ hE => ?_)
  subst hX
  obtain ⟨a1, d2, ta1⟩ := rf15_16 hW0 ta0
  obtain ⟨v3, c4⟩ : ∃ v, I0 a1 1 = v := ⟨_, rfl⟩
  have b5 := iv77_1 hW0 ta1 (by decide) c4
  obtain ⟨v6, c7⟩ : ∃ v, I0 a0 19 = v := ⟨_, rfl⟩
  have b8 := iv15_19 hW0 ta0 c7
  obtain ⟨v9, c10⟩ : ∃ v, I0 a0 20 = v := ⟨_, rfl⟩
  have b11 := iv15_20 hW0 ta0 c10
  obtain ⟨a12, d13, ta12⟩ := rf15_17 hW0 ta0
  obtain ⟨a14, d15, ta14⟩ := rf15_18 hW0 ta0
  obtain ⟨v16, c17⟩ : ∃ v, I0 a1 0 = v := ⟨_, rfl⟩
  obtain ⟨v18, c19⟩ : ∃ v, I0 a1 2 = v := ⟨_, rfl⟩
  have b20 := iv77_2 hW0 ta1 (by decide) c19
  rcases rf15_3 hW0 ta0 with d22 | ⟨a21, d22, ta21⟩
  · skip
    refine tr_aload_n dX12_isEvent_0 rfl ?_
    refine tr_getN dX12_isEvent_1 fl12_385 (kR15 hW0 ta0) d22 ?_
    refine tr_ifnullN 23 dX12_isEvent_4 (by decide) ?_
    refine q_iconst dX12_isEvent_23 (by decide) ?_
    intro v23 h24
    exact tr_zret hZ dX12_isEvent_24 rfl (ti_b01 (by omega) (by omega)) (by decide) (by decide) ⟨v23, rfl, rfl, rfl, rfl, rfl, rfl, rfl, (by omega), (Or.inl ⟨(by first | done | with_reducible assumption | omega), d22, trivial⟩), trivial⟩
  · skip
    refine tr_aload_n dX12_isEvent_0 rfl ?_
    refine tr_getR dX12_isEvent_1 fl12_385 (kR15 hW0 ta0) d22 ?_
    refine tr_ifnull dX12_isEvent_4 ?_
    refine tr_iload_n dX12_isEvent_7 rfl ?_
    refine q_if_lt 23 dX12_isEvent_8 (by decide) (fun h25 => ?_) (fun h25 => ?_)
    · skip
      refine q_iconst dX12_isEvent_23 (by decide) ?_
      intro v26 h27
      obtain ⟨v28, c29⟩ : ∃ v, I0 a21 2 = v := ⟨_, rfl⟩
      have b30 := iv14_2 hW0 ta21 c29
      exact tr_zret hZ dX12_isEvent_24 rfl (ti_b01 (by omega) (by omega)) (by decide) (by decide) ⟨v26, rfl, rfl, rfl, rfl, rfl, rfl, rfl, (by omega), (Or.inr (Or.inr (⟨(by first | done | with_reducible assumption | omega), (fun q0 z0 => fun q1 z1 => by obtain rfl := Option.some.inj ((d22).symm.trans z0); obtain rfl := Option.some.inj ((d2).symm.trans z1); (try rw [c29]); (try rw [c4]); first | done | with_reducible assumption | omega), ⟨_, d22⟩, trivial⟩))), trivial⟩
    · skip
      refine tr_iload_n dX12_isEvent_11 rfl ?_
      refine tr_aload_n dX12_isEvent_12 rfl ?_
      obtain ⟨v31, c32⟩ : ∃ v, I0 a21 2 = v := ⟨_, rfl⟩
      have b33 := iv14_2 hW0 ta21 c32
      refine q_callVi hE (M' := mX12_events) (as := []) dX12_isEvent_13 lk12_393 inX12_events seX12_events myX12_events (by decide) ⟨by decide, by decide⟩ rfl (kR15 hW0 ta0) (Nat.le_of_ble_eq_true rfl) rfl rfl (by decide) (by decide) (fk_X12_events hW0  ta0 ⟨_, d22⟩) ?_
      rintro v39 cn' K' N' I34 R35 L36 ⟨rfl, rfl, rfl, rfl, rfl, rfl, p40, -⟩
      have p41 := p40 _ d22 _ d2
      clear p40
      rw [c32] at p41
      rw [c4] at p41
      refine q_icmp_ge 23 dX12_isEvent_16 (by decide) (fun h42 => ?_) (fun h42 => ?_)
      · skip
        refine q_iconst dX12_isEvent_23 (by decide) ?_
        intro v43 h44
        exact tr_zret hZ dX12_isEvent_24 rfl (ti_b01 (by omega) (by omega)) (by decide) (by decide) ⟨v43, rfl, rfl, rfl, rfl, rfl, rfl, rfl, (by omega), (Or.inr (Or.inr (⟨(by first | done | with_reducible assumption | omega), (fun q0 z0 => fun q1 z1 => by obtain rfl := Option.some.inj ((d22).symm.trans z0); obtain rfl := Option.some.inj ((d2).symm.trans z1); (try rw [c32]); (try rw [c4]); first | done | with_reducible assumption | omega), ⟨_, d22⟩, trivial⟩))), trivial⟩
      · skip
        refine q_iconst dX12_isEvent_19 (by decide) ?_
        intro v45 h46
        refine tr_goto 24 dX12_isEvent_20 (by decide) ?_
        exact tr_zret hZ dX12_isEvent_24 rfl (ti_b01 (by omega) (by omega)) (by decide) (by decide) ⟨v45, rfl, rfl, rfl, rfl, rfl, rfl, rfl, (by omega), (Or.inr (Or.inl ⟨(by first | done | with_reducible assumption | omega), (by first | done | with_reducible assumption | omega), (fun q0 z0 => fun q1 z1 => by obtain rfl := Option.some.inj ((d22).symm.trans z0); obtain rfl := Option.some.inj ((d2).symm.trans z1); (try rw [c32]); (try rw [c4]); first | done | with_reducible assumption | omega), ⟨_, d22⟩, trivial⟩)), trivial⟩
set_option maxHeartbeats 4000000 in
theorem fk_X12_kindOf {l : Launch} {T : Nat → Nat} {cn : Nat} {K N : Nat → Nat} {I0 : cz_I} {R0 : cz_R} {L0 : cz_L} {d : Int} (hW0 : Wf T cn K N I0 R0 d)  {a0 : Nat} (ta0 : T a0 = 15) {x1 : Int32} (hx1 : 0 ≤ x1.toInt ∧ x1.toInt ≤ 19) (pre0 : ∀ b1, R0 a0 3 = some b1 → ∀ b2, R0 a0 16 = some b2 → x1.toInt < (I0 b1 2).toInt + (I0 b2 1).toInt) (nn3 : ∃ b, R0 a0 3 = some b) : ConE l mX12_kindOf [.ref a0, .int x1] cn K N I0 R0 L0 (ca_i (fun v cn' K' N' I' R' L' => cn = cn' ∧ K = K' ∧ N = N' ∧ I0 = I' ∧ R0 = R' ∧ L0 = L' ∧ (EvW I0 R0 a0 x1.toInt 0 v.toInt) ∧ True)) := by
  refine ConE.of (by decide +kernel) rfl (Nat.le_of_ble_eq_true rfl) rfl (fun X hX hZ hE => ?_)
  subst hX
  obtain ⟨a1, d2⟩ := nn3
  have ta1 : T a1 = 14 := hW0.rsN ta0 rfl d2
  obtain ⟨v3, c4⟩ : ∃ v, I0 a1 2 = v := ⟨_, rfl⟩
  have b5 := iv14_2 hW0 ta1 c4
  obtain ⟨a6, d7, ta6⟩ := rf15_16 hW0 ta0
  obtain ⟨v8, c9⟩ : ∃ v, I0 a6 1 = v := ⟨_, rfl⟩
  have b10 := iv77_1 hW0 ta6 (by decide) c9
  have p11 := pre0 _ d2 _ d7
  rw [c4] at p11
  rw [c9] at p11
  obtain ⟨a12, d13, ta12⟩ := rf14_11 hW0 ta1
  obtain ⟨a14, d15, ta14⟩ := rf14_12 hW0 ta1
  obtain ⟨a16, d17, ta16⟩ := rf14_13 hW0 ta1
  obtain ⟨a18, d19, ta18⟩ := rf14_14 hW0 ta1
  refine tr_iload_n dX12_kindOf_0 rfl ?_
  refine tr_aload_n dX12_kindOf_1 rfl ?_
  refine tr_getR dX12_kindOf_2 fl12_385 (kR15 hW0 ta0) d2 ?_
  refine q_getI dX12_kindOf_5 fl12_265 (kR14 hW0 ta1) c4 ?_
  refine q_icmp_ge 23 dX12_kindOf_8 (by decide) (fun h20 => ?_) (fun h20 => ?_)
  · skip
    refine q_iconst dX12_kindOf_23 (by decide) ?_
    intro v21 h22
    exact tr_iret hZ dX12_kindOf_24 rfl (by decide) (by decide) ⟨v21, rfl, rfl, rfl, rfl, rfl, rfl, rfl, (fun b w h1 h2 => by obtain rfl := Option.some.inj (d2.symm.trans h1); obtain rfl := Option.some.inj (d7.symm.trans h2); refine ⟨fun q => absurd q (by rw [c4]; omega), fun _ => ⟨fun _ => by omega, fun q => absurd q (by decide), fun q => absurd q (by decide), fun q => absurd q (by decide)⟩⟩), trivial⟩
  · skip
    refine tr_aload_n dX12_kindOf_11 rfl ?_
    refine tr_getR dX12_kindOf_12 fl12_385 (kR15 hW0 ta0) d2 ?_
    refine tr_getR dX12_kindOf_15 fl12_274 (kR14 hW0 ta1) d13 ?_
    refine tr_iload_n dX12_kindOf_18 rfl ?_
    refine q_iald dX12_kindOf_19 (kR54 hW0 ta12) (ti_in (nR54 hW0 ta12) (by omega) (by omega)) ?_
    intro v23 c24
    refine tr_goto 24 dX12_kindOf_20 (by decide) ?_
    exact tr_iret hZ dX12_kindOf_24 rfl (by decide) (by decide) ⟨v23, rfl, rfl, rfl, rfl, rfl, rfl, rfl, (fun b w h1 h2 => by obtain rfl := Option.some.inj (d2.symm.trans h1); obtain rfl := Option.some.inj (d7.symm.trans h2); refine ⟨fun _ a ha => ?_, fun q => absurd (by rw [c4]; omega) q⟩; obtain rfl := Option.some.inj (d13.symm.trans ha); have z := c24; rw [show x1.toNatClampNeg = x1.toInt.toNat from congrArg Int.toNat (by omega)] at z; rw [z]; first | done | omega), trivial⟩
set_option maxHeartbeats 4000000 in
theorem fk_X12_hutOf {l : Launch} {T : Nat → Nat} {cn : Nat} {K N : Nat → Nat} {I0 : cz_I} {R0 : cz_R} {L0 : cz_L} {d : Int} (hW0 : Wf T cn K N I0 R0 d)  {a0 : Nat} (ta0 : T a0 = 15) {x1 : Int32} (hx1 : 0 ≤ x1.toInt ∧ x1.toInt ≤ 19) (pre0 : ∀ b1, R0 a0 3 = some b1 → ∀ b2, R0 a0 16 = some b2 → x1.toInt < (I0 b1 2).toInt + (I0 b2 1).toInt) (nn3 : ∃ b, R0 a0 3 = some b) : ConE l mX12_hutOf [.ref a0, .int x1] cn K N I0 R0 L0 (ca_i (fun v cn' K' N' I' R' L' => cn = cn' ∧ K = K' ∧ N = N' ∧ I0 = I' ∧ R0 = R' ∧ L0 = L' ∧ (EvW I0 R0 a0 x1.toInt 1 v.toInt) ∧ True)) := by
  refine ConE.of (by decide +kernel) rfl (Nat.le_of_ble_eq_true rfl) rfl (fun X hX hZ hE => ?_)
  subst hX
  obtain ⟨a1, d2⟩ := nn3
  have ta1 : T a1 = 14 := hW0.rsN ta0 rfl d2
  obtain ⟨v3, c4⟩ : ∃ v, I0 a1 2 = v := ⟨_, rfl⟩
  have b5 := iv14_2 hW0 ta1 c4
  obtain ⟨a6, d7, ta6⟩ := rf15_16 hW0 ta0
  obtain ⟨v8, c9⟩ : ∃ v, I0 a6 1 = v := ⟨_, rfl⟩
  have b10 := iv77_1 hW0 ta6 (by decide) c9
  have p11 := pre0 _ d2 _ d7
  rw [c4] at p11
  rw [c9] at p11
  obtain ⟨a12, d13, ta12⟩ := rf14_11 hW0 ta1
  obtain ⟨a14, d15, ta14⟩ := rf14_12 hW0 ta1
  obtain ⟨a16, d17, ta16⟩ := rf14_13 hW0 ta1
  obtain ⟨a18, d19, ta18⟩ := rf14_14 hW0 ta1
  refine tr_iload_n dX12_hutOf_0 rfl ?_
  refine tr_aload_n dX12_hutOf_1 rfl ?_
  refine tr_getR dX12_hutOf_2 fl12_385 (kR15 hW0 ta0) d2 ?_
  refine q_getI dX12_hutOf_5 fl12_265 (kR14 hW0 ta1) c4 ?_
  refine q_icmp_ge 23 dX12_hutOf_8 (by decide) (fun h20 => ?_) (fun h20 => ?_)
  · skip
    refine q_bipush dX12_hutOf_23 (by decide +kernel) ?_
    intro v21 h22
    exact tr_iret hZ dX12_hutOf_25 rfl (by decide) (by decide) ⟨v21, rfl, rfl, rfl, rfl, rfl, rfl, rfl, (fun b w h1 h2 => by obtain rfl := Option.some.inj (d2.symm.trans h1); obtain rfl := Option.some.inj (d7.symm.trans h2); refine ⟨fun q => absurd q (by rw [c4]; omega), fun _ => ⟨fun q => absurd q (by decide), fun _ => by omega, fun q => absurd q (by decide), fun q => absurd q (by decide)⟩⟩), trivial⟩
  · skip
    refine tr_aload_n dX12_hutOf_11 rfl ?_
    refine tr_getR dX12_hutOf_12 fl12_385 (kR15 hW0 ta0) d2 ?_
    refine tr_getR dX12_hutOf_15 fl12_277 (kR14 hW0 ta1) d15 ?_
    refine tr_iload_n dX12_hutOf_18 rfl ?_
    refine q_iald dX12_hutOf_19 (kR55 hW0 ta14) (ti_in (nR55 hW0 ta14) (by omega) (by omega)) ?_
    intro v23 c24
    have b25 := iv55 hW0 ta14 c24
    refine tr_goto 25 dX12_hutOf_20 (by decide) ?_
    exact tr_iret hZ dX12_hutOf_25 rfl (by decide) (by decide) ⟨v23, rfl, rfl, rfl, rfl, rfl, rfl, rfl, (fun b w h1 h2 => by obtain rfl := Option.some.inj (d2.symm.trans h1); obtain rfl := Option.some.inj (d7.symm.trans h2); refine ⟨fun _ a ha => ?_, fun q => absurd (by rw [c4]; omega) q⟩; obtain rfl := Option.some.inj (d15.symm.trans ha); have z := c24; rw [show x1.toNatClampNeg = x1.toInt.toNat from congrArg Int.toNat (by omega)] at z; rw [z]; first | done | omega), trivial⟩
set_option maxHeartbeats 4000000 in
theorem fk_X12_fromOf {l : Launch} {T : Nat → Nat} {cn : Nat} {K N : Nat → Nat} {I0 : cz_I} {R0 : cz_R} {L0 : cz_L} {d : Int} (hW0 : Wf T cn K N I0 R0 d)  {a0 : Nat} (ta0 : T a0 = 15) {x1 : Int32} (hx1 : 0 ≤ x1.toInt ∧ x1.toInt ≤ 19) (pre0 : ∀ b1, R0 a0 3 = some b1 → ∀ b2, R0 a0 16 = some b2 → x1.toInt < (I0 b1 2).toInt + (I0 b2 1).toInt) (nn3 : ∃ b, R0 a0 3 = some b) : ConE l mX12_fromOf [.ref a0, .int x1] cn K N I0 R0 L0 (ca_i (fun v cn' K' N' I' R' L' => cn = cn' ∧ K = K' ∧ N = N' ∧ I0 = I' ∧ R0 = R' ∧ L0 = L' ∧ (EvW I0 R0 a0 x1.toInt 2 v.toInt) ∧ True)) := by
  refine ConE.of (by decide +kernel) rfl (Nat.le_of_ble_eq_true rfl) rfl (fun X hX hZ hE => ?_)
  subst hX
  obtain ⟨a1, d2⟩ := nn3
  have ta1 : T a1 = 14 := hW0.rsN ta0 rfl d2
  obtain ⟨v3, c4⟩ : ∃ v, I0 a1 2 = v := ⟨_, rfl⟩
  have b5 := iv14_2 hW0 ta1 c4
  obtain ⟨a6, d7, ta6⟩ := rf15_16 hW0 ta0
  obtain ⟨v8, c9⟩ : ∃ v, I0 a6 1 = v := ⟨_, rfl⟩
  have b10 := iv77_1 hW0 ta6 (by decide) c9
  have p11 := pre0 _ d2 _ d7
  rw [c4] at p11
  rw [c9] at p11
  obtain ⟨a12, d13, ta12⟩ := rf14_11 hW0 ta1
  obtain ⟨a14, d15, ta14⟩ := rf14_12 hW0 ta1
  obtain ⟨a16, d17, ta16⟩ := rf14_13 hW0 ta1
  obtain ⟨a18, d19, ta18⟩ := rf14_14 hW0 ta1
  refine tr_iload_n dX12_fromOf_0 rfl ?_
  refine tr_aload_n dX12_fromOf_1 rfl ?_
  refine tr_getR dX12_fromOf_2 fl12_385 (kR15 hW0 ta0) d2 ?_
  refine q_getI dX12_fromOf_5 fl12_265 (kR14 hW0 ta1) c4 ?_
  refine q_icmp_ge 23 dX12_fromOf_8 (by decide) (fun h20 => ?_) (fun h20 => ?_)
  · skip
    refine tr_aload_n dX12_fromOf_23 rfl ?_
    refine tr_getR dX12_fromOf_24 fl12_17 (kR15 hW0 ta0) d7 ?_
    refine q_iconst dX12_fromOf_27 (by decide) ?_
    intro v21 h22
    refine tr_iload_n dX12_fromOf_28 rfl ?_
    refine q_iaddE dX12_fromOf_29 (by intros; omega) ?_
    intro v23 h24
    refine tr_aload_n dX12_fromOf_30 rfl ?_
    refine tr_getR dX12_fromOf_31 fl12_385 (kR15 hW0 ta0) d2 ?_
    refine q_getI dX12_fromOf_34 fl12_265 (kR14 hW0 ta1) c4 ?_
    refine q_isubE dX12_fromOf_37 (by intros; omega) ?_
    intro v25 h26
    refine q_iald dX12_fromOf_38 (kR77 hW0 ta6) (ti_in (nR77 hW0 ta6) (by omega) (by omega)) ?_
    intro v27 c28
    exact tr_iret hZ dX12_fromOf_39 rfl (by decide) (by decide) ⟨v27, rfl, rfl, rfl, rfl, rfl, rfl, rfl, (fun b w h1 h2 => by obtain rfl := Option.some.inj (d2.symm.trans h1); obtain rfl := Option.some.inj (d7.symm.trans h2); refine ⟨fun q => absurd q (by rw [c4]; omega), fun _ => ⟨fun q => absurd q (by decide), fun q => absurd q (by decide), fun _ => by have z := c28; rw [show v25.toNatClampNeg = 3 + (x1.toInt - (I0 a1 2).toInt).toNat by (have z2 := ti_nat (i := v25) (by omega); rw [c4]; omega)] at z; rw [z]; first | done | omega, fun q => absurd q (by decide)⟩⟩), trivial⟩
  · skip
    refine tr_aload_n dX12_fromOf_11 rfl ?_
    refine tr_getR dX12_fromOf_12 fl12_385 (kR15 hW0 ta0) d2 ?_
    refine tr_getR dX12_fromOf_15 fl12_280 (kR14 hW0 ta1) d17 ?_
    refine tr_iload_n dX12_fromOf_18 rfl ?_
    refine q_iald dX12_fromOf_19 (kR56 hW0 ta16) (ti_in (nR56 hW0 ta16) (by omega) (by omega)) ?_
    intro v30 c31
    have b32 := iv56 hW0 ta16 c31
    refine tr_goto 39 dX12_fromOf_20 (by decide) ?_
    exact tr_iret hZ dX12_fromOf_39 rfl (by decide) (by decide) ⟨v30, rfl, rfl, rfl, rfl, rfl, rfl, rfl, (fun b w h1 h2 => by obtain rfl := Option.some.inj (d2.symm.trans h1); obtain rfl := Option.some.inj (d7.symm.trans h2); refine ⟨fun _ a ha => ?_, fun q => absurd (by rw [c4]; omega) q⟩; obtain rfl := Option.some.inj (d17.symm.trans ha); have z := c31; rw [show x1.toNatClampNeg = x1.toInt.toNat from congrArg Int.toNat (by omega)] at z; rw [z]; first | done | omega), trivial⟩
set_option maxHeartbeats 4000000 in
theorem fk_X12_toOf {l : Launch} {T : Nat → Nat} {cn : Nat} {K N : Nat → Nat} {I0 : cz_I} {R0 : cz_R} {L0 : cz_L} {d : Int} (hW0 : Wf T cn K N I0 R0 d)  {a0 : Nat} (ta0 : T a0 = 15) {x1 : Int32} (hx1 : 0 ≤ x1.toInt ∧ x1.toInt ≤ 19) (pre0 : ∀ b1, R0 a0 3 = some b1 → ∀ b2, R0 a0 16 = some b2 → x1.toInt < (I0 b1 2).toInt + (I0 b2 1).toInt) (nn3 : ∃ b, R0 a0 3 = some b) : ConE l mX12_toOf [.ref a0, .int x1] cn K N I0 R0 L0 (ca_i (fun v cn' K' N' I' R' L' => cn = cn' ∧ K = K' ∧ N = N' ∧ I0 = I' ∧ R0 = R' ∧ L0 = L' ∧ (EvW I0 R0 a0 x1.toInt 3 v.toInt) ∧ True)) := by
  refine ConE.of (by decide +kernel) rfl (Nat.le_of_ble_eq_true rfl) rfl (fun X hX hZ hE => ?_)
  subst hX
  obtain ⟨a1, d2⟩ := nn3
  have ta1 : T a1 = 14 := hW0.rsN ta0 rfl d2
  obtain ⟨v3, c4⟩ : ∃ v, I0 a1 2 = v := ⟨_, rfl⟩
  have b5 := iv14_2 hW0 ta1 c4
  obtain ⟨a6, d7, ta6⟩ := rf15_16 hW0 ta0
  obtain ⟨v8, c9⟩ : ∃ v, I0 a6 1 = v := ⟨_, rfl⟩
  have b10 := iv77_1 hW0 ta6 (by decide) c9
  have p11 := pre0 _ d2 _ d7
  rw [c4] at p11
  rw [c9] at p11
  obtain ⟨a12, d13, ta12⟩ := rf14_11 hW0 ta1
  obtain ⟨a14, d15, ta14⟩ := rf14_12 hW0 ta1
  obtain ⟨a16, d17, ta16⟩ := rf14_13 hW0 ta1
  obtain ⟨a18, d19, ta18⟩ := rf14_14 hW0 ta1
  refine tr_iload_n dX12_toOf_0 rfl ?_
  refine tr_aload_n dX12_toOf_1 rfl ?_
  refine tr_getR dX12_toOf_2 fl12_385 (kR15 hW0 ta0) d2 ?_
  refine q_getI dX12_toOf_5 fl12_265 (kR14 hW0 ta1) c4 ?_
  refine q_icmp_ge 23 dX12_toOf_8 (by decide) (fun h20 => ?_) (fun h20 => ?_)
  · skip
    refine tr_aload_n dX12_toOf_23 rfl ?_
    refine tr_getR dX12_toOf_24 fl12_17 (kR15 hW0 ta0) d7 ?_
    refine q_bipush dX12_toOf_27 (by decide +kernel) ?_
    intro v21 h22
    refine tr_iload_n dX12_toOf_29 rfl ?_
    refine q_iaddE dX12_toOf_30 (by intros; omega) ?_
    intro v23 h24
    refine tr_aload_n dX12_toOf_31 rfl ?_
    refine tr_getR dX12_toOf_32 fl12_385 (kR15 hW0 ta0) d2 ?_
    refine q_getI dX12_toOf_35 fl12_265 (kR14 hW0 ta1) c4 ?_
    refine q_isubE dX12_toOf_38 (by intros; omega) ?_
    intro v25 h26
    refine q_iald dX12_toOf_39 (kR77 hW0 ta6) (ti_in (nR77 hW0 ta6) (by omega) (by omega)) ?_
    intro v27 c28
    exact tr_iret hZ dX12_toOf_40 rfl (by decide) (by decide) ⟨v27, rfl, rfl, rfl, rfl, rfl, rfl, rfl, (fun b w h1 h2 => by obtain rfl := Option.some.inj (d2.symm.trans h1); obtain rfl := Option.some.inj (d7.symm.trans h2); refine ⟨fun q => absurd q (by rw [c4]; omega), fun _ => ⟨fun q => absurd q (by decide), fun q => absurd q (by decide), fun q => absurd q (by decide), fun _ => by have z := c28; rw [show v25.toNatClampNeg = 9 + (x1.toInt - (I0 a1 2).toInt).toNat by (have z2 := ti_nat (i := v25) (by omega); rw [c4]; omega)] at z; rw [z]; first | done | omega⟩⟩), trivial⟩
  · skip
    refine tr_aload_n dX12_toOf_11 rfl ?_
    refine tr_getR dX12_toOf_12 fl12_385 (kR15 hW0 ta0) d2 ?_
    refine tr_getR dX12_toOf_15 fl12_283 (kR14 hW0 ta1) d19 ?_
    refine tr_iload_n dX12_toOf_18 rfl ?_
    refine q_iald dX12_toOf_19 (kR57 hW0 ta18) (ti_in (nR57 hW0 ta18) (by omega) (by omega)) ?_
    intro v30 c31
    have b32 := iv57 hW0 ta18 c31
    refine tr_goto 40 dX12_toOf_20 (by decide) ?_
    exact tr_iret hZ dX12_toOf_40 rfl (by decide) (by decide) ⟨v30, rfl, rfl, rfl, rfl, rfl, rfl, rfl, (fun b w h1 h2 => by obtain rfl := Option.some.inj (d2.symm.trans h1); obtain rfl := Option.some.inj (d7.symm.trans h2); refine ⟨fun _ a ha => ?_, fun q => absurd (by rw [c4]; omega) q⟩; obtain rfl := Option.some.inj (d19.symm.trans ha); have z := c31; rw [show x1.toNatClampNeg = x1.toInt.toNat from congrArg Int.toNat (by omega)] at z; rw [z]; first | done | omega), trivial⟩
def wik_X12_event : List Nat := [960, 961, 962]
def wrk_X12_event : List Nat := []
def Cs_X12_event (T : Nat → Nat) (I0 : cz_I) (R0 : cz_R) (a0 : Nat) (x1 : Int32) (x2 : Int32) (v : Int32) (I' : cz_I) (R' : cz_R) : Prop :=
  ((v.toInt = -1) ∧ (R0 a0 3 = none) ∧ (SmM T I0 I' a0) ∧ True) ∨
  ((∀ b1, R0 a0 3 = some b1 → ∀ b2, R0 a0 16 = some b2 → (((x1.toInt < 0 ∨ x1.toInt ≥ (I0 b1 2).toInt + (I0 b2 1).toInt) ∨ x2.toInt < 0) ∨ x2.toInt > 3)) ∧ (v.toInt = -1) ∧ (∃ b, R0 a0 3 = some b) ∧ (SmM T I0 I' a0) ∧ True) ∨
  ((0 ≤ x1.toInt) ∧ (∀ b1, R0 a0 3 = some b1 → ∀ b2, R0 a0 16 = some b2 → x1.toInt < (I0 b1 2).toInt + (I0 b2 1).toInt) ∧ (0 ≤ x2.toInt) ∧ (x2.toInt ≤ 3) ∧ (∃ b, R0 a0 3 = some b) ∧ (SmM T I0 I' a0) ∧ (EvW I0 R0 a0 x1.toInt x2.toInt v.toInt) ∧ True)
set_option maxHeartbeats 4000000 in
theorem fk_X12_event {l : Launch} {T : Nat → Nat} {cn : Nat} {K N : Nat → Nat} {I0 : cz_I} {R0 : cz_R} {L0 : cz_L} {d : Int} (hW0 : Wf T cn K N I0 R0 d)  {a0 : Nat} (ta0 : T a0 = 15) {x1 : Int32} {x2 : Int32} : ConE l mX12_event [.ref a0, .int x1, .int x2] cn K N I0 R0 L0 (ca_i (fun v cn' K' N' I' R' L' => cn = cn' ∧ K = K' ∧ N = N' ∧ R0 = R' ∧ L0 = L' ∧ St T cn K N d wik_X12_event wrk_X12_event I0 R0 I' R0 ∧ Cs_X12_event T I0 R0 a0 x1 x2 v I' R0 ∧ True)) := by
  refine ConE.of (by decide +kernel) rfl (Nat.le_of_ble_eq_true rfl) rfl (fun X hX hZ hE => ?_)
  subst hX
  have hS0 : St T cn K N d wik_X12_event wrk_X12_event I0 R0 I0 R0 := St.rf0 hW0
  obtain ⟨a1, d2, ta1⟩ := rf15_16 hW0 ta0
  obtain ⟨v3, c4⟩ : ∃ v, I0 a1 1 = v := ⟨_, rfl⟩
  have b5 := iv77_1 hW0 ta1 (by decide) c4
  obtain ⟨v6, c7⟩ : ∃ v, I0 a0 19 = v := ⟨_, rfl⟩
  have b8 := iv15_19 hW0 ta0 c7
  obtain ⟨v9, c10⟩ : ∃ v, I0 a0 20 = v := ⟨_, rfl⟩
  have b11 := iv15_20 hW0 ta0 c10
  obtain ⟨a12, d13, ta12⟩ := rf15_17 hW0 ta0
  obtain ⟨a14, d15, ta14⟩ := rf15_18 hW0 ta0
  obtain ⟨v16, c17⟩ : ∃ v, I0 a1 0 = v := ⟨_, rfl⟩
  obtain ⟨v18, c19⟩ : ∃ v, I0 a1 2 = v := ⟨_, rfl⟩
  have b20 := iv77_2 hW0 ta1 (by decide) c19
  rcases rf15_3 hW0 ta0 with d22 | ⟨a21, d22, ta21⟩
  · skip
    refine tr_aload_n dX12_event_0 rfl ?_
    refine q_iconst dX12_event_1 (by decide) ?_
    intro v23 h24
    refine q_putI dX12_event_2 fl12_70 (kR15 hS0.1 ta0) (Or.inl rfl) hS0 ta0 (iokF rfl) rfl (by decide +kernel) ?_
    intro I25 hS26 e27 f28
    refine tr_aload_n dX12_event_5 rfl ?_
    refine tr_iload_n dX12_event_6 rfl ?_
    refine q_callVi hE (M' := mX12_isEvent) (as := [_]) dX12_event_7 lk12_467 inX12_isEvent seX12_isEvent myX12_isEvent (by decide) ⟨by decide, by decide⟩ rfl (kR15 hS26.1 ta0) (Nat.le_of_ble_eq_true rfl) rfl rfl (by decide) (by decide) (fk_X12_isEvent hS26.1  ta0) ?_
    rintro v34 cn' K' N' I29 R30 L31 ⟨rfl, rfl, rfl, rfl, rfl, rfl, h35, dj36, -⟩
    rcases dj36 with ⟨p37, rp38, -⟩ | ⟨p39, p40, p41, rp42, -⟩ | ⟨p43, p44, rp45, -⟩
    · skip
      refine q_if_eq 22 dX12_event_10 (by decide) (fun h46 => ?_) (fun h46 => ?_)
      · skip
        refine tr_aload_n dX12_event_22 rfl ?_
        refine q_iconst dX12_event_23 (by decide) ?_
        intro v47 h48
        refine q_callVi hE (M' := mX12_refused) (as := [_]) dX12_event_24 lk12_76 inX12_refused seX12_refused myX12_refused (by decide) ⟨by decide, by decide⟩ rfl (kR15 hS26.1 ta0) (Nat.le_of_ble_eq_true rfl) rfl rfl (by decide) (by decide) (fk_X12_refused hS26.1  ta0) ?_
        rintro v54 cn' K' N' I49 R50 L51 ⟨rfl, rfl, rfl, rfl, rfl, g52, p55, p56, p57, -⟩
        have hS58 := hS26.tr g52 (by decide +kernel) (by decide +kernel)
        have c59 : I49 a0 0 = v23 := (g52.cell ta0 (by decide +kernel)).trans e27
        obtain ⟨v60, c61⟩ : ∃ v, I49 a0 1 = v := ⟨_, rfl⟩
        rw [c61] at p56
        obtain ⟨v62, c63⟩ : ∃ v, I49 a0 2 = v := ⟨_, rfl⟩
        rw [c63] at p57
        exact tr_iret hZ dX12_event_27 rfl (by decide) (by decide) ⟨v54, rfl, rfl, rfl, rfl, rfl, rfl, hS58, (Or.inl ⟨(by first | done | with_reducible assumption | omega), d22, ⟨(((hS58.cell ta0 (by decide +kernel)).trans c7)).trans (c7).symm, (((hS58.cell ta0 (by decide +kernel)).trans c10)).trans (c10).symm, fun a j h => by rcases h with h | h | h; exact ((g52.cell h (wm_no (by decide +kernel))).trans (f28 _ _ (fun q => by have z := h; rw [q.1, ta0] at z; exact absurd z (by decide)))); exact ((g52.cell h (wm_no (by decide +kernel))).trans (f28 _ _ (fun q => by have z := h; rw [q.1, ta0] at z; exact absurd z (by decide)))); exact ((g52.cell h (wm_no (by decide +kernel))).trans (f28 _ _ (fun q => by have z := h; rw [q.1, ta0] at z; exact absurd z (by decide))))⟩, trivial⟩), trivial⟩
      · skip
        exfalso; omega
    · skip
      exfalso; obtain ⟨z, hz⟩ := rp42; rw [d22] at hz; cases hz
    · skip
      exfalso; obtain ⟨z, hz⟩ := rp45; rw [d22] at hz; cases hz
  · skip
    refine tr_aload_n dX12_event_0 rfl ?_
    refine q_iconst dX12_event_1 (by decide) ?_
    intro v64 h65
    refine q_putI dX12_event_2 fl12_70 (kR15 hS0.1 ta0) (Or.inl rfl) hS0 ta0 (iokF rfl) rfl (by decide +kernel) ?_
    intro I66 hS67 e68 f69
    refine tr_aload_n dX12_event_5 rfl ?_
    refine tr_iload_n dX12_event_6 rfl ?_
    obtain ⟨v70, c71⟩ : ∃ v, I0 a21 2 = v := ⟨_, rfl⟩
    have b72 := iv14_2 hW0 ta21 c71
    refine q_callVi hE (M' := mX12_isEvent) (as := [_]) dX12_event_7 lk12_467 inX12_isEvent seX12_isEvent myX12_isEvent (by decide) ⟨by decide, by decide⟩ rfl (kR15 hS67.1 ta0) (Nat.le_of_ble_eq_true rfl) rfl rfl (by decide) (by decide) (fk_X12_isEvent hS67.1  ta0) ?_
    rintro v78 cn' K' N' I73 R74 L75 ⟨rfl, rfl, rfl, rfl, rfl, rfl, h79, dj80, -⟩
    rcases dj80 with ⟨p81, rp82, -⟩ | ⟨p83, p84, p85, rp86, -⟩ | ⟨p87, p88, rp89, -⟩
    · skip
      exfalso; have hz := rp82; rw [d22] at hz; cases hz
    · skip
      have p90 := p85 _ d22 _ d2
      clear p85
      rw [((hS67.cell ta21 (by decide +kernel)).trans c71)] at p90
      rw [((hS67.cell ta1 (by decide +kernel)).trans c4)] at p90
      refine q_if_eq 22 dX12_event_10 (by decide) (fun h91 => ?_) (fun h91 => ?_)
      · skip
        exfalso; omega
      · skip
        refine tr_iload_n dX12_event_13 rfl ?_
        refine q_iconst dX12_event_14 (by decide) ?_
        intro v92 h93
        refine q_iconst dX12_event_15 (by decide) ?_
        intro v94 h95
        refine q_callSi hE (M' := mX12_in) (as := [_, _, _]) dX12_event_16 lk12_149 inX12_in myX12_in ⟨by decide, by decide⟩ rfl (Nat.le_of_ble_eq_true rfl) rfl rfl (by decide) (by decide) (fk_X12_in hS67.1  ) ?_
        rintro v101 cn' K' N' I96 R97 L98 ⟨rfl, rfl, rfl, rfl, rfl, rfl, h102, dj103, -⟩
        rcases dj103 with ⟨p104, p105, p106, -⟩ | ⟨p107, p108, -⟩
        · skip
          refine q_if_ne 28 dX12_event_19 (by decide) (fun h109 => ?_) (fun h109 => ?_)
          · skip
            refine tr_aload_n dX12_event_28 rfl ?_
            refine tr_iload_n dX12_event_29 rfl ?_
            refine q_if_ne 41 dX12_event_30 (by decide) (fun h110 => ?_) (fun h110 => ?_)
            · skip
              refine tr_iload_n dX12_event_41 rfl ?_
              refine q_iconst dX12_event_42 (by decide) ?_
              intro v111 h112
              refine q_icmp_ne 54 dX12_event_43 (by decide) (fun h113 => ?_) (fun h113 => ?_)
              · skip
                refine tr_iload_n dX12_event_54 rfl ?_
                refine q_iconst dX12_event_55 (by decide) ?_
                intro v114 h115
                refine q_icmp_ne 67 dX12_event_56 (by decide) (fun h116 => ?_) (fun h116 => ?_)
                · skip
                  refine tr_aload_n dX12_event_67 rfl ?_
                  refine tr_iload_n dX12_event_68 rfl ?_
                  refine q_callVi hE (M' := mX12_toOf) (as := [_]) dX12_event_69 lk12_398 inX12_toOf seX12_toOf myX12_toOf (by decide) ⟨by decide, by decide⟩ rfl (kR15 hS67.1 ta0) (Nat.le_of_ble_eq_true rfl) rfl rfl (by decide) (by decide) (fk_X12_toOf hS67.1  ta0 (by omega) (fun q0 z0 => fun q1 z1 => by obtain rfl := Option.some.inj ((d22).symm.trans z0); obtain rfl := Option.some.inj ((d2).symm.trans z1); (try rw [((hS67.cell ta21 (by decide +kernel)).trans c71)]); (try rw [((hS67.cell ta1 (by decide +kernel)).trans c4)]); first | done | with_reducible assumption | omega) ⟨_, d22⟩) ?_
                  rintro v122 cn' K' N' I117 R118 L119 ⟨rfl, rfl, rfl, rfl, rfl, rfl, rp123, -⟩
                  refine q_callVi hE (M' := mX12_good) (as := [_]) dX12_event_72 lk12_81 inX12_good seX12_good myX12_good (by decide) ⟨by decide, by decide⟩ rfl (kR15 hS67.1 ta0) (Nat.le_of_ble_eq_true rfl) rfl rfl (by decide) (by decide) (fk_X12_good hS67.1  ta0) ?_
                  rintro v129 cn' K' N' I124 R125 L126 ⟨rfl, rfl, rfl, rfl, rfl, g127, p130, p131, p132, -⟩
                  have hS133 := hS67.tr g127 (by decide +kernel) (by decide +kernel)
                  have c134 : I124 a0 0 = v64 := (g127.cell ta0 (by decide +kernel)).trans e68
                  obtain ⟨v135, c136⟩ : ∃ v, I124 a0 1 = v := ⟨_, rfl⟩
                  rw [c136] at p131
                  obtain ⟨v137, c138⟩ : ∃ v, I124 a0 2 = v := ⟨_, rfl⟩
                  rw [c138] at p132
                  exact tr_iret hZ dX12_event_75 rfl (by decide) (by decide) ⟨v129, rfl, rfl, rfl, rfl, rfl, rfl, hS133, (by first | exact Or.inr (Or.inl ⟨(fun q0 z0 => fun q1 z1 => by obtain rfl := Option.some.inj ((d22).symm.trans z0); obtain rfl := Option.some.inj ((d2).symm.trans z1); (try rw [c71]); (try rw [c4]); first | done | with_reducible assumption | omega), (by first | done | with_reducible assumption | omega), ⟨_, d22⟩, ⟨(((hS133.cell ta0 (by decide +kernel)).trans c7)).trans (c7).symm, (((hS133.cell ta0 (by decide +kernel)).trans c10)).trans (c10).symm, fun a j h => by rcases h with h | h | h; exact ((g127.cell h (wm_no (by decide +kernel))).trans (f69 _ _ (fun q => by have z := h; rw [q.1, ta0] at z; exact absurd z (by decide)))); exact ((g127.cell h (wm_no (by decide +kernel))).trans (f69 _ _ (fun q => by have z := h; rw [q.1, ta0] at z; exact absurd z (by decide)))); exact ((g127.cell h (wm_no (by decide +kernel))).trans (f69 _ _ (fun q => by have z := h; rw [q.1, ta0] at z; exact absurd z (by decide))))⟩, trivial⟩) | exact Or.inr (Or.inr (⟨(by first | done | with_reducible assumption | omega), (fun q0 z0 => fun q1 z1 => by obtain rfl := Option.some.inj ((d22).symm.trans z0); obtain rfl := Option.some.inj ((d2).symm.trans z1); (try rw [c71]); (try rw [c4]); first | done | with_reducible assumption | omega), (by first | done | with_reducible assumption | omega), (by first | done | with_reducible assumption | omega), ⟨_, d22⟩, ⟨(((hS133.cell ta0 (by decide +kernel)).trans c7)).trans (c7).symm, (((hS133.cell ta0 (by decide +kernel)).trans c10)).trans (c10).symm, fun a j h => by rcases h with h | h | h; exact ((g127.cell h (wm_no (by decide +kernel))).trans (f69 _ _ (fun q => by have z := h; rw [q.1, ta0] at z; exact absurd z (by decide)))); exact ((g127.cell h (wm_no (by decide +kernel))).trans (f69 _ _ (fun q => by have z := h; rw [q.1, ta0] at z; exact absurd z (by decide)))); exact ((g127.cell h (wm_no (by decide +kernel))).trans (f69 _ _ (fun q => by have z := h; rw [q.1, ta0] at z; exact absurd z (by decide))))⟩, (EvW.cg (EvW.kp rp123 (by decide) hW0 ta0 hS67 (by decide +kernel) (by decide +kernel) (by decide +kernel) (by decide +kernel) (by decide +kernel) (by decide +kernel)) (by omega) (by omega)), trivial⟩))), trivial⟩
                · skip
                  refine tr_aload_n dX12_event_59 rfl ?_
                  refine tr_iload_n dX12_event_60 rfl ?_
                  refine q_callVi hE (M' := mX12_fromOf) (as := [_]) dX12_event_61 lk12_395 inX12_fromOf seX12_fromOf myX12_fromOf (by decide) ⟨by decide, by decide⟩ rfl (kR15 hS67.1 ta0) (Nat.le_of_ble_eq_true rfl) rfl rfl (by decide) (by decide) (fk_X12_fromOf hS67.1  ta0 (by omega) (fun q0 z0 => fun q1 z1 => by obtain rfl := Option.some.inj ((d22).symm.trans z0); obtain rfl := Option.some.inj ((d2).symm.trans z1); (try rw [((hS67.cell ta21 (by decide +kernel)).trans c71)]); (try rw [((hS67.cell ta1 (by decide +kernel)).trans c4)]); first | done | with_reducible assumption | omega) ⟨_, d22⟩) ?_
                  rintro v144 cn' K' N' I139 R140 L141 ⟨rfl, rfl, rfl, rfl, rfl, rfl, rp145, -⟩
                  refine tr_goto 72 dX12_event_64 (by decide) ?_
                  refine q_callVi hE (M' := mX12_good) (as := [_]) dX12_event_72 lk12_81 inX12_good seX12_good myX12_good (by decide) ⟨by decide, by decide⟩ rfl (kR15 hS67.1 ta0) (Nat.le_of_ble_eq_true rfl) rfl rfl (by decide) (by decide) (fk_X12_good hS67.1  ta0) ?_
                  rintro v151 cn' K' N' I146 R147 L148 ⟨rfl, rfl, rfl, rfl, rfl, g149, p152, p153, p154, -⟩
                  have hS155 := hS67.tr g149 (by decide +kernel) (by decide +kernel)
                  have c156 : I146 a0 0 = v64 := (g149.cell ta0 (by decide +kernel)).trans e68
                  obtain ⟨v157, c158⟩ : ∃ v, I146 a0 1 = v := ⟨_, rfl⟩
                  rw [c158] at p153
                  obtain ⟨v159, c160⟩ : ∃ v, I146 a0 2 = v := ⟨_, rfl⟩
                  rw [c160] at p154
                  exact tr_iret hZ dX12_event_75 rfl (by decide) (by decide) ⟨v151, rfl, rfl, rfl, rfl, rfl, rfl, hS155, (by first | exact Or.inr (Or.inl ⟨(fun q0 z0 => fun q1 z1 => by obtain rfl := Option.some.inj ((d22).symm.trans z0); obtain rfl := Option.some.inj ((d2).symm.trans z1); (try rw [c71]); (try rw [c4]); first | done | with_reducible assumption | omega), (by first | done | with_reducible assumption | omega), ⟨_, d22⟩, ⟨(((hS155.cell ta0 (by decide +kernel)).trans c7)).trans (c7).symm, (((hS155.cell ta0 (by decide +kernel)).trans c10)).trans (c10).symm, fun a j h => by rcases h with h | h | h; exact ((g149.cell h (wm_no (by decide +kernel))).trans (f69 _ _ (fun q => by have z := h; rw [q.1, ta0] at z; exact absurd z (by decide)))); exact ((g149.cell h (wm_no (by decide +kernel))).trans (f69 _ _ (fun q => by have z := h; rw [q.1, ta0] at z; exact absurd z (by decide)))); exact ((g149.cell h (wm_no (by decide +kernel))).trans (f69 _ _ (fun q => by have z := h; rw [q.1, ta0] at z; exact absurd z (by decide))))⟩, trivial⟩) | exact Or.inr (Or.inr (⟨(by first | done | with_reducible assumption | omega), (fun q0 z0 => fun q1 z1 => by obtain rfl := Option.some.inj ((d22).symm.trans z0); obtain rfl := Option.some.inj ((d2).symm.trans z1); (try rw [c71]); (try rw [c4]); first | done | with_reducible assumption | omega), (by first | done | with_reducible assumption | omega), (by first | done | with_reducible assumption | omega), ⟨_, d22⟩, ⟨(((hS155.cell ta0 (by decide +kernel)).trans c7)).trans (c7).symm, (((hS155.cell ta0 (by decide +kernel)).trans c10)).trans (c10).symm, fun a j h => by rcases h with h | h | h; exact ((g149.cell h (wm_no (by decide +kernel))).trans (f69 _ _ (fun q => by have z := h; rw [q.1, ta0] at z; exact absurd z (by decide)))); exact ((g149.cell h (wm_no (by decide +kernel))).trans (f69 _ _ (fun q => by have z := h; rw [q.1, ta0] at z; exact absurd z (by decide)))); exact ((g149.cell h (wm_no (by decide +kernel))).trans (f69 _ _ (fun q => by have z := h; rw [q.1, ta0] at z; exact absurd z (by decide))))⟩, (EvW.cg (EvW.kp rp145 (by decide) hW0 ta0 hS67 (by decide +kernel) (by decide +kernel) (by decide +kernel) (by decide +kernel) (by decide +kernel) (by decide +kernel)) (by omega) (by omega)), trivial⟩))), trivial⟩
              · skip
                refine tr_aload_n dX12_event_46 rfl ?_
                refine tr_iload_n dX12_event_47 rfl ?_
                refine q_callVi hE (M' := mX12_hutOf) (as := [_]) dX12_event_48 lk12_407 inX12_hutOf seX12_hutOf myX12_hutOf (by decide) ⟨by decide, by decide⟩ rfl (kR15 hS67.1 ta0) (Nat.le_of_ble_eq_true rfl) rfl rfl (by decide) (by decide) (fk_X12_hutOf hS67.1  ta0 (by omega) (fun q0 z0 => fun q1 z1 => by obtain rfl := Option.some.inj ((d22).symm.trans z0); obtain rfl := Option.some.inj ((d2).symm.trans z1); (try rw [((hS67.cell ta21 (by decide +kernel)).trans c71)]); (try rw [((hS67.cell ta1 (by decide +kernel)).trans c4)]); first | done | with_reducible assumption | omega) ⟨_, d22⟩) ?_
                rintro v166 cn' K' N' I161 R162 L163 ⟨rfl, rfl, rfl, rfl, rfl, rfl, rp167, -⟩
                refine tr_goto 72 dX12_event_51 (by decide) ?_
                refine q_callVi hE (M' := mX12_good) (as := [_]) dX12_event_72 lk12_81 inX12_good seX12_good myX12_good (by decide) ⟨by decide, by decide⟩ rfl (kR15 hS67.1 ta0) (Nat.le_of_ble_eq_true rfl) rfl rfl (by decide) (by decide) (fk_X12_good hS67.1  ta0) ?_
                rintro v173 cn' K' N' I168 R169 L170 ⟨rfl, rfl, rfl, rfl, rfl, g171, p174, p175, p176, -⟩
                have hS177 := hS67.tr g171 (by decide +kernel) (by decide +kernel)
                have c178 : I168 a0 0 = v64 := (g171.cell ta0 (by decide +kernel)).trans e68
                obtain ⟨v179, c180⟩ : ∃ v, I168 a0 1 = v := ⟨_, rfl⟩
                rw [c180] at p175
                obtain ⟨v181, c182⟩ : ∃ v, I168 a0 2 = v := ⟨_, rfl⟩
                rw [c182] at p176
                exact tr_iret hZ dX12_event_75 rfl (by decide) (by decide) ⟨v173, rfl, rfl, rfl, rfl, rfl, rfl, hS177, (by first | exact Or.inr (Or.inl ⟨(fun q0 z0 => fun q1 z1 => by obtain rfl := Option.some.inj ((d22).symm.trans z0); obtain rfl := Option.some.inj ((d2).symm.trans z1); (try rw [c71]); (try rw [c4]); first | done | with_reducible assumption | omega), (by first | done | with_reducible assumption | omega), ⟨_, d22⟩, ⟨(((hS177.cell ta0 (by decide +kernel)).trans c7)).trans (c7).symm, (((hS177.cell ta0 (by decide +kernel)).trans c10)).trans (c10).symm, fun a j h => by rcases h with h | h | h; exact ((g171.cell h (wm_no (by decide +kernel))).trans (f69 _ _ (fun q => by have z := h; rw [q.1, ta0] at z; exact absurd z (by decide)))); exact ((g171.cell h (wm_no (by decide +kernel))).trans (f69 _ _ (fun q => by have z := h; rw [q.1, ta0] at z; exact absurd z (by decide)))); exact ((g171.cell h (wm_no (by decide +kernel))).trans (f69 _ _ (fun q => by have z := h; rw [q.1, ta0] at z; exact absurd z (by decide))))⟩, trivial⟩) | exact Or.inr (Or.inr (⟨(by first | done | with_reducible assumption | omega), (fun q0 z0 => fun q1 z1 => by obtain rfl := Option.some.inj ((d22).symm.trans z0); obtain rfl := Option.some.inj ((d2).symm.trans z1); (try rw [c71]); (try rw [c4]); first | done | with_reducible assumption | omega), (by first | done | with_reducible assumption | omega), (by first | done | with_reducible assumption | omega), ⟨_, d22⟩, ⟨(((hS177.cell ta0 (by decide +kernel)).trans c7)).trans (c7).symm, (((hS177.cell ta0 (by decide +kernel)).trans c10)).trans (c10).symm, fun a j h => by rcases h with h | h | h; exact ((g171.cell h (wm_no (by decide +kernel))).trans (f69 _ _ (fun q => by have z := h; rw [q.1, ta0] at z; exact absurd z (by decide)))); exact ((g171.cell h (wm_no (by decide +kernel))).trans (f69 _ _ (fun q => by have z := h; rw [q.1, ta0] at z; exact absurd z (by decide)))); exact ((g171.cell h (wm_no (by decide +kernel))).trans (f69 _ _ (fun q => by have z := h; rw [q.1, ta0] at z; exact absurd z (by decide))))⟩, (EvW.cg (EvW.kp rp167 (by decide) hW0 ta0 hS67 (by decide +kernel) (by decide +kernel) (by decide +kernel) (by decide +kernel) (by decide +kernel) (by decide +kernel)) (by omega) (by omega)), trivial⟩))), trivial⟩
            · skip
              refine tr_aload_n dX12_event_33 rfl ?_
              refine tr_iload_n dX12_event_34 rfl ?_
              refine q_callVi hE (M' := mX12_kindOf) (as := [_]) dX12_event_35 lk12_404 inX12_kindOf seX12_kindOf myX12_kindOf (by decide) ⟨by decide, by decide⟩ rfl (kR15 hS67.1 ta0) (Nat.le_of_ble_eq_true rfl) rfl rfl (by decide) (by decide) (fk_X12_kindOf hS67.1  ta0 (by omega) (fun q0 z0 => fun q1 z1 => by obtain rfl := Option.some.inj ((d22).symm.trans z0); obtain rfl := Option.some.inj ((d2).symm.trans z1); (try rw [((hS67.cell ta21 (by decide +kernel)).trans c71)]); (try rw [((hS67.cell ta1 (by decide +kernel)).trans c4)]); first | done | with_reducible assumption | omega) ⟨_, d22⟩) ?_
              rintro v188 cn' K' N' I183 R184 L185 ⟨rfl, rfl, rfl, rfl, rfl, rfl, rp189, -⟩
              refine tr_goto 72 dX12_event_38 (by decide) ?_
              refine q_callVi hE (M' := mX12_good) (as := [_]) dX12_event_72 lk12_81 inX12_good seX12_good myX12_good (by decide) ⟨by decide, by decide⟩ rfl (kR15 hS67.1 ta0) (Nat.le_of_ble_eq_true rfl) rfl rfl (by decide) (by decide) (fk_X12_good hS67.1  ta0) ?_
              rintro v195 cn' K' N' I190 R191 L192 ⟨rfl, rfl, rfl, rfl, rfl, g193, p196, p197, p198, -⟩
              have hS199 := hS67.tr g193 (by decide +kernel) (by decide +kernel)
              have c200 : I190 a0 0 = v64 := (g193.cell ta0 (by decide +kernel)).trans e68
              obtain ⟨v201, c202⟩ : ∃ v, I190 a0 1 = v := ⟨_, rfl⟩
              rw [c202] at p197
              obtain ⟨v203, c204⟩ : ∃ v, I190 a0 2 = v := ⟨_, rfl⟩
              rw [c204] at p198
              exact tr_iret hZ dX12_event_75 rfl (by decide) (by decide) ⟨v195, rfl, rfl, rfl, rfl, rfl, rfl, hS199, (by first | exact Or.inr (Or.inl ⟨(fun q0 z0 => fun q1 z1 => by obtain rfl := Option.some.inj ((d22).symm.trans z0); obtain rfl := Option.some.inj ((d2).symm.trans z1); (try rw [c71]); (try rw [c4]); first | done | with_reducible assumption | omega), (by first | done | with_reducible assumption | omega), ⟨_, d22⟩, ⟨(((hS199.cell ta0 (by decide +kernel)).trans c7)).trans (c7).symm, (((hS199.cell ta0 (by decide +kernel)).trans c10)).trans (c10).symm, fun a j h => by rcases h with h | h | h; exact ((g193.cell h (wm_no (by decide +kernel))).trans (f69 _ _ (fun q => by have z := h; rw [q.1, ta0] at z; exact absurd z (by decide)))); exact ((g193.cell h (wm_no (by decide +kernel))).trans (f69 _ _ (fun q => by have z := h; rw [q.1, ta0] at z; exact absurd z (by decide)))); exact ((g193.cell h (wm_no (by decide +kernel))).trans (f69 _ _ (fun q => by have z := h; rw [q.1, ta0] at z; exact absurd z (by decide))))⟩, trivial⟩) | exact Or.inr (Or.inr (⟨(by first | done | with_reducible assumption | omega), (fun q0 z0 => fun q1 z1 => by obtain rfl := Option.some.inj ((d22).symm.trans z0); obtain rfl := Option.some.inj ((d2).symm.trans z1); (try rw [c71]); (try rw [c4]); first | done | with_reducible assumption | omega), (by first | done | with_reducible assumption | omega), (by first | done | with_reducible assumption | omega), ⟨_, d22⟩, ⟨(((hS199.cell ta0 (by decide +kernel)).trans c7)).trans (c7).symm, (((hS199.cell ta0 (by decide +kernel)).trans c10)).trans (c10).symm, fun a j h => by rcases h with h | h | h; exact ((g193.cell h (wm_no (by decide +kernel))).trans (f69 _ _ (fun q => by have z := h; rw [q.1, ta0] at z; exact absurd z (by decide)))); exact ((g193.cell h (wm_no (by decide +kernel))).trans (f69 _ _ (fun q => by have z := h; rw [q.1, ta0] at z; exact absurd z (by decide)))); exact ((g193.cell h (wm_no (by decide +kernel))).trans (f69 _ _ (fun q => by have z := h; rw [q.1, ta0] at z; exact absurd z (by decide))))⟩, (EvW.cg (EvW.kp rp189 (by decide) hW0 ta0 hS67 (by decide +kernel) (by decide +kernel) (by decide +kernel) (by decide +kernel) (by decide +kernel) (by decide +kernel)) (by omega) (by omega)), trivial⟩))), trivial⟩
          · skip
            exfalso; omega
        · skip
          refine q_if_ne 28 dX12_event_19 (by decide) (fun h205 => ?_) (fun h205 => ?_)
          · skip
            exfalso; omega
          · skip
            refine tr_aload_n dX12_event_22 rfl ?_
            refine q_iconst dX12_event_23 (by decide) ?_
            intro v206 h207
            refine q_callVi hE (M' := mX12_refused) (as := [_]) dX12_event_24 lk12_76 inX12_refused seX12_refused myX12_refused (by decide) ⟨by decide, by decide⟩ rfl (kR15 hS67.1 ta0) (Nat.le_of_ble_eq_true rfl) rfl rfl (by decide) (by decide) (fk_X12_refused hS67.1  ta0) ?_
            rintro v213 cn' K' N' I208 R209 L210 ⟨rfl, rfl, rfl, rfl, rfl, g211, p214, p215, p216, -⟩
            have hS217 := hS67.tr g211 (by decide +kernel) (by decide +kernel)
            have c218 : I208 a0 0 = v64 := (g211.cell ta0 (by decide +kernel)).trans e68
            obtain ⟨v219, c220⟩ : ∃ v, I208 a0 1 = v := ⟨_, rfl⟩
            rw [c220] at p215
            obtain ⟨v221, c222⟩ : ∃ v, I208 a0 2 = v := ⟨_, rfl⟩
            rw [c222] at p216
            exact tr_iret hZ dX12_event_27 rfl (by decide) (by decide) ⟨v213, rfl, rfl, rfl, rfl, rfl, rfl, hS217, (by first | exact Or.inr (Or.inl ⟨(fun q0 z0 => fun q1 z1 => by obtain rfl := Option.some.inj ((d22).symm.trans z0); obtain rfl := Option.some.inj ((d2).symm.trans z1); (try rw [c71]); (try rw [c4]); first | done | with_reducible assumption | omega), (by first | done | with_reducible assumption | omega), ⟨_, d22⟩, ⟨(((hS217.cell ta0 (by decide +kernel)).trans c7)).trans (c7).symm, (((hS217.cell ta0 (by decide +kernel)).trans c10)).trans (c10).symm, fun a j h => by rcases h with h | h | h; exact ((g211.cell h (wm_no (by decide +kernel))).trans (f69 _ _ (fun q => by have z := h; rw [q.1, ta0] at z; exact absurd z (by decide)))); exact ((g211.cell h (wm_no (by decide +kernel))).trans (f69 _ _ (fun q => by have z := h; rw [q.1, ta0] at z; exact absurd z (by decide)))); exact ((g211.cell h (wm_no (by decide +kernel))).trans (f69 _ _ (fun q => by have z := h; rw [q.1, ta0] at z; exact absurd z (by decide))))⟩, trivial⟩) | exact Or.inr (Or.inr (⟨(by first | done | with_reducible assumption | omega), (fun q0 z0 => fun q1 z1 => by obtain rfl := Option.some.inj ((d22).symm.trans z0); obtain rfl := Option.some.inj ((d2).symm.trans z1); (try rw [c71]); (try rw [c4]); first | done | with_reducible assumption | omega), (by first | done | with_reducible assumption | omega), (by first | done | with_reducible assumption | omega), ⟨_, d22⟩, ⟨(((hS217.cell ta0 (by decide +kernel)).trans c7)).trans (c7).symm, (((hS217.cell ta0 (by decide +kernel)).trans c10)).trans (c10).symm, fun a j h => by rcases h with h | h | h; exact ((g211.cell h (wm_no (by decide +kernel))).trans (f69 _ _ (fun q => by have z := h; rw [q.1, ta0] at z; exact absurd z (by decide)))); exact ((g211.cell h (wm_no (by decide +kernel))).trans (f69 _ _ (fun q => by have z := h; rw [q.1, ta0] at z; exact absurd z (by decide)))); exact ((g211.cell h (wm_no (by decide +kernel))).trans (f69 _ _ (fun q => by have z := h; rw [q.1, ta0] at z; exact absurd z (by decide))))⟩, (by omega), trivial⟩))), trivial⟩
    · skip
      have p223 := p88 _ d22 _ d2
      clear p88
      rw [((hS67.cell ta21 (by decide +kernel)).trans c71)] at p223
      rw [((hS67.cell ta1 (by decide +kernel)).trans c4)] at p223
      refine q_if_eq 22 dX12_event_10 (by decide) (fun h224 => ?_) (fun h224 => ?_)
      · skip
        refine tr_aload_n dX12_event_22 rfl ?_
        refine q_iconst dX12_event_23 (by decide) ?_
        intro v225 h226
        refine q_callVi hE (M' := mX12_refused) (as := [_]) dX12_event_24 lk12_76 inX12_refused seX12_refused myX12_refused (by decide) ⟨by decide, by decide⟩ rfl (kR15 hS67.1 ta0) (Nat.le_of_ble_eq_true rfl) rfl rfl (by decide) (by decide) (fk_X12_refused hS67.1  ta0) ?_
        rintro v232 cn' K' N' I227 R228 L229 ⟨rfl, rfl, rfl, rfl, rfl, g230, p233, p234, p235, -⟩
        have hS236 := hS67.tr g230 (by decide +kernel) (by decide +kernel)
        have c237 : I227 a0 0 = v64 := (g230.cell ta0 (by decide +kernel)).trans e68
        obtain ⟨v238, c239⟩ : ∃ v, I227 a0 1 = v := ⟨_, rfl⟩
        rw [c239] at p234
        obtain ⟨v240, c241⟩ : ∃ v, I227 a0 2 = v := ⟨_, rfl⟩
        rw [c241] at p235
        exact tr_iret hZ dX12_event_27 rfl (by decide) (by decide) ⟨v232, rfl, rfl, rfl, rfl, rfl, rfl, hS236, (by first | exact Or.inr (Or.inl ⟨(fun q0 z0 => fun q1 z1 => by obtain rfl := Option.some.inj ((d22).symm.trans z0); obtain rfl := Option.some.inj ((d2).symm.trans z1); (try rw [c71]); (try rw [c4]); first | done | with_reducible assumption | omega), (by first | done | with_reducible assumption | omega), ⟨_, d22⟩, ⟨(((hS236.cell ta0 (by decide +kernel)).trans c7)).trans (c7).symm, (((hS236.cell ta0 (by decide +kernel)).trans c10)).trans (c10).symm, fun a j h => by rcases h with h | h | h; exact ((g230.cell h (wm_no (by decide +kernel))).trans (f69 _ _ (fun q => by have z := h; rw [q.1, ta0] at z; exact absurd z (by decide)))); exact ((g230.cell h (wm_no (by decide +kernel))).trans (f69 _ _ (fun q => by have z := h; rw [q.1, ta0] at z; exact absurd z (by decide)))); exact ((g230.cell h (wm_no (by decide +kernel))).trans (f69 _ _ (fun q => by have z := h; rw [q.1, ta0] at z; exact absurd z (by decide))))⟩, trivial⟩) | exact Or.inr (Or.inr (⟨(by first | done | with_reducible assumption | omega), (fun q0 z0 => fun q1 z1 => by obtain rfl := Option.some.inj ((d22).symm.trans z0); obtain rfl := Option.some.inj ((d2).symm.trans z1); (try rw [c71]); (try rw [c4]); first | done | with_reducible assumption | omega), (by first | done | with_reducible assumption | omega), (by first | done | with_reducible assumption | omega), ⟨_, d22⟩, ⟨(((hS236.cell ta0 (by decide +kernel)).trans c7)).trans (c7).symm, (((hS236.cell ta0 (by decide +kernel)).trans c10)).trans (c10).symm, fun a j h => by rcases h with h | h | h; exact ((g230.cell h (wm_no (by decide +kernel))).trans (f69 _ _ (fun q => by have z := h; rw [q.1, ta0] at z; exact absurd z (by decide)))); exact ((g230.cell h (wm_no (by decide +kernel))).trans (f69 _ _ (fun q => by have z := h; rw [q.1, ta0] at z; exact absurd z (by decide)))); exact ((g230.cell h (wm_no (by decide +kernel))).trans (f69 _ _ (fun q => by have z := h; rw [q.1, ta0] at z; exact absurd z (by decide))))⟩, (by omega), trivial⟩))), trivial⟩
      · skip
        exfalso; omega
