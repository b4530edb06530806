section CzEw
variable {T : Nat → Nat} {cn : Nat} {K N : Nat → Nat} {d d1 : Int} {I J : cz_I} {R : cz_R} {x m : Nat} {e f v f' v' : Int} {wi wr : List Nat}
/-- an EVENT's number f, in the class: of the told ones, or of a cloud that came -/
def EvV (I : cz_I) (R : cz_R) (x : Nat) (e f v : Int) : Prop := ∀ al nw, R x 2 = some al → R x 6 = some nw → (e < (I al 3).toInt → ∀ V ob, R al 4 = some V → R V e.toNat = some ob → v = (I ob f.toNat).toInt) ∧ (¬ e < (I al 3).toInt → (f = 0 → v = 0) ∧ (f = 1 → v = -2) ∧ (f = 2 → ∀ r, R nw 3 = some r → v = (I r (e - (I al 3).toInt).toNat).toInt) ∧ (f = 3 → ∀ r, R nw 4 = some r → v = (I r (e - (I al 3).toInt).toNat).toInt))
theorem EvV.cg (h : EvV I R x e f v) (hf : f' = f) (hv : v' = v) : EvV I R x e f' v' := by subst hf; subst hv; exact h
/-- the same of the reference -/
def EvW (I : cz_I) (R : cz_R) (m : Nat) (e f v : Int) : Prop := ∀ b w, R m 3 = some b → R m 16 = some w → (e < (I b 2).toInt → ∀ a, R b (11 + f.toNat) = some a → v = (I a e.toNat).toInt) ∧ (¬ e < (I b 2).toInt → (f = 0 → v = 0) ∧ (f = 1 → v = -2) ∧ (f = 2 → v = (I w (3 + (e - (I b 2).toInt).toNat)).toInt) ∧ (f = 3 → v = (I w (9 + (e - (I b 2).toInt).toNat)).toInt))
theorem EvW.cg (h : EvW I R m e f v) (hf : f' = f) (hv : v' = v) : EvW I R m e f' v' := by subst hf; subst hv; exact h
theorem EvW.kp (h : EvW J R m e f v) (h0 : 0 ≤ f ∧ f ≤ 3) (hW : Wf T cn K N I R d) (tm : T m = 15) (hS : St T cn K N d1 wi wr I R J R) (c1 : wi.all (fun c => !(Nat.beq (c / 64) 14)) = true) (c2 : wi.all (fun c => !(Nat.beq (c / 64) 54)) = true) (c3 : wi.all (fun c => !(Nat.beq (c / 64) 55)) = true) (c4 : wi.all (fun c => !(Nat.beq (c / 64) 56)) = true) (c5 : wi.all (fun c => !(Nat.beq (c / 64) 57)) = true) (c6 : wi.all (fun c => !(Nat.beq (c / 64) 77)) = true) : EvW I R m e f v := by
  intro b w hb hw
  have tb : T b = 14 := hW.rsN tm rfl hb
  have tw : T w = 77 := hW.rs tm rfl rfl hw
  obtain ⟨h1, h2⟩ := h b w hb hw
  rw [hS.cell tb (wm_no c1)] at h1 h2
  refine ⟨fun q a ha => ?_, fun q => ?_⟩
  · have z := h1 q a ha
    rw [z]
    have hf : f = 0 ∨ f = 1 ∨ f = 2 ∨ f = 3 := by omega
    rcases hf with rfl | rfl | rfl | rfl
    · rw [hS.cell (hW.rs tb rfl rfl ha : T a = 54) (wm_no c2)]
    · rw [hS.cell (hW.rs tb rfl rfl ha : T a = 55) (wm_no c3)]
    · rw [hS.cell (hW.rs tb rfl rfl ha : T a = 56) (wm_no c4)]
    · rw [hS.cell (hW.rs tb rfl rfl ha : T a = 57) (wm_no c5)]
  · obtain ⟨z0, z1, z2, z3⟩ := h2 q
    rw [hS.cell tw (wm_no c6)] at z2 z3
    exact ⟨z0, z1, z2, z3⟩
end CzEw
def Cs_X10_size (T : Nat → Nat) (I0 : cz_I) (R0 : cz_R) (a0 : Nat) (x1 : Int32) (v : Int32) (I' : cz_I) (R' : cz_R) : Prop :=
  ((((x1.toInt < 0 ∨ x1.toInt > 12) → v.toInt = -1)) ∧ (∀ b1, R0 a0 2 = some b1 → (x1.toInt = 0 → v.toInt = (I0 b1 0).toInt)) ∧ (∀ b1, R0 a0 2 = some b1 → (x1.toInt = 1 → v.toInt = (I0 b1 1).toInt)) ∧ (∀ b1, R0 a0 2 = some b1 → (x1.toInt = 2 → v.toInt = (I0 b1 3).toInt)) ∧ (∀ b1, R0 a0 6 = some b1 → (x1.toInt = 3 → v.toInt = (I0 b1 2).toInt)) ∧ (∀ b1, R0 a0 2 = some b1 → (x1.toInt = 4 → v.toInt = (I0 b1 5).toInt)) ∧ (∀ b1, R0 a0 2 = some b1 → (x1.toInt = 5 → v.toInt = (I0 b1 9).toInt)) ∧ (∀ b1, R0 a0 2 = some b1 → (x1.toInt = 6 → v.toInt = (I0 b1 11).toInt)) ∧ (∀ b1, R0 a0 2 = some b1 → (x1.toInt = 7 → v.toInt = (I0 b1 13).toInt)) ∧ (∀ b1, R0 a0 2 = some b1 → ∀ b2, R0 b1 8 = some b2 → (x1.toInt = 8 → v.toInt = (I0 b2 0).toInt)) ∧ (∀ b1, R0 a0 6 = some b1 → (x1.toInt = 9 → v.toInt = (I0 b1 1).toInt)) ∧ (∀ b1, R0 a0 7 = some b1 → (x1.toInt = 10 → v.toInt = (I0 b1 0).toInt)) ∧ (∀ b1, R0 a0 7 = some b1 → (x1.toInt = 11 → v.toInt = (I0 b1 2).toInt)) ∧ ((x1.toInt = 12 → v.toInt = (I0 a0 1).toInt)) ∧ True)
set_option maxHeartbeats 4000000 in
theorem fk_X10_size {l : Launch} {T : Nat → Nat} {cn : Nat} {K N : Nat → Nat} {I0 : cz_I} {R0 : cz_R} {L0 : cz_L} {d : Int} (hW0 : Wf T cn K N I0 R0 d)  {a0 : Nat} (ta0 : T a0 = 1) {x1 : Int32} : ConE l mX10_size [.ref a0, .int x1] cn K N I0 R0 L0 (ca_i (fun v cn' K' N' I' R' L' => cn = cn' ∧ K = K' ∧ N = N' ∧ I0 = I' ∧ R0 = R' ∧ L0 = L' ∧ Cs_X10_size T I0 R0 a0 x1 v I0 R0 ∧ True)) := by
  refine ConE.of (by decide +kernel) rfl (Nat.le_of_ble_eq_true rfl) rfl (fun X hX hZ hE => ?_)
  subst hX
  obtain ⟨a1, d2, ta1⟩ := rf1_2 hW0 ta0
  obtain ⟨v3, c4⟩ : ∃ v, I0 a1 0 = v := ⟨_, rfl⟩
  have b5 := iv2_0 hW0 ta1 c4
  obtain ⟨v6, c7⟩ : ∃ v, I0 a1 1 = v := ⟨_, rfl⟩
  have b8 := iv2_1 hW0 ta1 c7
  obtain ⟨v9, c10⟩ : ∃ v, I0 a1 3 = v := ⟨_, rfl⟩
  have b11 := iv2_3 hW0 ta1 c10
  obtain ⟨a12, d13, ta12⟩ := rf1_6 hW0 ta0
  obtain ⟨v14, c15⟩ : ∃ v, I0 a12 2 = v := ⟨_, rfl⟩
  have b16 := iv8_2 hW0 ta12 c15
  obtain ⟨v17, c18⟩ : ∃ v, I0 a1 5 = v := ⟨_, rfl⟩
  have b19 := iv2_5 hW0 ta1 c18
  obtain ⟨v20, c21⟩ : ∃ v, I0 a1 9 = v := ⟨_, rfl⟩
  have b22 := iv2_9 hW0 ta1 c21
  obtain ⟨v23, c24⟩ : ∃ v, I0 a1 11 = v := ⟨_, rfl⟩
  have b25 := iv2_11 hW0 ta1 c24
  obtain ⟨v26, c27⟩ : ∃ v, I0 a1 13 = v := ⟨_, rfl⟩
  have b28 := iv2_13 hW0 ta1 c27
  obtain ⟨a29, d30, ta29⟩ := rf2_8 hW0 ta1
  obtain ⟨v31, c32⟩ : ∃ v, I0 a29 0 = v := ⟨_, rfl⟩
  have b33 := iv6_0 hW0 ta29 c32
  obtain ⟨v34, c35⟩ : ∃ v, I0 a12 1 = v := ⟨_, rfl⟩
  have b36 := iv8_1 hW0 ta12 c35
  obtain ⟨a37, d38, ta37⟩ := rf1_7 hW0 ta0
  obtain ⟨v39, c40⟩ : ∃ v, I0 a37 0 = v := ⟨_, rfl⟩
  have b41 := iv11_0 hW0 ta37 c40
  obtain ⟨v42, c43⟩ : ∃ v, I0 a37 2 = v := ⟨_, rfl⟩
  have b44 := iv11_2 hW0 ta37 c43
  obtain ⟨v45, c46⟩ : ∃ v, I0 a0 1 = v := ⟨_, rfl⟩
  have b47 := iv1_1 hW0 ta0 c46
  refine tr_iload_n dX10_size_0 rfl ?_
  by_cases h48 : x1.toInt = 0
  · skip
    refine tr_tabIn (off := 67) 68 dX10_size_1 (by omega) (by omega) (by rw [h48]; decide +kernel) (by decide) ?_
    refine tr_aload_n dX10_size_68 rfl ?_
    refine tr_getR dX10_size_69 fl10_16 (kR1 hW0 ta0) d2 ?_
    refine q_getI dX10_size_72 fl10_146 (kR2 hW0 ta1) c4 ?_
    exact tr_iret hZ dX10_size_75 rfl (by decide) (by decide) ⟨v3, rfl, rfl, rfl, rfl, rfl, rfl, rfl, (⟨(by first | done | with_reducible assumption | omega), (fun q0 z0 => by obtain rfl := Option.some.inj ((d2).symm.trans z0); (try rw [c4]); first | done | with_reducible assumption | omega), (fun q0 z0 => by obtain rfl := Option.some.inj ((d2).symm.trans z0); (try rw [c7]); first | done | with_reducible assumption | omega), (fun q0 z0 => by obtain rfl := Option.some.inj ((d2).symm.trans z0); (try rw [c10]); first | done | with_reducible assumption | omega), (fun q0 z0 => by obtain rfl := Option.some.inj ((d13).symm.trans z0); (try rw [c15]); first | done | with_reducible assumption | omega), (fun q0 z0 => by obtain rfl := Option.some.inj ((d2).symm.trans z0); (try rw [c18]); first | done | with_reducible assumption | omega), (fun q0 z0 => by obtain rfl := Option.some.inj ((d2).symm.trans z0); (try rw [c21]); first | done | with_reducible assumption | omega), (fun q0 z0 => by obtain rfl := Option.some.inj ((d2).symm.trans z0); (try rw [c24]); first | done | with_reducible assumption | omega), (fun q0 z0 => by obtain rfl := Option.some.inj ((d2).symm.trans z0); (try rw [c27]); first | done | with_reducible assumption | omega), (fun q0 z0 => fun q1 z1 => by obtain rfl := Option.some.inj ((d2).symm.trans z0); obtain rfl := Option.some.inj ((d30).symm.trans z1); (try rw [c32]); first | done | with_reducible assumption | omega), (fun q0 z0 => by obtain rfl := Option.some.inj ((d13).symm.trans z0); (try rw [c35]); first | done | with_reducible assumption | omega), (fun q0 z0 => by obtain rfl := Option.some.inj ((d38).symm.trans z0); (try rw [c40]); first | done | with_reducible assumption | omega), (fun q0 z0 => by obtain rfl := Option.some.inj ((d38).symm.trans z0); (try rw [c43]); first | done | with_reducible assumption | omega), (by (try rw [c46]); first | done | with_reducible assumption | omega), trivial⟩), trivial⟩
  · skip
    by_cases h49 : x1.toInt = 1
    · skip
      refine tr_tabIn (off := 75) 76 dX10_size_1 (by omega) (by omega) (by rw [h49]; decide +kernel) (by decide) ?_
      refine tr_aload_n dX10_size_76 rfl ?_
      refine tr_getR dX10_size_77 fl10_16 (kR1 hW0 ta0) d2 ?_
      refine q_getI dX10_size_80 fl10_332 (kR2 hW0 ta1) c7 ?_
      exact tr_iret hZ dX10_size_83 rfl (by decide) (by decide) ⟨v6, rfl, rfl, rfl, rfl, rfl, rfl, rfl, (⟨(by first | done | with_reducible assumption | omega), (fun q0 z0 => by obtain rfl := Option.some.inj ((d2).symm.trans z0); (try rw [c4]); first | done | with_reducible assumption | omega), (fun q0 z0 => by obtain rfl := Option.some.inj ((d2).symm.trans z0); (try rw [c7]); first | done | with_reducible assumption | omega), (fun q0 z0 => by obtain rfl := Option.some.inj ((d2).symm.trans z0); (try rw [c10]); first | done | with_reducible assumption | omega), (fun q0 z0 => by obtain rfl := Option.some.inj ((d13).symm.trans z0); (try rw [c15]); first | done | with_reducible assumption | omega), (fun q0 z0 => by obtain rfl := Option.some.inj ((d2).symm.trans z0); (try rw [c18]); first | done | with_reducible assumption | omega), (fun q0 z0 => by obtain rfl := Option.some.inj ((d2).symm.trans z0); (try rw [c21]); first | done | with_reducible assumption | omega), (fun q0 z0 => by obtain rfl := Option.some.inj ((d2).symm.trans z0); (try rw [c24]); first | done | with_reducible assumption | omega), (fun q0 z0 => by obtain rfl := Option.some.inj ((d2).symm.trans z0); (try rw [c27]); first | done | with_reducible assumption | omega), (fun q0 z0 => fun q1 z1 => by obtain rfl := Option.some.inj ((d2).symm.trans z0); obtain rfl := Option.some.inj ((d30).symm.trans z1); (try rw [c32]); first | done | with_reducible assumption | omega), (fun q0 z0 => by obtain rfl := Option.some.inj ((d13).symm.trans z0); (try rw [c35]); first | done | with_reducible assumption | omega), (fun q0 z0 => by obtain rfl := Option.some.inj ((d38).symm.trans z0); (try rw [c40]); first | done | with_reducible assumption | omega), (fun q0 z0 => by obtain rfl := Option.some.inj ((d38).symm.trans z0); (try rw [c43]); first | done | with_reducible assumption | omega), (by (try rw [c46]); first | done | with_reducible assumption | omega), trivial⟩), trivial⟩
    · skip
      by_cases h50 : x1.toInt = 2
      · skip
        refine tr_tabIn (off := 83) 84 dX10_size_1 (by omega) (by omega) (by rw [h50]; decide +kernel) (by decide) ?_
        refine tr_aload_n dX10_size_84 rfl ?_
        refine tr_getR dX10_size_85 fl10_16 (kR1 hW0 ta0) d2 ?_
        refine q_getI dX10_size_88 fl10_311 (kR2 hW0 ta1) c10 ?_
        exact tr_iret hZ dX10_size_91 rfl (by decide) (by decide) ⟨v9, rfl, rfl, rfl, rfl, rfl, rfl, rfl, (⟨(by first | done | with_reducible assumption | omega), (fun q0 z0 => by obtain rfl := Option.some.inj ((d2).symm.trans z0); (try rw [c4]); first | done | with_reducible assumption | omega), (fun q0 z0 => by obtain rfl := Option.some.inj ((d2).symm.trans z0); (try rw [c7]); first | done | with_reducible assumption | omega), (fun q0 z0 => by obtain rfl := Option.some.inj ((d2).symm.trans z0); (try rw [c10]); first | done | with_reducible assumption | omega), (fun q0 z0 => by obtain rfl := Option.some.inj ((d13).symm.trans z0); (try rw [c15]); first | done | with_reducible assumption | omega), (fun q0 z0 => by obtain rfl := Option.some.inj ((d2).symm.trans z0); (try rw [c18]); first | done | with_reducible assumption | omega), (fun q0 z0 => by obtain rfl := Option.some.inj ((d2).symm.trans z0); (try rw [c21]); first | done | with_reducible assumption | omega), (fun q0 z0 => by obtain rfl := Option.some.inj ((d2).symm.trans z0); (try rw [c24]); first | done | with_reducible assumption | omega), (fun q0 z0 => by obtain rfl := Option.some.inj ((d2).symm.trans z0); (try rw [c27]); first | done | with_reducible assumption | omega), (fun q0 z0 => fun q1 z1 => by obtain rfl := Option.some.inj ((d2).symm.trans z0); obtain rfl := Option.some.inj ((d30).symm.trans z1); (try rw [c32]); first | done | with_reducible assumption | omega), (fun q0 z0 => by obtain rfl := Option.some.inj ((d13).symm.trans z0); (try rw [c35]); first | done | with_reducible assumption | omega), (fun q0 z0 => by obtain rfl := Option.some.inj ((d38).symm.trans z0); (try rw [c40]); first | done | with_reducible assumption | omega), (fun q0 z0 => by obtain rfl := Option.some.inj ((d38).symm.trans z0); (try rw [c43]); first | done | with_reducible assumption | omega), (by (try rw [c46]); first | done | with_reducible assumption | omega), trivial⟩), trivial⟩
      · skip
        by_cases h51 : x1.toInt = 3
        · skip
          refine tr_tabIn (off := 91) 92 dX10_size_1 (by omega) (by omega) (by rw [h51]; decide +kernel) (by decide) ?_
          refine tr_aload_n dX10_size_92 rfl ?_
          refine tr_getR dX10_size_93 fl10_35 (kR1 hW0 ta0) d13 ?_
          refine q_getI dX10_size_96 fl10_272 (kR8 hW0 ta12) c15 ?_
          exact tr_iret hZ dX10_size_99 rfl (by decide) (by decide) ⟨v14, rfl, rfl, rfl, rfl, rfl, rfl, rfl, (⟨(by first | done | with_reducible assumption | omega), (fun q0 z0 => by obtain rfl := Option.some.inj ((d2).symm.trans z0); (try rw [c4]); first | done | with_reducible assumption | omega), (fun q0 z0 => by obtain rfl := Option.some.inj ((d2).symm.trans z0); (try rw [c7]); first | done | with_reducible assumption | omega), (fun q0 z0 => by obtain rfl := Option.some.inj ((d2).symm.trans z0); (try rw [c10]); first | done | with_reducible assumption | omega), (fun q0 z0 => by obtain rfl := Option.some.inj ((d13).symm.trans z0); (try rw [c15]); first | done | with_reducible assumption | omega), (fun q0 z0 => by obtain rfl := Option.some.inj ((d2).symm.trans z0); (try rw [c18]); first | done | with_reducible assumption | omega), (fun q0 z0 => by obtain rfl := Option.some.inj ((d2).symm.trans z0); (try rw [c21]); first | done | with_reducible assumption | omega), (fun q0 z0 => by obtain rfl := Option.some.inj ((d2).symm.trans z0); (try rw [c24]); first | done | with_reducible assumption | omega), (fun q0 z0 => by obtain rfl := Option.some.inj ((d2).symm.trans z0); (try rw [c27]); first | done | with_reducible assumption | omega), (fun q0 z0 => fun q1 z1 => by obtain rfl := Option.some.inj ((d2).symm.trans z0); obtain rfl := Option.some.inj ((d30).symm.trans z1); (try rw [c32]); first | done | with_reducible assumption | omega), (fun q0 z0 => by obtain rfl := Option.some.inj ((d13).symm.trans z0); (try rw [c35]); first | done | with_reducible assumption | omega), (fun q0 z0 => by obtain rfl := Option.some.inj ((d38).symm.trans z0); (try rw [c40]); first | done | with_reducible assumption | omega), (fun q0 z0 => by obtain rfl := Option.some.inj ((d38).symm.trans z0); (try rw [c43]); first | done | with_reducible assumption | omega), (by (try rw [c46]); first | done | with_reducible assumption | omega), trivial⟩), trivial⟩
        · skip
          by_cases h52 : x1.toInt = 4
          · skip
            refine tr_tabIn (off := 99) 100 dX10_size_1 (by omega) (by omega) (by rw [h52]; decide +kernel) (by decide) ?_
            refine tr_aload_n dX10_size_100 rfl ?_
            refine tr_getR dX10_size_101 fl10_16 (kR1 hW0 ta0) d2 ?_
            refine q_getI dX10_size_104 fl10_106 (kR2 hW0 ta1) c18 ?_
            exact tr_iret hZ dX10_size_107 rfl (by decide) (by decide) ⟨v17, rfl, rfl, rfl, rfl, rfl, rfl, rfl, (⟨(by first | done | with_reducible assumption | omega), (fun q0 z0 => by obtain rfl := Option.some.inj ((d2).symm.trans z0); (try rw [c4]); first | done | with_reducible assumption | omega), (fun q0 z0 => by obtain rfl := Option.some.inj ((d2).symm.trans z0); (try rw [c7]); first | done | with_reducible assumption | omega), (fun q0 z0 => by obtain rfl := Option.some.inj ((d2).symm.trans z0); (try rw [c10]); first | done | with_reducible assumption | omega), (fun q0 z0 => by obtain rfl := Option.some.inj ((d13).symm.trans z0); (try rw [c15]); first | done | with_reducible assumption | omega), (fun q0 z0 => by obtain rfl := Option.some.inj ((d2).symm.trans z0); (try rw [c18]); first | done | with_reducible assumption | omega), (fun q0 z0 => by obtain rfl := Option.some.inj ((d2).symm.trans z0); (try rw [c21]); first | done | with_reducible assumption | omega), (fun q0 z0 => by obtain rfl := Option.some.inj ((d2).symm.trans z0); (try rw [c24]); first | done | with_reducible assumption | omega), (fun q0 z0 => by obtain rfl := Option.some.inj ((d2).symm.trans z0); (try rw [c27]); first | done | with_reducible assumption | omega), (fun q0 z0 => fun q1 z1 => by obtain rfl := Option.some.inj ((d2).symm.trans z0); obtain rfl := Option.some.inj ((d30).symm.trans z1); (try rw [c32]); first | done | with_reducible assumption | omega), (fun q0 z0 => by obtain rfl := Option.some.inj ((d13).symm.trans z0); (try rw [c35]); first | done | with_reducible assumption | omega), (fun q0 z0 => by obtain rfl := Option.some.inj ((d38).symm.trans z0); (try rw [c40]); first | done | with_reducible assumption | omega), (fun q0 z0 => by obtain rfl := Option.some.inj ((d38).symm.trans z0); (try rw [c43]); first | done | with_reducible assumption | omega), (by (try rw [c46]); first | done | with_reducible assumption | omega), trivial⟩), trivial⟩
          · skip
            by_cases h53 : x1.toInt = 5
            · skip
              refine tr_tabIn (off := 107) 108 dX10_size_1 (by omega) (by omega) (by rw [h53]; decide +kernel) (by decide) ?_
              refine tr_aload_n dX10_size_108 rfl ?_
              refine tr_getR dX10_size_109 fl10_16 (kR1 hW0 ta0) d2 ?_
              refine q_getI dX10_size_112 fl10_335 (kR2 hW0 ta1) c21 ?_
              exact tr_iret hZ dX10_size_115 rfl (by decide) (by decide) ⟨v20, rfl, rfl, rfl, rfl, rfl, rfl, rfl, (⟨(by first | done | with_reducible assumption | omega), (fun q0 z0 => by obtain rfl := Option.some.inj ((d2).symm.trans z0); (try rw [c4]); first | done | with_reducible assumption | omega), (fun q0 z0 => by obtain rfl := Option.some.inj ((d2).symm.trans z0); (try rw [c7]); first | done | with_reducible assumption | omega), (fun q0 z0 => by obtain rfl := Option.some.inj ((d2).symm.trans z0); (try rw [c10]); first | done | with_reducible assumption | omega), (fun q0 z0 => by obtain rfl := Option.some.inj ((d13).symm.trans z0); (try rw [c15]); first | done | with_reducible assumption | omega), (fun q0 z0 => by obtain rfl := Option.some.inj ((d2).symm.trans z0); (try rw [c18]); first | done | with_reducible assumption | omega), (fun q0 z0 => by obtain rfl := Option.some.inj ((d2).symm.trans z0); (try rw [c21]); first | done | with_reducible assumption | omega), (fun q0 z0 => by obtain rfl := Option.some.inj ((d2).symm.trans z0); (try rw [c24]); first | done | with_reducible assumption | omega), (fun q0 z0 => by obtain rfl := Option.some.inj ((d2).symm.trans z0); (try rw [c27]); first | done | with_reducible assumption | omega), (fun q0 z0 => fun q1 z1 => by obtain rfl := Option.some.inj ((d2).symm.trans z0); obtain rfl := Option.some.inj ((d30).symm.trans z1); (try rw [c32]); first | done | with_reducible assumption | omega), (fun q0 z0 => by obtain rfl := Option.some.inj ((d13).symm.trans z0); (try rw [c35]); first | done | with_reducible assumption | omega), (fun q0 z0 => by obtain rfl := Option.some.inj ((d38).symm.trans z0); (try rw [c40]); first | done | with_reducible assumption | omega), (fun q0 z0 => by obtain rfl := Option.some.inj ((d38).symm.trans z0); (try rw [c43]); first | done | with_reducible assumption | omega), (by (try rw [c46]); first | done | with_reducible assumption | omega), trivial⟩), trivial⟩
            · skip
              by_cases h54 : x1.toInt = 6
              · skip
                refine tr_tabIn (off := 115) 116 dX10_size_1 (by omega) (by omega) (by rw [h54]; decide +kernel) (by decide) ?_
                refine tr_aload_n dX10_size_116 rfl ?_
                refine tr_getR dX10_size_117 fl10_16 (kR1 hW0 ta0) d2 ?_
                refine q_getI dX10_size_120 fl10_278 (kR2 hW0 ta1) c24 ?_
                exact tr_iret hZ dX10_size_123 rfl (by decide) (by decide) ⟨v23, rfl, rfl, rfl, rfl, rfl, rfl, rfl, (⟨(by first | done | with_reducible assumption | omega), (fun q0 z0 => by obtain rfl := Option.some.inj ((d2).symm.trans z0); (try rw [c4]); first | done | with_reducible assumption | omega), (fun q0 z0 => by obtain rfl := Option.some.inj ((d2).symm.trans z0); (try rw [c7]); first | done | with_reducible assumption | omega), (fun q0 z0 => by obtain rfl := Option.some.inj ((d2).symm.trans z0); (try rw [c10]); first | done | with_reducible assumption | omega), (fun q0 z0 => by obtain rfl := Option.some.inj ((d13).symm.trans z0); (try rw [c15]); first | done | with_reducible assumption | omega), (fun q0 z0 => by obtain rfl := Option.some.inj ((d2).symm.trans z0); (try rw [c18]); first | done | with_reducible assumption | omega), (fun q0 z0 => by obtain rfl := Option.some.inj ((d2).symm.trans z0); (try rw [c21]); first | done | with_reducible assumption | omega), (fun q0 z0 => by obtain rfl := Option.some.inj ((d2).symm.trans z0); (try rw [c24]); first | done | with_reducible assumption | omega), (fun q0 z0 => by obtain rfl := Option.some.inj ((d2).symm.trans z0); (try rw [c27]); first | done | with_reducible assumption | omega), (fun q0 z0 => fun q1 z1 => by obtain rfl := Option.some.inj ((d2).symm.trans z0); obtain rfl := Option.some.inj ((d30).symm.trans z1); (try rw [c32]); first | done | with_reducible assumption | omega), (fun q0 z0 => by obtain rfl := Option.some.inj ((d13).symm.trans z0); (try rw [c35]); first | done | with_reducible assumption | omega), (fun q0 z0 => by obtain rfl := Option.some.inj ((d38).symm.trans z0); (try rw [c40]); first | done | with_reducible assumption | omega), (fun q0 z0 => by obtain rfl := Option.some.inj ((d38).symm.trans z0); (try rw [c43]); first | done | with_reducible assumption | omega), (by (try rw [c46]); first | done | with_reducible assumption | omega), trivial⟩), trivial⟩
              · skip
                by_cases h55 : x1.toInt = 7
                · skip
                  refine tr_tabIn (off := 123) 124 dX10_size_1 (by omega) (by omega) (by rw [h55]; decide +kernel) (by decide) ?_
                  refine tr_aload_n dX10_size_124 rfl ?_
                  refine tr_getR dX10_size_125 fl10_16 (kR1 hW0 ta0) d2 ?_
                  refine q_getI dX10_size_128 fl10_338 (kR2 hW0 ta1) c27 ?_
                  exact tr_iret hZ dX10_size_131 rfl (by decide) (by decide) ⟨v26, rfl, rfl, rfl, rfl, rfl, rfl, rfl, (⟨(by first | done | with_reducible assumption | omega), (fun q0 z0 => by obtain rfl := Option.some.inj ((d2).symm.trans z0); (try rw [c4]); first | done | with_reducible assumption | omega), (fun q0 z0 => by obtain rfl := Option.some.inj ((d2).symm.trans z0); (try rw [c7]); first | done | with_reducible assumption | omega), (fun q0 z0 => by obtain rfl := Option.some.inj ((d2).symm.trans z0); (try rw [c10]); first | done | with_reducible assumption | omega), (fun q0 z0 => by obtain rfl := Option.some.inj ((d13).symm.trans z0); (try rw [c15]); first | done | with_reducible assumption | omega), (fun q0 z0 => by obtain rfl := Option.some.inj ((d2).symm.trans z0); (try rw [c18]); first | done | with_reducible assumption | omega), (fun q0 z0 => by obtain rfl := Option.some.inj ((d2).symm.trans z0); (try rw [c21]); first | done | with_reducible assumption | omega), (fun q0 z0 => by obtain rfl := Option.some.inj ((d2).symm.trans z0); (try rw [c24]); first | done | with_reducible assumption | omega), (fun q0 z0 => by obtain rfl := Option.some.inj ((d2).symm.trans z0); (try rw [c27]); first | done | with_reducible assumption | omega), (fun q0 z0 => fun q1 z1 => by obtain rfl := Option.some.inj ((d2).symm.trans z0); obtain rfl := Option.some.inj ((d30).symm.trans z1); (try rw [c32]); first | done | with_reducible assumption | omega), (fun q0 z0 => by obtain rfl := Option.some.inj ((d13).symm.trans z0); (try rw [c35]); first | done | with_reducible assumption | omega), (fun q0 z0 => by obtain rfl := Option.some.inj ((d38).symm.trans z0); (try rw [c40]); first | done | with_reducible assumption | omega), (fun q0 z0 => by obtain rfl := Option.some.inj ((d38).symm.trans z0); (try rw [c43]); first | done | with_reducible assumption | omega), (by (try rw [c46]); first | done | with_reducible assumption | omega), trivial⟩), trivial⟩
                · skip
                  by_cases h56 : x1.toInt = 8
                  · skip
                    refine tr_tabIn (off := 131) 132 dX10_size_1 (by omega) (by omega) (by rw [h56]; decide +kernel) (by decide) ?_
                    refine tr_aload_n dX10_size_132 rfl ?_
                    refine tr_getR dX10_size_133 fl10_16 (kR1 hW0 ta0) d2 ?_
                    refine tr_getR dX10_size_136 fl10_341 (kR2 hW0 ta1) d30 ?_
                    refine q_getI dX10_size_139 fl10_345 (kR6 hW0 ta29) c32 ?_
                    exact tr_iret hZ dX10_size_142 rfl (by decide) (by decide) ⟨v31, rfl, rfl, rfl, rfl, rfl, rfl, rfl, (⟨(by first | done | with_reducible assumption | omega), (fun q0 z0 => by obtain rfl := Option.some.inj ((d2).symm.trans z0); (try rw [c4]); first | done | with_reducible assumption | omega), (fun q0 z0 => by obtain rfl := Option.some.inj ((d2).symm.trans z0); (try rw [c7]); first | done | with_reducible assumption | omega), (fun q0 z0 => by obtain rfl := Option.some.inj ((d2).symm.trans z0); (try rw [c10]); first | done | with_reducible assumption | omega), (fun q0 z0 => by obtain rfl := Option.some.inj ((d13).symm.trans z0); (try rw [c15]); first | done | with_reducible assumption | omega), (fun q0 z0 => by obtain rfl := Option.some.inj ((d2).symm.trans z0); (try rw [c18]); first | done | with_reducible assumption | omega), (fun q0 z0 => by obtain rfl := Option.some.inj ((d2).symm.trans z0); (try rw [c21]); first | done | with_reducible assumption | omega), (fun q0 z0 => by obtain rfl := Option.some.inj ((d2).symm.trans z0); (try rw [c24]); first | done | with_reducible assumption | omega), (fun q0 z0 => by obtain rfl := Option.some.inj ((d2).symm.trans z0); (try rw [c27]); first | done | with_reducible assumption | omega), (fun q0 z0 => fun q1 z1 => by obtain rfl := Option.some.inj ((d2).symm.trans z0); obtain rfl := Option.some.inj ((d30).symm.trans z1); (try rw [c32]); first | done | with_reducible assumption | omega), (fun q0 z0 => by obtain rfl := Option.some.inj ((d13).symm.trans z0); (try rw [c35]); first | done | with_reducible assumption | omega), (fun q0 z0 => by obtain rfl := Option.some.inj ((d38).symm.trans z0); (try rw [c40]); first | done | with_reducible assumption | omega), (fun q0 z0 => by obtain rfl := Option.some.inj ((d38).symm.trans z0); (try rw [c43]); first | done | with_reducible assumption | omega), (by (try rw [c46]); first | done | with_reducible assumption | omega), trivial⟩), trivial⟩
                  · skip
                    by_cases h57 : x1.toInt = 9
                    · skip
                      refine tr_tabIn (off := 142) 143 dX10_size_1 (by omega) (by omega) (by rw [h57]; decide +kernel) (by decide) ?_
                      refine tr_aload_n dX10_size_143 rfl ?_
                      refine tr_getR dX10_size_144 fl10_35 (kR1 hW0 ta0) d13 ?_
                      refine q_getI dX10_size_147 fl10_269 (kR8 hW0 ta12) c35 ?_
                      exact tr_iret hZ dX10_size_150 rfl (by decide) (by decide) ⟨v34, rfl, rfl, rfl, rfl, rfl, rfl, rfl, (⟨(by first | done | with_reducible assumption | omega), (fun q0 z0 => by obtain rfl := Option.some.inj ((d2).symm.trans z0); (try rw [c4]); first | done | with_reducible assumption | omega), (fun q0 z0 => by obtain rfl := Option.some.inj ((d2).symm.trans z0); (try rw [c7]); first | done | with_reducible assumption | omega), (fun q0 z0 => by obtain rfl := Option.some.inj ((d2).symm.trans z0); (try rw [c10]); first | done | with_reducible assumption | omega), (fun q0 z0 => by obtain rfl := Option.some.inj ((d13).symm.trans z0); (try rw [c15]); first | done | with_reducible assumption | omega), (fun q0 z0 => by obtain rfl := Option.some.inj ((d2).symm.trans z0); (try rw [c18]); first | done | with_reducible assumption | omega), (fun q0 z0 => by obtain rfl := Option.some.inj ((d2).symm.trans z0); (try rw [c21]); first | done | with_reducible assumption | omega), (fun q0 z0 => by obtain rfl := Option.some.inj ((d2).symm.trans z0); (try rw [c24]); first | done | with_reducible assumption | omega), (fun q0 z0 => by obtain rfl := Option.some.inj ((d2).symm.trans z0); (try rw [c27]); first | done | with_reducible assumption | omega), (fun q0 z0 => fun q1 z1 => by obtain rfl := Option.some.inj ((d2).symm.trans z0); obtain rfl := Option.some.inj ((d30).symm.trans z1); (try rw [c32]); first | done | with_reducible assumption | omega), (fun q0 z0 => by obtain rfl := Option.some.inj ((d13).symm.trans z0); (try rw [c35]); first | done | with_reducible assumption | omega), (fun q0 z0 => by obtain rfl := Option.some.inj ((d38).symm.trans z0); (try rw [c40]); first | done | with_reducible assumption | omega), (fun q0 z0 => by obtain rfl := Option.some.inj ((d38).symm.trans z0); (try rw [c43]); first | done | with_reducible assumption | omega), (by (try rw [c46]); first | done | with_reducible assumption | omega), trivial⟩), trivial⟩
                    · skip
                      by_cases h58 : x1.toInt = 10
                      · skip
                        refine tr_tabIn (off := 150) 151 dX10_size_1 (by omega) (by omega) (by rw [h58]; decide +kernel) (by decide) ?_
                        refine tr_aload_n dX10_size_151 rfl ?_
                        refine tr_getR dX10_size_152 fl10_42 (kR1 hW0 ta0) d38 ?_
                        refine q_getI dX10_size_155 fl10_350 (kR11 hW0 ta37) c40 ?_
                        exact tr_iret hZ dX10_size_158 rfl (by decide) (by decide) ⟨v39, rfl, rfl, rfl, rfl, rfl, rfl, rfl, (⟨(by first | done | with_reducible assumption | omega), (fun q0 z0 => by obtain rfl := Option.some.inj ((d2).symm.trans z0); (try rw [c4]); first | done | with_reducible assumption | omega), (fun q0 z0 => by obtain rfl := Option.some.inj ((d2).symm.trans z0); (try rw [c7]); first | done | with_reducible assumption | omega), (fun q0 z0 => by obtain rfl := Option.some.inj ((d2).symm.trans z0); (try rw [c10]); first | done | with_reducible assumption | omega), (fun q0 z0 => by obtain rfl := Option.some.inj ((d13).symm.trans z0); (try rw [c15]); first | done | with_reducible assumption | omega), (fun q0 z0 => by obtain rfl := Option.some.inj ((d2).symm.trans z0); (try rw [c18]); first | done | with_reducible assumption | omega), (fun q0 z0 => by obtain rfl := Option.some.inj ((d2).symm.trans z0); (try rw [c21]); first | done | with_reducible assumption | omega), (fun q0 z0 => by obtain rfl := Option.some.inj ((d2).symm.trans z0); (try rw [c24]); first | done | with_reducible assumption | omega), (fun q0 z0 => by obtain rfl := Option.some.inj ((d2).symm.trans z0); (try rw [c27]); first | done | with_reducible assumption | omega), (fun q0 z0 => fun q1 z1 => by obtain rfl := Option.some.inj ((d2).symm.trans z0); obtain rfl := Option.some.inj ((d30).symm.trans z1); (try rw [c32]); first | done | with_reducible assumption | omega), (fun q0 z0 => by obtain rfl := Option.some.inj ((d13).symm.trans z0); (try rw [c35]); first | done | with_reducible assumption | omega), (fun q0 z0 => by obtain rfl := Option.some.inj ((d38).symm.trans z0); (try rw [c40]); first | done | with_reducible assumption | omega), (fun q0 z0 => by obtain rfl := Option.some.inj ((d38).symm.trans z0); (try rw [c43]); first | done | with_reducible assumption | omega), (by (try rw [c46]); first | done | with_reducible assumption | omega), trivial⟩), trivial⟩
                      · skip
                        by_cases h59 : x1.toInt = 11
                        · skip
                          refine tr_tabIn (off := 158) 159 dX10_size_1 (by omega) (by omega) (by rw [h59]; decide +kernel) (by decide) ?_
                          refine tr_aload_n dX10_size_159 rfl ?_
                          refine tr_getR dX10_size_160 fl10_42 (kR1 hW0 ta0) d38 ?_
                          refine q_getI dX10_size_163 fl10_353 (kR11 hW0 ta37) c43 ?_
                          exact tr_iret hZ dX10_size_166 rfl (by decide) (by decide) ⟨v42, rfl, rfl, rfl, rfl, rfl, rfl, rfl, (⟨(by first | done | with_reducible assumption | omega), (fun q0 z0 => by obtain rfl := Option.some.inj ((d2).symm.trans z0); (try rw [c4]); first | done | with_reducible assumption | omega), (fun q0 z0 => by obtain rfl := Option.some.inj ((d2).symm.trans z0); (try rw [c7]); first | done | with_reducible assumption | omega), (fun q0 z0 => by obtain rfl := Option.some.inj ((d2).symm.trans z0); (try rw [c10]); first | done | with_reducible assumption | omega), (fun q0 z0 => by obtain rfl := Option.some.inj ((d13).symm.trans z0); (try rw [c15]); first | done | with_reducible assumption | omega), (fun q0 z0 => by obtain rfl := Option.some.inj ((d2).symm.trans z0); (try rw [c18]); first | done | with_reducible assumption | omega), (fun q0 z0 => by obtain rfl := Option.some.inj ((d2).symm.trans z0); (try rw [c21]); first | done | with_reducible assumption | omega), (fun q0 z0 => by obtain rfl := Option.some.inj ((d2).symm.trans z0); (try rw [c24]); first | done | with_reducible assumption | omega), (fun q0 z0 => by obtain rfl := Option.some.inj ((d2).symm.trans z0); (try rw [c27]); first | done | with_reducible assumption | omega), (fun q0 z0 => fun q1 z1 => by obtain rfl := Option.some.inj ((d2).symm.trans z0); obtain rfl := Option.some.inj ((d30).symm.trans z1); (try rw [c32]); first | done | with_reducible assumption | omega), (fun q0 z0 => by obtain rfl := Option.some.inj ((d13).symm.trans z0); (try rw [c35]); first | done | with_reducible assumption | omega), (fun q0 z0 => by obtain rfl := Option.some.inj ((d38).symm.trans z0); (try rw [c40]); first | done | with_reducible assumption | omega), (fun q0 z0 => by obtain rfl := Option.some.inj ((d38).symm.trans z0); (try rw [c43]); first | done | with_reducible assumption | omega), (by (try rw [c46]); first | done | with_reducible assumption | omega), trivial⟩), trivial⟩
                        · skip
                          by_cases h60 : x1.toInt = 12
                          · skip
                            refine tr_tabIn (off := 166) 167 dX10_size_1 (by omega) (by omega) (by rw [h60]; decide +kernel) (by decide) ?_
                            refine tr_aload_n dX10_size_167 rfl ?_
                            refine q_getI dX10_size_168 fl10_71 (kR1 hW0 ta0) c46 ?_
                            exact tr_iret hZ dX10_size_171 rfl (by decide) (by decide) ⟨v45, rfl, rfl, rfl, rfl, rfl, rfl, rfl, (⟨(by first | done | with_reducible assumption | omega), (fun q0 z0 => by obtain rfl := Option.some.inj ((d2).symm.trans z0); (try rw [c4]); first | done | with_reducible assumption | omega), (fun q0 z0 => by obtain rfl := Option.some.inj ((d2).symm.trans z0); (try rw [c7]); first | done | with_reducible assumption | omega), (fun q0 z0 => by obtain rfl := Option.some.inj ((d2).symm.trans z0); (try rw [c10]); first | done | with_reducible assumption | omega), (fun q0 z0 => by obtain rfl := Option.some.inj ((d13).symm.trans z0); (try rw [c15]); first | done | with_reducible assumption | omega), (fun q0 z0 => by obtain rfl := Option.some.inj ((d2).symm.trans z0); (try rw [c18]); first | done | with_reducible assumption | omega), (fun q0 z0 => by obtain rfl := Option.some.inj ((d2).symm.trans z0); (try rw [c21]); first | done | with_reducible assumption | omega), (fun q0 z0 => by obtain rfl := Option.some.inj ((d2).symm.trans z0); (try rw [c24]); first | done | with_reducible assumption | omega), (fun q0 z0 => by obtain rfl := Option.some.inj ((d2).symm.trans z0); (try rw [c27]); first | done | with_reducible assumption | omega), (fun q0 z0 => fun q1 z1 => by obtain rfl := Option.some.inj ((d2).symm.trans z0); obtain rfl := Option.some.inj ((d30).symm.trans z1); (try rw [c32]); first | done | with_reducible assumption | omega), (fun q0 z0 => by obtain rfl := Option.some.inj ((d13).symm.trans z0); (try rw [c35]); first | done | with_reducible assumption | omega), (fun q0 z0 => by obtain rfl := Option.some.inj ((d38).symm.trans z0); (try rw [c40]); first | done | with_reducible assumption | omega), (fun q0 z0 => by obtain rfl := Option.some.inj ((d38).symm.trans z0); (try rw [c43]); first | done | with_reducible assumption | omega), (by (try rw [c46]); first | done | with_reducible assumption | omega), trivial⟩), trivial⟩
                          · skip
                            refine tr_tabOut 172 dX10_size_1 (by omega) (by decide) ?_
                            refine q_iconst dX10_size_172 (by decide) ?_
                            intro v61 h62
                            exact tr_iret hZ dX10_size_173 rfl (by decide) (by decide) ⟨v61, rfl, rfl, rfl, rfl, rfl, rfl, rfl, (⟨(by first | done | with_reducible assumption | omega), (fun q0 z0 => by obtain rfl := Option.some.inj ((d2).symm.trans z0); (try rw [c4]); first | done | with_reducible assumption | omega), (fun q0 z0 => by obtain rfl := Option.some.inj ((d2).symm.trans z0); (try rw [c7]); first | done | with_reducible assumption | omega), (fun q0 z0 => by obtain rfl := Option.some.inj ((d2).symm.trans z0); (try rw [c10]); first | done | with_reducible assumption | omega), (fun q0 z0 => by obtain rfl := Option.some.inj ((d13).symm.trans z0); (try rw [c15]); first | done | with_reducible assumption | omega), (fun q0 z0 => by obtain rfl := Option.some.inj ((d2).symm.trans z0); (try rw [c18]); first | done | with_reducible assumption | omega), (fun q0 z0 => by obtain rfl := Option.some.inj ((d2).symm.trans z0); (try rw [c21]); first | done | with_reducible assumption | omega), (fun q0 z0 => by obtain rfl := Option.some.inj ((d2).symm.trans z0); (try rw [c24]); first | done | with_reducible assumption | omega), (fun q0 z0 => by obtain rfl := Option.some.inj ((d2).symm.trans z0); (try rw [c27]); first | done | with_reducible assumption | omega), (fun q0 z0 => fun q1 z1 => by obtain rfl := Option.some.inj ((d2).symm.trans z0); obtain rfl := Option.some.inj ((d30).symm.trans z1); (try rw [c32]); first | done | with_reducible assumption | omega), (fun q0 z0 => by obtain rfl := Option.some.inj ((d13).symm.trans z0); (try rw [c35]); first | done | with_reducible assumption | omega), (fun q0 z0 => by obtain rfl := Option.some.inj ((d38).symm.trans z0); (try rw [c40]); first | done | with_reducible assumption | omega), (fun q0 z0 => by obtain rfl := Option.some.inj ((d38).symm.trans z0); (try rw [c43]); first | done | with_reducible assumption | omega), (by (try rw [c46]); first | done | with_reducible assumption | omega), trivial⟩), trivial⟩
def wik_X12_size : List Nat := [960]
def wrk_X12_size : List Nat := []
def Cs_X12_size (T : Nat → Nat) (I0 : cz_I) (R0 : cz_R) (a0 : Nat) (x1 : Int32) (v : Int32) (I' : cz_I) (R' : cz_R) : Prop :=
  ((((x1.toInt < 0 ∨ x1.toInt > 12) → v.toInt = -1)) ∧ (((0 ≤ x1.toInt ∧ x1.toInt ≤ 11) → v.toInt = 0)) ∧ ((x1.toInt = 12 → v.toInt = (I0 a0 6).toInt)) ∧ (R0 a0 3 = none) ∧ (SmM T I0 I' a0) ∧ True) ∨
  ((((x1.toInt < 0 ∨ x1.toInt > 12) → v.toInt = -1)) ∧ (∀ b1, R0 a0 3 = some b1 → (x1.toInt = 0 → v.toInt = (I0 b1 0).toInt)) ∧ (∀ b1, R0 a0 3 = some b1 → (x1.toInt = 1 → v.toInt = (I0 b1 1).toInt)) ∧ (∀ b1, R0 a0 3 = some b1 → (x1.toInt = 2 → v.toInt = (I0 b1 2).toInt)) ∧ (∀ b1, R0 a0 16 = some b1 → (x1.toInt = 3 → v.toInt = (I0 b1 1).toInt)) ∧ (∀ b1, R0 a0 3 = some b1 → (x1.toInt = 4 → v.toInt = (I0 b1 3).toInt)) ∧ (∀ b1, R0 a0 3 = some b1 → (x1.toInt = 5 → v.toInt = (I0 b1 4).toInt)) ∧ (∀ b1, R0 a0 3 = some b1 → (x1.toInt = 6 → v.toInt = (I0 b1 5).toInt)) ∧ (∀ b1, R0 a0 3 = some b1 → (x1.toInt = 7 → v.toInt = (I0 b1 6).toInt)) ∧ (∀ b1, R0 a0 3 = some b1 → (x1.toInt = 8 → v.toInt = (I0 b1 8).toInt)) ∧ (∀ b1, R0 a0 16 = some b1 → (x1.toInt = 9 → v.toInt = (I0 b1 2).toInt)) ∧ ((x1.toInt = 10 → v.toInt = (I0 a0 19).toInt)) ∧ ((x1.toInt = 11 → v.toInt = (I0 a0 20).toInt)) ∧ ((x1.toInt = 12 → v.toInt = (I0 a0 6).toInt)) ∧ (∃ b, R0 a0 3 = some b) ∧ (SmM T I0 I' a0) ∧ True)
set_option maxHeartbeats 4000000 in
theorem fk_X12_size {l : Launch} {T : Nat → Nat} {cn : Nat} {K N : Nat → Nat} {I0 : cz_I} {R0 : cz_R} {L0 : cz_L} {d : Int} (hW0 : Wf T cn K N I0 R0 d)  {a0 : Nat} (ta0 : T a0 = 15) {x1 : Int32} : ConE l mX12_size [.ref a0, .int x1] cn K N I0 R0 L0 (ca_i (fun v cn' K' N' I' R' L' => cn = cn' ∧ K = K' ∧ N = N' ∧ R0 = R' ∧ L0 = L' ∧ St T cn K N d wik_X12_size wrk_X12_size I0 R0 I' R0 ∧ Cs_X12_size T I0 R0 a0 x1 v I' R0 ∧ True)) := by
  refine ConE.of (by decide +kernel) rfl (Nat.le_of_ble_eq_true rfl) rfl (fun X hX hZ hE => ?_)
  subst hX
  have hS0 : St T cn K N d wik_X12_size wrk_X12_size I0 R0 I0 R0 := St.rf0 hW0
  obtain ⟨v1, c2⟩ : ∃ v, I0 a0 6 = v := ⟨_, rfl⟩
  have b3 := iv15_6 hW0 ta0 c2
  obtain ⟨a4, d5, ta4⟩ := rf15_16 hW0 ta0
  obtain ⟨v6, c7⟩ : ∃ v, I0 a4 1 = v := ⟨_, rfl⟩
  have b8 := iv77_1 hW0 ta4 (by decide) c7
  obtain ⟨v9, c10⟩ : ∃ v, I0 a4 2 = v := ⟨_, rfl⟩
  have b11 := iv77_2 hW0 ta4 (by decide) c10
  obtain ⟨v12, c13⟩ : ∃ v, I0 a0 19 = v := ⟨_, rfl⟩
  have b14 := iv15_19 hW0 ta0 c13
  obtain ⟨v15, c16⟩ : ∃ v, I0 a0 20 = v := ⟨_, rfl⟩
  have b17 := iv15_20 hW0 ta0 c16
  obtain ⟨a18, d19, ta18⟩ := rf15_17 hW0 ta0
  obtain ⟨a20, d21, ta20⟩ := rf15_18 hW0 ta0
  obtain ⟨v22, c23⟩ : ∃ v, I0 a4 0 = v := ⟨_, rfl⟩
  rcases rf15_3 hW0 ta0 with d25 | ⟨a24, d25, ta24⟩
  · skip
    refine tr_aload_n dX12_size_0 rfl ?_
    refine q_iconst dX12_size_1 (by decide) ?_
    intro v26 h27
    refine q_putI dX12_size_2 fl12_70 (kR15 hS0.1 ta0) (Or.inl rfl) hS0 ta0 (iokF rfl) rfl (by decide +kernel) ?_
    intro I28 hS29 e30 f31
    refine tr_iload_n dX12_size_5 rfl ?_
    refine q_bipush dX12_size_6 (by decide +kernel) ?_
    intro v32 h33
    refine q_icmp_ne 16 dX12_size_8 (by decide) (fun h34 => ?_) (fun h34 => ?_)
    · skip
      refine tr_iload_n dX12_size_16 rfl ?_
      refine q_iconst dX12_size_17 (by decide) ?_
      intro v35 h36
      refine q_bipush dX12_size_18 (by decide +kernel) ?_
      intro v37 h38
      refine q_callSi hE (M' := mX12_in) (as := [_, _, _]) dX12_size_20 lk12_149 inX12_in myX12_in ⟨by decide, by decide⟩ rfl (Nat.le_of_ble_eq_true rfl) rfl rfl (by decide) (by decide) (fk_X12_in hS29.1  ) ?_
      rintro v44 cn' K' N' I39 R40 L41 ⟨rfl, rfl, rfl, rfl, rfl, rfl, h45, dj46, -⟩
      rcases dj46 with ⟨p47, p48, p49, -⟩ | ⟨p50, p51, -⟩
      · skip
        refine q_if_ne 28 dX12_size_23 (by decide) (fun h52 => ?_) (fun h52 => ?_)
        · skip
          refine tr_aload_n dX12_size_28 rfl ?_
          refine tr_getN dX12_size_29 fl12_385 (kR15 hS29.1 ta0) d25 ?_
          refine tr_ifnonnullN dX12_size_32 ?_
          refine q_iconst dX12_size_35 (by decide) ?_
          intro v53 h54
          exact tr_iret hZ dX12_size_36 rfl (by decide) (by decide) ⟨v53, rfl, rfl, rfl, rfl, rfl, rfl, hS29, (Or.inl ⟨(by first | done | with_reducible assumption | omega), (by first | done | with_reducible assumption | omega), (by (try rw [c2]); first | done | with_reducible assumption | omega), d25, ⟨(((hS29.cell ta0 (by decide +kernel)).trans c13)).trans (c13).symm, (((hS29.cell ta0 (by decide +kernel)).trans c16)).trans (c16).symm, fun a j h => by rcases h with h | h | h; exact (f31 _ _ (fun q => by have z := h; rw [q.1, ta0] at z; exact absurd z (by decide))); exact (f31 _ _ (fun q => by have z := h; rw [q.1, ta0] at z; exact absurd z (by decide))); exact (f31 _ _ (fun q => by have z := h; rw [q.1, ta0] at z; exact absurd z (by decide)))⟩, trivial⟩), trivial⟩
        · skip
          exfalso; omega
      · skip
        refine q_if_ne 28 dX12_size_23 (by decide) (fun h55 => ?_) (fun h55 => ?_)
        · skip
          exfalso; omega
        · skip
          refine q_iconst dX12_size_26 (by decide) ?_
          intro v56 h57
          exact tr_iret hZ dX12_size_27 rfl (by decide) (by decide) ⟨v56, rfl, rfl, rfl, rfl, rfl, rfl, hS29, (Or.inl ⟨(by first | done | with_reducible assumption | omega), (by first | done | with_reducible assumption | omega), (by (try rw [c2]); first | done | with_reducible assumption | omega), d25, ⟨(((hS29.cell ta0 (by decide +kernel)).trans c13)).trans (c13).symm, (((hS29.cell ta0 (by decide +kernel)).trans c16)).trans (c16).symm, fun a j h => by rcases h with h | h | h; exact (f31 _ _ (fun q => by have z := h; rw [q.1, ta0] at z; exact absurd z (by decide))); exact (f31 _ _ (fun q => by have z := h; rw [q.1, ta0] at z; exact absurd z (by decide))); exact (f31 _ _ (fun q => by have z := h; rw [q.1, ta0] at z; exact absurd z (by decide)))⟩, trivial⟩), trivial⟩
    · skip
      refine tr_aload_n dX12_size_11 rfl ?_
      refine q_getI dX12_size_12 fl12_378 (kR15 hS29.1 ta0) ((hS29.cell ta0 (by decide +kernel)).trans c2) ?_
      exact tr_iret hZ dX12_size_15 rfl (by decide) (by decide) ⟨v1, rfl, rfl, rfl, rfl, rfl, rfl, hS29, (Or.inl ⟨(by first | done | with_reducible assumption | omega), (by first | done | with_reducible assumption | omega), (by (try rw [c2]); first | done | with_reducible assumption | omega), d25, ⟨(((hS29.cell ta0 (by decide +kernel)).trans c13)).trans (c13).symm, (((hS29.cell ta0 (by decide +kernel)).trans c16)).trans (c16).symm, fun a j h => by rcases h with h | h | h; exact (f31 _ _ (fun q => by have z := h; rw [q.1, ta0] at z; exact absurd z (by decide))); exact (f31 _ _ (fun q => by have z := h; rw [q.1, ta0] at z; exact absurd z (by decide))); exact (f31 _ _ (fun q => by have z := h; rw [q.1, ta0] at z; exact absurd z (by decide)))⟩, trivial⟩), trivial⟩
  · skip
    refine tr_aload_n dX12_size_0 rfl ?_
    refine q_iconst dX12_size_1 (by decide) ?_
    intro v58 h59
    refine q_putI dX12_size_2 fl12_70 (kR15 hS0.1 ta0) (Or.inl rfl) hS0 ta0 (iokF rfl) rfl (by decide +kernel) ?_
    intro I60 hS61 e62 f63
    refine tr_iload_n dX12_size_5 rfl ?_
    refine q_bipush dX12_size_6 (by decide +kernel) ?_
    intro v64 h65
    refine q_icmp_ne 16 dX12_size_8 (by decide) (fun h66 => ?_) (fun h66 => ?_)
    · skip
      refine tr_iload_n dX12_size_16 rfl ?_
      refine q_iconst dX12_size_17 (by decide) ?_
      intro v67 h68
      refine q_bipush dX12_size_18 (by decide +kernel) ?_
      intro v69 h70
      refine q_callSi hE (M' := mX12_in) (as := [_, _, _]) dX12_size_20 lk12_149 inX12_in myX12_in ⟨by decide, by decide⟩ rfl (Nat.le_of_ble_eq_true rfl) rfl rfl (by decide) (by decide) (fk_X12_in hS61.1  ) ?_
      rintro v76 cn' K' N' I71 R72 L73 ⟨rfl, rfl, rfl, rfl, rfl, rfl, h77, dj78, -⟩
      rcases dj78 with ⟨p79, p80, p81, -⟩ | ⟨p82, p83, -⟩
      · skip
        refine q_if_ne 28 dX12_size_23 (by decide) (fun h84 => ?_) (fun h84 => ?_)
        · skip
          refine tr_aload_n dX12_size_28 rfl ?_
          refine tr_getR dX12_size_29 fl12_385 (kR15 hS61.1 ta0) d25 ?_
          refine tr_ifnonnull 37 dX12_size_32 (by decide) ?_
          refine tr_iload_n dX12_size_37 rfl ?_
          by_cases h85 : x1.toInt = 0
          · skip
            refine tr_tabIn (off := 58) 96 dX12_size_38 (by omega) (by omega) (by rw [h85]; decide +kernel) (by decide) ?_
            refine tr_aload_n dX12_size_96 rfl ?_
            refine tr_getR dX12_size_97 fl12_385 (kR15 hS61.1 ta0) d25 ?_
            obtain ⟨v86, c87⟩ : ∃ v, I0 a24 0 = v := ⟨_, rfl⟩
            have b88 := hW0.2.2.2.2.2.1 a0 ta0 _ d25
            rw [c87] at b88
            have b89 := iv14_0 hW0 ta24 c87
            refine q_getI dX12_size_100 fl12_192 (kR14 hS61.1 ta24) ((hS61.cell ta24 (by decide +kernel)).trans c87) ?_
            obtain ⟨v90, c91⟩ : ∃ v, I0 a24 1 = v := ⟨_, rfl⟩
            have b92 := iv14_1 hW0 ta24 c91
            obtain ⟨v93, c94⟩ : ∃ v, I0 a24 2 = v := ⟨_, rfl⟩
            have b95 := iv14_2 hW0 ta24 c94
            obtain ⟨v96, c97⟩ : ∃ v, I0 a24 3 = v := ⟨_, rfl⟩
            have b98 := iv14_3 hW0 ta24 c97
            obtain ⟨v99, c100⟩ : ∃ v, I0 a24 4 = v := ⟨_, rfl⟩
            have b101 := iv14_4 hW0 ta24 c100
            obtain ⟨v102, c103⟩ : ∃ v, I0 a24 5 = v := ⟨_, rfl⟩
            have b104 := iv14_5 hW0 ta24 c103
            obtain ⟨v105, c106⟩ : ∃ v, I0 a24 6 = v := ⟨_, rfl⟩
            have b107 := iv14_6 hW0 ta24 c106
            obtain ⟨v108, c109⟩ : ∃ v, I0 a24 8 = v := ⟨_, rfl⟩
            have b110 := iv14_8 hW0 ta24 c109
            exact tr_iret hZ dX12_size_103 rfl (by decide) (by decide) ⟨v86, rfl, rfl, rfl, rfl, rfl, rfl, hS61, (Or.inr (⟨(by first | done | with_reducible assumption | omega), (fun q0 z0 => by obtain rfl := Option.some.inj ((d25).symm.trans z0); (try rw [c87]); first | done | with_reducible assumption | omega), (fun q0 z0 => by obtain rfl := Option.some.inj ((d25).symm.trans z0); (try rw [c91]); first | done | with_reducible assumption | omega), (fun q0 z0 => by obtain rfl := Option.some.inj ((d25).symm.trans z0); (try rw [c94]); first | done | with_reducible assumption | omega), (fun q0 z0 => by obtain rfl := Option.some.inj ((d5).symm.trans z0); (try rw [c7]); first | done | with_reducible assumption | omega), (fun q0 z0 => by obtain rfl := Option.some.inj ((d25).symm.trans z0); (try rw [c97]); first | done | with_reducible assumption | omega), (fun q0 z0 => by obtain rfl := Option.some.inj ((d25).symm.trans z0); (try rw [c100]); first | done | with_reducible assumption | omega), (fun q0 z0 => by obtain rfl := Option.some.inj ((d25).symm.trans z0); (try rw [c103]); first | done | with_reducible assumption | omega), (fun q0 z0 => by obtain rfl := Option.some.inj ((d25).symm.trans z0); (try rw [c106]); first | done | with_reducible assumption | omega), (fun q0 z0 => by obtain rfl := Option.some.inj ((d25).symm.trans z0); (try rw [c109]); first | done | with_reducible assumption | omega), (fun q0 z0 => by obtain rfl := Option.some.inj ((d5).symm.trans z0); (try rw [c10]); first | done | with_reducible assumption | omega), (by (try rw [c13]); first | done | with_reducible assumption | omega), (by (try rw [c16]); first | done | with_reducible assumption | omega), (by (try rw [c2]); first | done | with_reducible assumption | omega), ⟨_, d25⟩, ⟨(((hS61.cell ta0 (by decide +kernel)).trans c13)).trans (c13).symm, (((hS61.cell ta0 (by decide +kernel)).trans c16)).trans (c16).symm, fun a j h => by rcases h with h | h | h; exact (f63 _ _ (fun q => by have z := h; rw [q.1, ta0] at z; exact absurd z (by decide))); exact (f63 _ _ (fun q => by have z := h; rw [q.1, ta0] at z; exact absurd z (by decide))); exact (f63 _ _ (fun q => by have z := h; rw [q.1, ta0] at z; exact absurd z (by decide)))⟩, trivial⟩)), trivial⟩
          · skip
            by_cases h111 : x1.toInt = 1
            · skip
              refine tr_tabIn (off := 66) 104 dX12_size_38 (by omega) (by omega) (by rw [h111]; decide +kernel) (by decide) ?_
              refine tr_aload_n dX12_size_104 rfl ?_
              refine tr_getR dX12_size_105 fl12_385 (kR15 hS61.1 ta0) d25 ?_
              obtain ⟨v112, c113⟩ : ∃ v, I0 a24 1 = v := ⟨_, rfl⟩
              have b114 := iv14_1 hW0 ta24 c113
              refine q_getI dX12_size_108 fl12_263 (kR14 hS61.1 ta24) ((hS61.cell ta24 (by decide +kernel)).trans c113) ?_
              obtain ⟨v115, c116⟩ : ∃ v, I0 a24 0 = v := ⟨_, rfl⟩
              have b117 := hW0.2.2.2.2.2.1 a0 ta0 _ d25
              rw [c116] at b117
              have b118 := iv14_0 hW0 ta24 c116
              obtain ⟨v119, c120⟩ : ∃ v, I0 a24 2 = v := ⟨_, rfl⟩
              have b121 := iv14_2 hW0 ta24 c120
              obtain ⟨v122, c123⟩ : ∃ v, I0 a24 3 = v := ⟨_, rfl⟩
              have b124 := iv14_3 hW0 ta24 c123
              obtain ⟨v125, c126⟩ : ∃ v, I0 a24 4 = v := ⟨_, rfl⟩
              have b127 := iv14_4 hW0 ta24 c126
              obtain ⟨v128, c129⟩ : ∃ v, I0 a24 5 = v := ⟨_, rfl⟩
              have b130 := iv14_5 hW0 ta24 c129
              obtain ⟨v131, c132⟩ : ∃ v, I0 a24 6 = v := ⟨_, rfl⟩
              have b133 := iv14_6 hW0 ta24 c132
              obtain ⟨v134, c135⟩ : ∃ v, I0 a24 8 = v := ⟨_, rfl⟩
              have b136 := iv14_8 hW0 ta24 c135
              exact tr_iret hZ dX12_size_111 rfl (by decide) (by decide) ⟨v112, rfl, rfl, rfl, rfl, rfl, rfl, hS61, (Or.inr (⟨(by first | done | with_reducible assumption | omega), (fun q0 z0 => by obtain rfl := Option.some.inj ((d25).symm.trans z0); (try rw [c116]); first | done | with_reducible assumption | omega), (fun q0 z0 => by obtain rfl := Option.some.inj ((d25).symm.trans z0); (try rw [c113]); first | done | with_reducible assumption | omega), (fun q0 z0 => by obtain rfl := Option.some.inj ((d25).symm.trans z0); (try rw [c120]); first | done | with_reducible assumption | omega), (fun q0 z0 => by obtain rfl := Option.some.inj ((d5).symm.trans z0); (try rw [c7]); first | done | with_reducible assumption | omega), (fun q0 z0 => by obtain rfl := Option.some.inj ((d25).symm.trans z0); (try rw [c123]); first | done | with_reducible assumption | omega), (fun q0 z0 => by obtain rfl := Option.some.inj ((d25).symm.trans z0); (try rw [c126]); first | done | with_reducible assumption | omega), (fun q0 z0 => by obtain rfl := Option.some.inj ((d25).symm.trans z0); (try rw [c129]); first | done | with_reducible assumption | omega), (fun q0 z0 => by obtain rfl := Option.some.inj ((d25).symm.trans z0); (try rw [c132]); first | done | with_reducible assumption | omega), (fun q0 z0 => by obtain rfl := Option.some.inj ((d25).symm.trans z0); (try rw [c135]); first | done | with_reducible assumption | omega), (fun q0 z0 => by obtain rfl := Option.some.inj ((d5).symm.trans z0); (try rw [c10]); first | done | with_reducible assumption | omega), (by (try rw [c13]); first | done | with_reducible assumption | omega), (by (try rw [c16]); first | done | with_reducible assumption | omega), (by (try rw [c2]); first | done | with_reducible assumption | omega), ⟨_, d25⟩, ⟨(((hS61.cell ta0 (by decide +kernel)).trans c13)).trans (c13).symm, (((hS61.cell ta0 (by decide +kernel)).trans c16)).trans (c16).symm, fun a j h => by rcases h with h | h | h; exact (f63 _ _ (fun q => by have z := h; rw [q.1, ta0] at z; exact absurd z (by decide))); exact (f63 _ _ (fun q => by have z := h; rw [q.1, ta0] at z; exact absurd z (by decide))); exact (f63 _ _ (fun q => by have z := h; rw [q.1, ta0] at z; exact absurd z (by decide)))⟩, trivial⟩)), trivial⟩
            · skip
              by_cases h137 : x1.toInt = 2
              · skip
                refine tr_tabIn (off := 74) 112 dX12_size_38 (by omega) (by omega) (by rw [h137]; decide +kernel) (by decide) ?_
                refine tr_aload_n dX12_size_112 rfl ?_
                refine tr_getR dX12_size_113 fl12_385 (kR15 hS61.1 ta0) d25 ?_
                obtain ⟨v138, c139⟩ : ∃ v, I0 a24 2 = v := ⟨_, rfl⟩
                have b140 := iv14_2 hW0 ta24 c139
                refine q_getI dX12_size_116 fl12_265 (kR14 hS61.1 ta24) ((hS61.cell ta24 (by decide +kernel)).trans c139) ?_
                obtain ⟨v141, c142⟩ : ∃ v, I0 a24 0 = v := ⟨_, rfl⟩
                have b143 := hW0.2.2.2.2.2.1 a0 ta0 _ d25
                rw [c142] at b143
                have b144 := iv14_0 hW0 ta24 c142
                obtain ⟨v145, c146⟩ : ∃ v, I0 a24 1 = v := ⟨_, rfl⟩
                have b147 := iv14_1 hW0 ta24 c146
                obtain ⟨v148, c149⟩ : ∃ v, I0 a24 3 = v := ⟨_, rfl⟩
                have b150 := iv14_3 hW0 ta24 c149
                obtain ⟨v151, c152⟩ : ∃ v, I0 a24 4 = v := ⟨_, rfl⟩
                have b153 := iv14_4 hW0 ta24 c152
                obtain ⟨v154, c155⟩ : ∃ v, I0 a24 5 = v := ⟨_, rfl⟩
                have b156 := iv14_5 hW0 ta24 c155
                obtain ⟨v157, c158⟩ : ∃ v, I0 a24 6 = v := ⟨_, rfl⟩
                have b159 := iv14_6 hW0 ta24 c158
                obtain ⟨v160, c161⟩ : ∃ v, I0 a24 8 = v := ⟨_, rfl⟩
                have b162 := iv14_8 hW0 ta24 c161
                exact tr_iret hZ dX12_size_119 rfl (by decide) (by decide) ⟨v138, rfl, rfl, rfl, rfl, rfl, rfl, hS61, (Or.inr (⟨(by first | done | with_reducible assumption | omega), (fun q0 z0 => by obtain rfl := Option.some.inj ((d25).symm.trans z0); (try rw [c142]); first | done | with_reducible assumption | omega), (fun q0 z0 => by obtain rfl := Option.some.inj ((d25).symm.trans z0); (try rw [c146]); first | done | with_reducible assumption | omega), (fun q0 z0 => by obtain rfl := Option.some.inj ((d25).symm.trans z0); (try rw [c139]); first | done | with_reducible assumption | omega), (fun q0 z0 => by obtain rfl := Option.some.inj ((d5).symm.trans z0); (try rw [c7]); first | done | with_reducible assumption | omega), (fun q0 z0 => by obtain rfl := Option.some.inj ((d25).symm.trans z0); (try rw [c149]); first | done | with_reducible assumption | omega), (fun q0 z0 => by obtain rfl := Option.some.inj ((d25).symm.trans z0); (try rw [c152]); first | done | with_reducible assumption | omega), (fun q0 z0 => by obtain rfl := Option.some.inj ((d25).symm.trans z0); (try rw [c155]); first | done | with_reducible assumption | omega), (fun q0 z0 => by obtain rfl := Option.some.inj ((d25).symm.trans z0); (try rw [c158]); first | done | with_reducible assumption | omega), (fun q0 z0 => by obtain rfl := Option.some.inj ((d25).symm.trans z0); (try rw [c161]); first | done | with_reducible assumption | omega), (fun q0 z0 => by obtain rfl := Option.some.inj ((d5).symm.trans z0); (try rw [c10]); first | done | with_reducible assumption | omega), (by (try rw [c13]); first | done | with_reducible assumption | omega), (by (try rw [c16]); first | done | with_reducible assumption | omega), (by (try rw [c2]); first | done | with_reducible assumption | omega), ⟨_, d25⟩, ⟨(((hS61.cell ta0 (by decide +kernel)).trans c13)).trans (c13).symm, (((hS61.cell ta0 (by decide +kernel)).trans c16)).trans (c16).symm, fun a j h => by rcases h with h | h | h; exact (f63 _ _ (fun q => by have z := h; rw [q.1, ta0] at z; exact absurd z (by decide))); exact (f63 _ _ (fun q => by have z := h; rw [q.1, ta0] at z; exact absurd z (by decide))); exact (f63 _ _ (fun q => by have z := h; rw [q.1, ta0] at z; exact absurd z (by decide)))⟩, trivial⟩)), trivial⟩
              · skip
                by_cases h163 : x1.toInt = 3
                · skip
                  refine tr_tabIn (off := 82) 120 dX12_size_38 (by omega) (by omega) (by rw [h163]; decide +kernel) (by decide) ?_
                  refine tr_aload_n dX12_size_120 rfl ?_
                  refine tr_getR dX12_size_121 fl12_17 (kR15 hS61.1 ta0) d5 ?_
                  refine q_iconst dX12_size_124 (by decide) ?_
                  intro v164 h165
                  refine q_iald dX12_size_125 (kR77 hS61.1 ta4) (ti_in (nR77 hS61.1 ta4) (by omega) (by omega)) ?_
                  intro v166 c167
                  rw [show v164.toNatClampNeg = 1 from ti_cl (by omega)] at c167
                  obtain rfl : v6 = v166 := (((hS61.cell ta4 (by decide +kernel)).trans c7)).symm.trans c167
                  obtain ⟨v168, c169⟩ : ∃ v, I0 a24 0 = v := ⟨_, rfl⟩
                  have b170 := hW0.2.2.2.2.2.1 a0 ta0 _ d25
                  rw [c169] at b170
                  have b171 := iv14_0 hW0 ta24 c169
                  obtain ⟨v172, c173⟩ : ∃ v, I0 a24 1 = v := ⟨_, rfl⟩
                  have b174 := iv14_1 hW0 ta24 c173
                  obtain ⟨v175, c176⟩ : ∃ v, I0 a24 2 = v := ⟨_, rfl⟩
                  have b177 := iv14_2 hW0 ta24 c176
                  obtain ⟨v178, c179⟩ : ∃ v, I0 a24 3 = v := ⟨_, rfl⟩
                  have b180 := iv14_3 hW0 ta24 c179
                  obtain ⟨v181, c182⟩ : ∃ v, I0 a24 4 = v := ⟨_, rfl⟩
                  have b183 := iv14_4 hW0 ta24 c182
                  obtain ⟨v184, c185⟩ : ∃ v, I0 a24 5 = v := ⟨_, rfl⟩
                  have b186 := iv14_5 hW0 ta24 c185
                  obtain ⟨v187, c188⟩ : ∃ v, I0 a24 6 = v := ⟨_, rfl⟩
                  have b189 := iv14_6 hW0 ta24 c188
                  obtain ⟨v190, c191⟩ : ∃ v, I0 a24 8 = v := ⟨_, rfl⟩
                  have b192 := iv14_8 hW0 ta24 c191
                  exact tr_iret hZ dX12_size_126 rfl (by decide) (by decide) ⟨v6, rfl, rfl, rfl, rfl, rfl, rfl, hS61, (Or.inr (⟨(by first | done | with_reducible assumption | omega), (fun q0 z0 => by obtain rfl := Option.some.inj ((d25).symm.trans z0); (try rw [c169]); first | done | with_reducible assumption | omega), (fun q0 z0 => by obtain rfl := Option.some.inj ((d25).symm.trans z0); (try rw [c173]); first | done | with_reducible assumption | omega), (fun q0 z0 => by obtain rfl := Option.some.inj ((d25).symm.trans z0); (try rw [c176]); first | done | with_reducible assumption | omega), (fun q0 z0 => by obtain rfl := Option.some.inj ((d5).symm.trans z0); (try rw [c7]); first | done | with_reducible assumption | omega), (fun q0 z0 => by obtain rfl := Option.some.inj ((d25).symm.trans z0); (try rw [c179]); first | done | with_reducible assumption | omega), (fun q0 z0 => by obtain rfl := Option.some.inj ((d25).symm.trans z0); (try rw [c182]); first | done | with_reducible assumption | omega), (fun q0 z0 => by obtain rfl := Option.some.inj ((d25).symm.trans z0); (try rw [c185]); first | done | with_reducible assumption | omega), (fun q0 z0 => by obtain rfl := Option.some.inj ((d25).symm.trans z0); (try rw [c188]); first | done | with_reducible assumption | omega), (fun q0 z0 => by obtain rfl := Option.some.inj ((d25).symm.trans z0); (try rw [c191]); first | done | with_reducible assumption | omega), (fun q0 z0 => by obtain rfl := Option.some.inj ((d5).symm.trans z0); (try rw [c10]); first | done | with_reducible assumption | omega), (by (try rw [c13]); first | done | with_reducible assumption | omega), (by (try rw [c16]); first | done | with_reducible assumption | omega), (by (try rw [c2]); first | done | with_reducible assumption | omega), ⟨_, d25⟩, ⟨(((hS61.cell ta0 (by decide +kernel)).trans c13)).trans (c13).symm, (((hS61.cell ta0 (by decide +kernel)).trans c16)).trans (c16).symm, fun a j h => by rcases h with h | h | h; exact (f63 _ _ (fun q => by have z := h; rw [q.1, ta0] at z; exact absurd z (by decide))); exact (f63 _ _ (fun q => by have z := h; rw [q.1, ta0] at z; exact absurd z (by decide))); exact (f63 _ _ (fun q => by have z := h; rw [q.1, ta0] at z; exact absurd z (by decide)))⟩, trivial⟩)), trivial⟩
                · skip
                  by_cases h193 : x1.toInt = 4
                  · skip
                    refine tr_tabIn (off := 89) 127 dX12_size_38 (by omega) (by omega) (by rw [h193]; decide +kernel) (by decide) ?_
                    refine tr_aload_n dX12_size_127 rfl ?_
                    refine tr_getR dX12_size_128 fl12_385 (kR15 hS61.1 ta0) d25 ?_
                    obtain ⟨v194, c195⟩ : ∃ v, I0 a24 3 = v := ⟨_, rfl⟩
                    have b196 := iv14_3 hW0 ta24 c195
                    refine q_getI dX12_size_131 fl12_224 (kR14 hS61.1 ta24) ((hS61.cell ta24 (by decide +kernel)).trans c195) ?_
                    obtain ⟨v197, c198⟩ : ∃ v, I0 a24 0 = v := ⟨_, rfl⟩
                    have b199 := hW0.2.2.2.2.2.1 a0 ta0 _ d25
                    rw [c198] at b199
                    have b200 := iv14_0 hW0 ta24 c198
                    obtain ⟨v201, c202⟩ : ∃ v, I0 a24 1 = v := ⟨_, rfl⟩
                    have b203 := iv14_1 hW0 ta24 c202
                    obtain ⟨v204, c205⟩ : ∃ v, I0 a24 2 = v := ⟨_, rfl⟩
                    have b206 := iv14_2 hW0 ta24 c205
                    obtain ⟨v207, c208⟩ : ∃ v, I0 a24 4 = v := ⟨_, rfl⟩
                    have b209 := iv14_4 hW0 ta24 c208
                    obtain ⟨v210, c211⟩ : ∃ v, I0 a24 5 = v := ⟨_, rfl⟩
                    have b212 := iv14_5 hW0 ta24 c211
                    obtain ⟨v213, c214⟩ : ∃ v, I0 a24 6 = v := ⟨_, rfl⟩
                    have b215 := iv14_6 hW0 ta24 c214
                    obtain ⟨v216, c217⟩ : ∃ v, I0 a24 8 = v := ⟨_, rfl⟩
                    have b218 := iv14_8 hW0 ta24 c217
                    exact tr_iret hZ dX12_size_134 rfl (by decide) (by decide) ⟨v194, rfl, rfl, rfl, rfl, rfl, rfl, hS61, (Or.inr (⟨(by first | done | with_reducible assumption | omega), (fun q0 z0 => by obtain rfl := Option.some.inj ((d25).symm.trans z0); (try rw [c198]); first | done | with_reducible assumption | omega), (fun q0 z0 => by obtain rfl := Option.some.inj ((d25).symm.trans z0); (try rw [c202]); first | done | with_reducible assumption | omega), (fun q0 z0 => by obtain rfl := Option.some.inj ((d25).symm.trans z0); (try rw [c205]); first | done | with_reducible assumption | omega), (fun q0 z0 => by obtain rfl := Option.some.inj ((d5).symm.trans z0); (try rw [c7]); first | done | with_reducible assumption | omega), (fun q0 z0 => by obtain rfl := Option.some.inj ((d25).symm.trans z0); (try rw [c195]); first | done | with_reducible assumption | omega), (fun q0 z0 => by obtain rfl := Option.some.inj ((d25).symm.trans z0); (try rw [c208]); first | done | with_reducible assumption | omega), (fun q0 z0 => by obtain rfl := Option.some.inj ((d25).symm.trans z0); (try rw [c211]); first | done | with_reducible assumption | omega), (fun q0 z0 => by obtain rfl := Option.some.inj ((d25).symm.trans z0); (try rw [c214]); first | done | with_reducible assumption | omega), (fun q0 z0 => by obtain rfl := Option.some.inj ((d25).symm.trans z0); (try rw [c217]); first | done | with_reducible assumption | omega), (fun q0 z0 => by obtain rfl := Option.some.inj ((d5).symm.trans z0); (try rw [c10]); first | done | with_reducible assumption | omega), (by (try rw [c13]); first | done | with_reducible assumption | omega), (by (try rw [c16]); first | done | with_reducible assumption | omega), (by (try rw [c2]); first | done | with_reducible assumption | omega), ⟨_, d25⟩, ⟨(((hS61.cell ta0 (by decide +kernel)).trans c13)).trans (c13).symm, (((hS61.cell ta0 (by decide +kernel)).trans c16)).trans (c16).symm, fun a j h => by rcases h with h | h | h; exact (f63 _ _ (fun q => by have z := h; rw [q.1, ta0] at z; exact absurd z (by decide))); exact (f63 _ _ (fun q => by have z := h; rw [q.1, ta0] at z; exact absurd z (by decide))); exact (f63 _ _ (fun q => by have z := h; rw [q.1, ta0] at z; exact absurd z (by decide)))⟩, trivial⟩)), trivial⟩
                  · skip
                    by_cases h219 : x1.toInt = 5
                    · skip
                      refine tr_tabIn (off := 97) 135 dX12_size_38 (by omega) (by omega) (by rw [h219]; decide +kernel) (by decide) ?_
                      refine tr_aload_n dX12_size_135 rfl ?_
                      refine tr_getR dX12_size_136 fl12_385 (kR15 hS61.1 ta0) d25 ?_
                      obtain ⟨v220, c221⟩ : ∃ v, I0 a24 4 = v := ⟨_, rfl⟩
                      have b222 := iv14_4 hW0 ta24 c221
                      refine q_getI dX12_size_139 fl12_315 (kR14 hS61.1 ta24) ((hS61.cell ta24 (by decide +kernel)).trans c221) ?_
                      obtain ⟨v223, c224⟩ : ∃ v, I0 a24 0 = v := ⟨_, rfl⟩
                      have b225 := hW0.2.2.2.2.2.1 a0 ta0 _ d25
                      rw [c224] at b225
                      have b226 := iv14_0 hW0 ta24 c224
                      obtain ⟨v227, c228⟩ : ∃ v, I0 a24 1 = v := ⟨_, rfl⟩
                      have b229 := iv14_1 hW0 ta24 c228
                      obtain ⟨v230, c231⟩ : ∃ v, I0 a24 2 = v := ⟨_, rfl⟩
                      have b232 := iv14_2 hW0 ta24 c231
                      obtain ⟨v233, c234⟩ : ∃ v, I0 a24 3 = v := ⟨_, rfl⟩
                      have b235 := iv14_3 hW0 ta24 c234
                      obtain ⟨v236, c237⟩ : ∃ v, I0 a24 5 = v := ⟨_, rfl⟩
                      have b238 := iv14_5 hW0 ta24 c237
                      obtain ⟨v239, c240⟩ : ∃ v, I0 a24 6 = v := ⟨_, rfl⟩
                      have b241 := iv14_6 hW0 ta24 c240
                      obtain ⟨v242, c243⟩ : ∃ v, I0 a24 8 = v := ⟨_, rfl⟩
                      have b244 := iv14_8 hW0 ta24 c243
                      exact tr_iret hZ dX12_size_142 rfl (by decide) (by decide) ⟨v220, rfl, rfl, rfl, rfl, rfl, rfl, hS61, (Or.inr (⟨(by first | done | with_reducible assumption | omega), (fun q0 z0 => by obtain rfl := Option.some.inj ((d25).symm.trans z0); (try rw [c224]); first | done | with_reducible assumption | omega), (fun q0 z0 => by obtain rfl := Option.some.inj ((d25).symm.trans z0); (try rw [c228]); first | done | with_reducible assumption | omega), (fun q0 z0 => by obtain rfl := Option.some.inj ((d25).symm.trans z0); (try rw [c231]); first | done | with_reducible assumption | omega), (fun q0 z0 => by obtain rfl := Option.some.inj ((d5).symm.trans z0); (try rw [c7]); first | done | with_reducible assumption | omega), (fun q0 z0 => by obtain rfl := Option.some.inj ((d25).symm.trans z0); (try rw [c234]); first | done | with_reducible assumption | omega), (fun q0 z0 => by obtain rfl := Option.some.inj ((d25).symm.trans z0); (try rw [c221]); first | done | with_reducible assumption | omega), (fun q0 z0 => by obtain rfl := Option.some.inj ((d25).symm.trans z0); (try rw [c237]); first | done | with_reducible assumption | omega), (fun q0 z0 => by obtain rfl := Option.some.inj ((d25).symm.trans z0); (try rw [c240]); first | done | with_reducible assumption | omega), (fun q0 z0 => by obtain rfl := Option.some.inj ((d25).symm.trans z0); (try rw [c243]); first | done | with_reducible assumption | omega), (fun q0 z0 => by obtain rfl := Option.some.inj ((d5).symm.trans z0); (try rw [c10]); first | done | with_reducible assumption | omega), (by (try rw [c13]); first | done | with_reducible assumption | omega), (by (try rw [c16]); first | done | with_reducible assumption | omega), (by (try rw [c2]); first | done | with_reducible assumption | omega), ⟨_, d25⟩, ⟨(((hS61.cell ta0 (by decide +kernel)).trans c13)).trans (c13).symm, (((hS61.cell ta0 (by decide +kernel)).trans c16)).trans (c16).symm, fun a j h => by rcases h with h | h | h; exact (f63 _ _ (fun q => by have z := h; rw [q.1, ta0] at z; exact absurd z (by decide))); exact (f63 _ _ (fun q => by have z := h; rw [q.1, ta0] at z; exact absurd z (by decide))); exact (f63 _ _ (fun q => by have z := h; rw [q.1, ta0] at z; exact absurd z (by decide)))⟩, trivial⟩)), trivial⟩
                    · skip
                      by_cases h245 : x1.toInt = 6
                      · skip
                        refine tr_tabIn (off := 105) 143 dX12_size_38 (by omega) (by omega) (by rw [h245]; decide +kernel) (by decide) ?_
                        refine tr_aload_n dX12_size_143 rfl ?_
                        refine tr_getR dX12_size_144 fl12_385 (kR15 hS61.1 ta0) d25 ?_
                        obtain ⟨v246, c247⟩ : ∃ v, I0 a24 5 = v := ⟨_, rfl⟩
                        have b248 := iv14_5 hW0 ta24 c247
                        refine q_getI dX12_size_147 fl12_349 (kR14 hS61.1 ta24) ((hS61.cell ta24 (by decide +kernel)).trans c247) ?_
                        obtain ⟨v249, c250⟩ : ∃ v, I0 a24 0 = v := ⟨_, rfl⟩
                        have b251 := hW0.2.2.2.2.2.1 a0 ta0 _ d25
                        rw [c250] at b251
                        have b252 := iv14_0 hW0 ta24 c250
                        obtain ⟨v253, c254⟩ : ∃ v, I0 a24 1 = v := ⟨_, rfl⟩
                        have b255 := iv14_1 hW0 ta24 c254
                        obtain ⟨v256, c257⟩ : ∃ v, I0 a24 2 = v := ⟨_, rfl⟩
                        have b258 := iv14_2 hW0 ta24 c257
                        obtain ⟨v259, c260⟩ : ∃ v, I0 a24 3 = v := ⟨_, rfl⟩
                        have b261 := iv14_3 hW0 ta24 c260
                        obtain ⟨v262, c263⟩ : ∃ v, I0 a24 4 = v := ⟨_, rfl⟩
                        have b264 := iv14_4 hW0 ta24 c263
                        obtain ⟨v265, c266⟩ : ∃ v, I0 a24 6 = v := ⟨_, rfl⟩
                        have b267 := iv14_6 hW0 ta24 c266
                        obtain ⟨v268, c269⟩ : ∃ v, I0 a24 8 = v := ⟨_, rfl⟩
                        have b270 := iv14_8 hW0 ta24 c269
                        exact tr_iret hZ dX12_size_150 rfl (by decide) (by decide) ⟨v246, rfl, rfl, rfl, rfl, rfl, rfl, hS61, (Or.inr (⟨(by first | done | with_reducible assumption | omega), (fun q0 z0 => by obtain rfl := Option.some.inj ((d25).symm.trans z0); (try rw [c250]); first | done | with_reducible assumption | omega), (fun q0 z0 => by obtain rfl := Option.some.inj ((d25).symm.trans z0); (try rw [c254]); first | done | with_reducible assumption | omega), (fun q0 z0 => by obtain rfl := Option.some.inj ((d25).symm.trans z0); (try rw [c257]); first | done | with_reducible assumption | omega), (fun q0 z0 => by obtain rfl := Option.some.inj ((d5).symm.trans z0); (try rw [c7]); first | done | with_reducible assumption | omega), (fun q0 z0 => by obtain rfl := Option.some.inj ((d25).symm.trans z0); (try rw [c260]); first | done | with_reducible assumption | omega), (fun q0 z0 => by obtain rfl := Option.some.inj ((d25).symm.trans z0); (try rw [c263]); first | done | with_reducible assumption | omega), (fun q0 z0 => by obtain rfl := Option.some.inj ((d25).symm.trans z0); (try rw [c247]); first | done | with_reducible assumption | omega), (fun q0 z0 => by obtain rfl := Option.some.inj ((d25).symm.trans z0); (try rw [c266]); first | done | with_reducible assumption | omega), (fun q0 z0 => by obtain rfl := Option.some.inj ((d25).symm.trans z0); (try rw [c269]); first | done | with_reducible assumption | omega), (fun q0 z0 => by obtain rfl := Option.some.inj ((d5).symm.trans z0); (try rw [c10]); first | done | with_reducible assumption | omega), (by (try rw [c13]); first | done | with_reducible assumption | omega), (by (try rw [c16]); first | done | with_reducible assumption | omega), (by (try rw [c2]); first | done | with_reducible assumption | omega), ⟨_, d25⟩, ⟨(((hS61.cell ta0 (by decide +kernel)).trans c13)).trans (c13).symm, (((hS61.cell ta0 (by decide +kernel)).trans c16)).trans (c16).symm, fun a j h => by rcases h with h | h | h; exact (f63 _ _ (fun q => by have z := h; rw [q.1, ta0] at z; exact absurd z (by decide))); exact (f63 _ _ (fun q => by have z := h; rw [q.1, ta0] at z; exact absurd z (by decide))); exact (f63 _ _ (fun q => by have z := h; rw [q.1, ta0] at z; exact absurd z (by decide)))⟩, trivial⟩)), trivial⟩
                      · skip
                        by_cases h271 : x1.toInt = 7
                        · skip
                          refine tr_tabIn (off := 113) 151 dX12_size_38 (by omega) (by omega) (by rw [h271]; decide +kernel) (by decide) ?_
                          refine tr_aload_n dX12_size_151 rfl ?_
                          refine tr_getR dX12_size_152 fl12_385 (kR15 hS61.1 ta0) d25 ?_
                          obtain ⟨v272, c273⟩ : ∃ v, I0 a24 6 = v := ⟨_, rfl⟩
                          have b274 := iv14_6 hW0 ta24 c273
                          refine q_getI dX12_size_155 fl12_370 (kR14 hS61.1 ta24) ((hS61.cell ta24 (by decide +kernel)).trans c273) ?_
                          obtain ⟨v275, c276⟩ : ∃ v, I0 a24 0 = v := ⟨_, rfl⟩
                          have b277 := hW0.2.2.2.2.2.1 a0 ta0 _ d25
                          rw [c276] at b277
                          have b278 := iv14_0 hW0 ta24 c276
                          obtain ⟨v279, c280⟩ : ∃ v, I0 a24 1 = v := ⟨_, rfl⟩
                          have b281 := iv14_1 hW0 ta24 c280
                          obtain ⟨v282, c283⟩ : ∃ v, I0 a24 2 = v := ⟨_, rfl⟩
                          have b284 := iv14_2 hW0 ta24 c283
                          obtain ⟨v285, c286⟩ : ∃ v, I0 a24 3 = v := ⟨_, rfl⟩
                          have b287 := iv14_3 hW0 ta24 c286
                          obtain ⟨v288, c289⟩ : ∃ v, I0 a24 4 = v := ⟨_, rfl⟩
                          have b290 := iv14_4 hW0 ta24 c289
                          obtain ⟨v291, c292⟩ : ∃ v, I0 a24 5 = v := ⟨_, rfl⟩
                          have b293 := iv14_5 hW0 ta24 c292
                          obtain ⟨v294, c295⟩ : ∃ v, I0 a24 8 = v := ⟨_, rfl⟩
                          have b296 := iv14_8 hW0 ta24 c295
                          exact tr_iret hZ dX12_size_158 rfl (by decide) (by decide) ⟨v272, rfl, rfl, rfl, rfl, rfl, rfl, hS61, (Or.inr (⟨(by first | done | with_reducible assumption | omega), (fun q0 z0 => by obtain rfl := Option.some.inj ((d25).symm.trans z0); (try rw [c276]); first | done | with_reducible assumption | omega), (fun q0 z0 => by obtain rfl := Option.some.inj ((d25).symm.trans z0); (try rw [c280]); first | done | with_reducible assumption | omega), (fun q0 z0 => by obtain rfl := Option.some.inj ((d25).symm.trans z0); (try rw [c283]); first | done | with_reducible assumption | omega), (fun q0 z0 => by obtain rfl := Option.some.inj ((d5).symm.trans z0); (try rw [c7]); first | done | with_reducible assumption | omega), (fun q0 z0 => by obtain rfl := Option.some.inj ((d25).symm.trans z0); (try rw [c286]); first | done | with_reducible assumption | omega), (fun q0 z0 => by obtain rfl := Option.some.inj ((d25).symm.trans z0); (try rw [c289]); first | done | with_reducible assumption | omega), (fun q0 z0 => by obtain rfl := Option.some.inj ((d25).symm.trans z0); (try rw [c292]); first | done | with_reducible assumption | omega), (fun q0 z0 => by obtain rfl := Option.some.inj ((d25).symm.trans z0); (try rw [c273]); first | done | with_reducible assumption | omega), (fun q0 z0 => by obtain rfl := Option.some.inj ((d25).symm.trans z0); (try rw [c295]); first | done | with_reducible assumption | omega), (fun q0 z0 => by obtain rfl := Option.some.inj ((d5).symm.trans z0); (try rw [c10]); first | done | with_reducible assumption | omega), (by (try rw [c13]); first | done | with_reducible assumption | omega), (by (try rw [c16]); first | done | with_reducible assumption | omega), (by (try rw [c2]); first | done | with_reducible assumption | omega), ⟨_, d25⟩, ⟨(((hS61.cell ta0 (by decide +kernel)).trans c13)).trans (c13).symm, (((hS61.cell ta0 (by decide +kernel)).trans c16)).trans (c16).symm, fun a j h => by rcases h with h | h | h; exact (f63 _ _ (fun q => by have z := h; rw [q.1, ta0] at z; exact absurd z (by decide))); exact (f63 _ _ (fun q => by have z := h; rw [q.1, ta0] at z; exact absurd z (by decide))); exact (f63 _ _ (fun q => by have z := h; rw [q.1, ta0] at z; exact absurd z (by decide)))⟩, trivial⟩)), trivial⟩
                        · skip
                          by_cases h297 : x1.toInt = 8
                          · skip
                            refine tr_tabIn (off := 121) 159 dX12_size_38 (by omega) (by omega) (by rw [h297]; decide +kernel) (by decide) ?_
                            refine tr_aload_n dX12_size_159 rfl ?_
                            refine tr_getR dX12_size_160 fl12_385 (kR15 hS61.1 ta0) d25 ?_
                            obtain ⟨v298, c299⟩ : ∃ v, I0 a24 8 = v := ⟨_, rfl⟩
                            have b300 := iv14_8 hW0 ta24 c299
                            refine q_getI dX12_size_163 fl12_312 (kR14 hS61.1 ta24) ((hS61.cell ta24 (by decide +kernel)).trans c299) ?_
                            obtain ⟨v301, c302⟩ : ∃ v, I0 a24 0 = v := ⟨_, rfl⟩
                            have b303 := hW0.2.2.2.2.2.1 a0 ta0 _ d25
                            rw [c302] at b303
                            have b304 := iv14_0 hW0 ta24 c302
                            obtain ⟨v305, c306⟩ : ∃ v, I0 a24 1 = v := ⟨_, rfl⟩
                            have b307 := iv14_1 hW0 ta24 c306
                            obtain ⟨v308, c309⟩ : ∃ v, I0 a24 2 = v := ⟨_, rfl⟩
                            have b310 := iv14_2 hW0 ta24 c309
                            obtain ⟨v311, c312⟩ : ∃ v, I0 a24 3 = v := ⟨_, rfl⟩
                            have b313 := iv14_3 hW0 ta24 c312
                            obtain ⟨v314, c315⟩ : ∃ v, I0 a24 4 = v := ⟨_, rfl⟩
                            have b316 := iv14_4 hW0 ta24 c315
                            obtain ⟨v317, c318⟩ : ∃ v, I0 a24 5 = v := ⟨_, rfl⟩
                            have b319 := iv14_5 hW0 ta24 c318
                            obtain ⟨v320, c321⟩ : ∃ v, I0 a24 6 = v := ⟨_, rfl⟩
                            have b322 := iv14_6 hW0 ta24 c321
                            exact tr_iret hZ dX12_size_166 rfl (by decide) (by decide) ⟨v298, rfl, rfl, rfl, rfl, rfl, rfl, hS61, (Or.inr (⟨(by first | done | with_reducible assumption | omega), (fun q0 z0 => by obtain rfl := Option.some.inj ((d25).symm.trans z0); (try rw [c302]); first | done | with_reducible assumption | omega), (fun q0 z0 => by obtain rfl := Option.some.inj ((d25).symm.trans z0); (try rw [c306]); first | done | with_reducible assumption | omega), (fun q0 z0 => by obtain rfl := Option.some.inj ((d25).symm.trans z0); (try rw [c309]); first | done | with_reducible assumption | omega), (fun q0 z0 => by obtain rfl := Option.some.inj ((d5).symm.trans z0); (try rw [c7]); first | done | with_reducible assumption | omega), (fun q0 z0 => by obtain rfl := Option.some.inj ((d25).symm.trans z0); (try rw [c312]); first | done | with_reducible assumption | omega), (fun q0 z0 => by obtain rfl := Option.some.inj ((d25).symm.trans z0); (try rw [c315]); first | done | with_reducible assumption | omega), (fun q0 z0 => by obtain rfl := Option.some.inj ((d25).symm.trans z0); (try rw [c318]); first | done | with_reducible assumption | omega), (fun q0 z0 => by obtain rfl := Option.some.inj ((d25).symm.trans z0); (try rw [c321]); first | done | with_reducible assumption | omega), (fun q0 z0 => by obtain rfl := Option.some.inj ((d25).symm.trans z0); (try rw [c299]); first | done | with_reducible assumption | omega), (fun q0 z0 => by obtain rfl := Option.some.inj ((d5).symm.trans z0); (try rw [c10]); first | done | with_reducible assumption | omega), (by (try rw [c13]); first | done | with_reducible assumption | omega), (by (try rw [c16]); first | done | with_reducible assumption | omega), (by (try rw [c2]); first | done | with_reducible assumption | omega), ⟨_, d25⟩, ⟨(((hS61.cell ta0 (by decide +kernel)).trans c13)).trans (c13).symm, (((hS61.cell ta0 (by decide +kernel)).trans c16)).trans (c16).symm, fun a j h => by rcases h with h | h | h; exact (f63 _ _ (fun q => by have z := h; rw [q.1, ta0] at z; exact absurd z (by decide))); exact (f63 _ _ (fun q => by have z := h; rw [q.1, ta0] at z; exact absurd z (by decide))); exact (f63 _ _ (fun q => by have z := h; rw [q.1, ta0] at z; exact absurd z (by decide)))⟩, trivial⟩)), trivial⟩
                          · skip
                            by_cases h323 : x1.toInt = 9
                            · skip
                              refine tr_tabIn (off := 129) 167 dX12_size_38 (by omega) (by omega) (by rw [h323]; decide +kernel) (by decide) ?_
                              refine tr_aload_n dX12_size_167 rfl ?_
                              refine tr_getR dX12_size_168 fl12_17 (kR15 hS61.1 ta0) d5 ?_
                              refine q_iconst dX12_size_171 (by decide) ?_
                              intro v324 h325
                              refine q_iald dX12_size_172 (kR77 hS61.1 ta4) (ti_in (nR77 hS61.1 ta4) (by omega) (by omega)) ?_
                              intro v326 c327
                              rw [show v324.toNatClampNeg = 2 from ti_cl (by omega)] at c327
                              obtain rfl : v9 = v326 := (((hS61.cell ta4 (by decide +kernel)).trans c10)).symm.trans c327
                              obtain ⟨v328, c329⟩ : ∃ v, I0 a24 0 = v := ⟨_, rfl⟩
                              have b330 := hW0.2.2.2.2.2.1 a0 ta0 _ d25
                              rw [c329] at b330
                              have b331 := iv14_0 hW0 ta24 c329
                              obtain ⟨v332, c333⟩ : ∃ v, I0 a24 1 = v := ⟨_, rfl⟩
                              have b334 := iv14_1 hW0 ta24 c333
                              obtain ⟨v335, c336⟩ : ∃ v, I0 a24 2 = v := ⟨_, rfl⟩
                              have b337 := iv14_2 hW0 ta24 c336
                              obtain ⟨v338, c339⟩ : ∃ v, I0 a24 3 = v := ⟨_, rfl⟩
                              have b340 := iv14_3 hW0 ta24 c339
                              obtain ⟨v341, c342⟩ : ∃ v, I0 a24 4 = v := ⟨_, rfl⟩
                              have b343 := iv14_4 hW0 ta24 c342
                              obtain ⟨v344, c345⟩ : ∃ v, I0 a24 5 = v := ⟨_, rfl⟩
                              have b346 := iv14_5 hW0 ta24 c345
                              obtain ⟨v347, c348⟩ : ∃ v, I0 a24 6 = v := ⟨_, rfl⟩
                              have b349 := iv14_6 hW0 ta24 c348
                              obtain ⟨v350, c351⟩ : ∃ v, I0 a24 8 = v := ⟨_, rfl⟩
                              have b352 := iv14_8 hW0 ta24 c351
                              exact tr_iret hZ dX12_size_173 rfl (by decide) (by decide) ⟨v9, rfl, rfl, rfl, rfl, rfl, rfl, hS61, (Or.inr (⟨(by first | done | with_reducible assumption | omega), (fun q0 z0 => by obtain rfl := Option.some.inj ((d25).symm.trans z0); (try rw [c329]); first | done | with_reducible assumption | omega), (fun q0 z0 => by obtain rfl := Option.some.inj ((d25).symm.trans z0); (try rw [c333]); first | done | with_reducible assumption | omega), (fun q0 z0 => by obtain rfl := Option.some.inj ((d25).symm.trans z0); (try rw [c336]); first | done | with_reducible assumption | omega), (fun q0 z0 => by obtain rfl := Option.some.inj ((d5).symm.trans z0); (try rw [c7]); first | done | with_reducible assumption | omega), (fun q0 z0 => by obtain rfl := Option.some.inj ((d25).symm.trans z0); (try rw [c339]); first | done | with_reducible assumption | omega), (fun q0 z0 => by obtain rfl := Option.some.inj ((d25).symm.trans z0); (try rw [c342]); first | done | with_reducible assumption | omega), (fun q0 z0 => by obtain rfl := Option.some.inj ((d25).symm.trans z0); (try rw [c345]); first | done | with_reducible assumption | omega), (fun q0 z0 => by obtain rfl := Option.some.inj ((d25).symm.trans z0); (try rw [c348]); first | done | with_reducible assumption | omega), (fun q0 z0 => by obtain rfl := Option.some.inj ((d25).symm.trans z0); (try rw [c351]); first | done | with_reducible assumption | omega), (fun q0 z0 => by obtain rfl := Option.some.inj ((d5).symm.trans z0); (try rw [c10]); first | done | with_reducible assumption | omega), (by (try rw [c13]); first | done | with_reducible assumption | omega), (by (try rw [c16]); first | done | with_reducible assumption | omega), (by (try rw [c2]); first | done | with_reducible assumption | omega), ⟨_, d25⟩, ⟨(((hS61.cell ta0 (by decide +kernel)).trans c13)).trans (c13).symm, (((hS61.cell ta0 (by decide +kernel)).trans c16)).trans (c16).symm, fun a j h => by rcases h with h | h | h; exact (f63 _ _ (fun q => by have z := h; rw [q.1, ta0] at z; exact absurd z (by decide))); exact (f63 _ _ (fun q => by have z := h; rw [q.1, ta0] at z; exact absurd z (by decide))); exact (f63 _ _ (fun q => by have z := h; rw [q.1, ta0] at z; exact absurd z (by decide)))⟩, trivial⟩)), trivial⟩
                            · skip
                              by_cases h353 : x1.toInt = 10
                              · skip
                                refine tr_tabIn (off := 136) 174 dX12_size_38 (by omega) (by omega) (by rw [h353]; decide +kernel) (by decide) ?_
                                refine tr_aload_n dX12_size_174 rfl ?_
                                refine q_getI dX12_size_175 fl12_387 (kR15 hS61.1 ta0) ((hS61.cell ta0 (by decide +kernel)).trans c13) ?_
                                obtain ⟨v354, c355⟩ : ∃ v, I0 a24 0 = v := ⟨_, rfl⟩
                                have b356 := hW0.2.2.2.2.2.1 a0 ta0 _ d25
                                rw [c355] at b356
                                have b357 := iv14_0 hW0 ta24 c355
                                obtain ⟨v358, c359⟩ : ∃ v, I0 a24 1 = v := ⟨_, rfl⟩
                                have b360 := iv14_1 hW0 ta24 c359
                                obtain ⟨v361, c362⟩ : ∃ v, I0 a24 2 = v := ⟨_, rfl⟩
                                have b363 := iv14_2 hW0 ta24 c362
                                obtain ⟨v364, c365⟩ : ∃ v, I0 a24 3 = v := ⟨_, rfl⟩
                                have b366 := iv14_3 hW0 ta24 c365
                                obtain ⟨v367, c368⟩ : ∃ v, I0 a24 4 = v := ⟨_, rfl⟩
                                have b369 := iv14_4 hW0 ta24 c368
                                obtain ⟨v370, c371⟩ : ∃ v, I0 a24 5 = v := ⟨_, rfl⟩
                                have b372 := iv14_5 hW0 ta24 c371
                                obtain ⟨v373, c374⟩ : ∃ v, I0 a24 6 = v := ⟨_, rfl⟩
                                have b375 := iv14_6 hW0 ta24 c374
                                obtain ⟨v376, c377⟩ : ∃ v, I0 a24 8 = v := ⟨_, rfl⟩
                                have b378 := iv14_8 hW0 ta24 c377
                                exact tr_iret hZ dX12_size_178 rfl (by decide) (by decide) ⟨v12, rfl, rfl, rfl, rfl, rfl, rfl, hS61, (Or.inr (⟨(by first | done | with_reducible assumption | omega), (fun q0 z0 => by obtain rfl := Option.some.inj ((d25).symm.trans z0); (try rw [c355]); first | done | with_reducible assumption | omega), (fun q0 z0 => by obtain rfl := Option.some.inj ((d25).symm.trans z0); (try rw [c359]); first | done | with_reducible assumption | omega), (fun q0 z0 => by obtain rfl := Option.some.inj ((d25).symm.trans z0); (try rw [c362]); first | done | with_reducible assumption | omega), (fun q0 z0 => by obtain rfl := Option.some.inj ((d5).symm.trans z0); (try rw [c7]); first | done | with_reducible assumption | omega), (fun q0 z0 => by obtain rfl := Option.some.inj ((d25).symm.trans z0); (try rw [c365]); first | done | with_reducible assumption | omega), (fun q0 z0 => by obtain rfl := Option.some.inj ((d25).symm.trans z0); (try rw [c368]); first | done | with_reducible assumption | omega), (fun q0 z0 => by obtain rfl := Option.some.inj ((d25).symm.trans z0); (try rw [c371]); first | done | with_reducible assumption | omega), (fun q0 z0 => by obtain rfl := Option.some.inj ((d25).symm.trans z0); (try rw [c374]); first | done | with_reducible assumption | omega), (fun q0 z0 => by obtain rfl := Option.some.inj ((d25).symm.trans z0); (try rw [c377]); first | done | with_reducible assumption | omega), (fun q0 z0 => by obtain rfl := Option.some.inj ((d5).symm.trans z0); (try rw [c10]); first | done | with_reducible assumption | omega), (by (try rw [c13]); first | done | with_reducible assumption | omega), (by (try rw [c16]); first | done | with_reducible assumption | omega), (by (try rw [c2]); first | done | with_reducible assumption | omega), ⟨_, d25⟩, ⟨(((hS61.cell ta0 (by decide +kernel)).trans c13)).trans (c13).symm, (((hS61.cell ta0 (by decide +kernel)).trans c16)).trans (c16).symm, fun a j h => by rcases h with h | h | h; exact (f63 _ _ (fun q => by have z := h; rw [q.1, ta0] at z; exact absurd z (by decide))); exact (f63 _ _ (fun q => by have z := h; rw [q.1, ta0] at z; exact absurd z (by decide))); exact (f63 _ _ (fun q => by have z := h; rw [q.1, ta0] at z; exact absurd z (by decide)))⟩, trivial⟩)), trivial⟩
                              · skip
                                refine tr_tabOut 179 dX12_size_38 (by omega) (by decide) ?_
                                refine tr_aload_n dX12_size_179 rfl ?_
                                refine q_getI dX12_size_180 fl12_390 (kR15 hS61.1 ta0) ((hS61.cell ta0 (by decide +kernel)).trans c16) ?_
                                obtain ⟨v379, c380⟩ : ∃ v, I0 a24 0 = v := ⟨_, rfl⟩
                                have b381 := hW0.2.2.2.2.2.1 a0 ta0 _ d25
                                rw [c380] at b381
                                have b382 := iv14_0 hW0 ta24 c380
                                obtain ⟨v383, c384⟩ : ∃ v, I0 a24 1 = v := ⟨_, rfl⟩
                                have b385 := iv14_1 hW0 ta24 c384
                                obtain ⟨v386, c387⟩ : ∃ v, I0 a24 2 = v := ⟨_, rfl⟩
                                have b388 := iv14_2 hW0 ta24 c387
                                obtain ⟨v389, c390⟩ : ∃ v, I0 a24 3 = v := ⟨_, rfl⟩
                                have b391 := iv14_3 hW0 ta24 c390
                                obtain ⟨v392, c393⟩ : ∃ v, I0 a24 4 = v := ⟨_, rfl⟩
                                have b394 := iv14_4 hW0 ta24 c393
                                obtain ⟨v395, c396⟩ : ∃ v, I0 a24 5 = v := ⟨_, rfl⟩
                                have b397 := iv14_5 hW0 ta24 c396
                                obtain ⟨v398, c399⟩ : ∃ v, I0 a24 6 = v := ⟨_, rfl⟩
                                have b400 := iv14_6 hW0 ta24 c399
                                obtain ⟨v401, c402⟩ : ∃ v, I0 a24 8 = v := ⟨_, rfl⟩
                                have b403 := iv14_8 hW0 ta24 c402
                                exact tr_iret hZ dX12_size_183 rfl (by decide) (by decide) ⟨v15, rfl, rfl, rfl, rfl, rfl, rfl, hS61, (Or.inr (⟨(by first | done | with_reducible assumption | omega), (fun q0 z0 => by obtain rfl := Option.some.inj ((d25).symm.trans z0); (try rw [c380]); first | done | with_reducible assumption | omega), (fun q0 z0 => by obtain rfl := Option.some.inj ((d25).symm.trans z0); (try rw [c384]); first | done | with_reducible assumption | omega), (fun q0 z0 => by obtain rfl := Option.some.inj ((d25).symm.trans z0); (try rw [c387]); first | done | with_reducible assumption | omega), (fun q0 z0 => by obtain rfl := Option.some.inj ((d5).symm.trans z0); (try rw [c7]); first | done | with_reducible assumption | omega), (fun q0 z0 => by obtain rfl := Option.some.inj ((d25).symm.trans z0); (try rw [c390]); first | done | with_reducible assumption | omega), (fun q0 z0 => by obtain rfl := Option.some.inj ((d25).symm.trans z0); (try rw [c393]); first | done | with_reducible assumption | omega), (fun q0 z0 => by obtain rfl := Option.some.inj ((d25).symm.trans z0); (try rw [c396]); first | done | with_reducible assumption | omega), (fun q0 z0 => by obtain rfl := Option.some.inj ((d25).symm.trans z0); (try rw [c399]); first | done | with_reducible assumption | omega), (fun q0 z0 => by obtain rfl := Option.some.inj ((d25).symm.trans z0); (try rw [c402]); first | done | with_reducible assumption | omega), (fun q0 z0 => by obtain rfl := Option.some.inj ((d5).symm.trans z0); (try rw [c10]); first | done | with_reducible assumption | omega), (by (try rw [c13]); first | done | with_reducible assumption | omega), (by (try rw [c16]); first | done | with_reducible assumption | omega), (by (try rw [c2]); first | done | with_reducible assumption | omega), ⟨_, d25⟩, ⟨(((hS61.cell ta0 (by decide +kernel)).trans c13)).trans (c13).symm, (((hS61.cell ta0 (by decide +kernel)).trans c16)).trans (c16).symm, fun a j h => by rcases h with h | h | h; exact (f63 _ _ (fun q => by have z := h; rw [q.1, ta0] at z; exact absurd z (by decide))); exact (f63 _ _ (fun q => by have z := h; rw [q.1, ta0] at z; exact absurd z (by decide))); exact (f63 _ _ (fun q => by have z := h; rw [q.1, ta0] at z; exact absurd z (by decide)))⟩, trivial⟩)), trivial⟩
        · skip
          exfalso; omega
      · skip
        refine q_if_ne 28 dX12_size_23 (by decide) (fun h404 => ?_) (fun h404 => ?_)
        · skip
          exfalso; omega
        · skip
          refine q_iconst dX12_size_26 (by decide) ?_
          intro v405 h406
          obtain ⟨v407, c408⟩ : ∃ v, I0 a24 0 = v := ⟨_, rfl⟩
          have b409 := hW0.2.2.2.2.2.1 a0 ta0 _ d25
          rw [c408] at b409
          have b410 := iv14_0 hW0 ta24 c408
          obtain ⟨v411, c412⟩ : ∃ v, I0 a24 1 = v := ⟨_, rfl⟩
          have b413 := iv14_1 hW0 ta24 c412
          obtain ⟨v414, c415⟩ : ∃ v, I0 a24 2 = v := ⟨_, rfl⟩
          have b416 := iv14_2 hW0 ta24 c415
          obtain ⟨v417, c418⟩ : ∃ v, I0 a24 3 = v := ⟨_, rfl⟩
          have b419 := iv14_3 hW0 ta24 c418
          obtain ⟨v420, c421⟩ : ∃ v, I0 a24 4 = v := ⟨_, rfl⟩
          have b422 := iv14_4 hW0 ta24 c421
          obtain ⟨v423, c424⟩ : ∃ v, I0 a24 5 = v := ⟨_, rfl⟩
          have b425 := iv14_5 hW0 ta24 c424
          obtain ⟨v426, c427⟩ : ∃ v, I0 a24 6 = v := ⟨_, rfl⟩
          have b428 := iv14_6 hW0 ta24 c427
          obtain ⟨v429, c430⟩ : ∃ v, I0 a24 8 = v := ⟨_, rfl⟩
          have b431 := iv14_8 hW0 ta24 c430
          exact tr_iret hZ dX12_size_27 rfl (by decide) (by decide) ⟨v405, rfl, rfl, rfl, rfl, rfl, rfl, hS61, (Or.inr (⟨(by first | done | with_reducible assumption | omega), (fun q0 z0 => by obtain rfl := Option.some.inj ((d25).symm.trans z0); (try rw [c408]); first | done | with_reducible assumption | omega), (fun q0 z0 => by obtain rfl := Option.some.inj ((d25).symm.trans z0); (try rw [c412]); first | done | with_reducible assumption | omega), (fun q0 z0 => by obtain rfl := Option.some.inj ((d25).symm.trans z0); (try rw [c415]); first | done | with_reducible assumption | omega), (fun q0 z0 => by obtain rfl := Option.some.inj ((d5).symm.trans z0); (try rw [c7]); first | done | with_reducible assumption | omega), (fun q0 z0 => by obtain rfl := Option.some.inj ((d25).symm.trans z0); (try rw [c418]); first | done | with_reducible assumption | omega), (fun q0 z0 => by obtain rfl := Option.some.inj ((d25).symm.trans z0); (try rw [c421]); first | done | with_reducible assumption | omega), (fun q0 z0 => by obtain rfl := Option.some.inj ((d25).symm.trans z0); (try rw [c424]); first | done | with_reducible assumption | omega), (fun q0 z0 => by obtain rfl := Option.some.inj ((d25).symm.trans z0); (try rw [c427]); first | done | with_reducible assumption | omega), (fun q0 z0 => by obtain rfl := Option.some.inj ((d25).symm.trans z0); (try rw [c430]); first | done | with_reducible assumption | omega), (fun q0 z0 => by obtain rfl := Option.some.inj ((d5).symm.trans z0); (try rw [c10]); first | done | with_reducible assumption | omega), (by (try rw [c13]); first | done | with_reducible assumption | omega), (by (try rw [c16]); first | done | with_reducible assumption | omega), (by (try rw [c2]); first | done | with_reducible assumption | omega), ⟨_, d25⟩, ⟨(((hS61.cell ta0 (by decide +kernel)).trans c13)).trans (c13).symm, (((hS61.cell ta0 (by decide +kernel)).trans c16)).trans (c16).symm, fun a j h => by rcases h with h | h | h; exact (f63 _ _ (fun q => by have z := h; rw [q.1, ta0] at z; exact absurd z (by decide))); exact (f63 _ _ (fun q => by have z := h; rw [q.1, ta0] at z; exact absurd z (by decide))); exact (f63 _ _ (fun q => by have z := h; rw [q.1, ta0] at z; exact absurd z (by decide)))⟩, trivial⟩)), trivial⟩
    · skip
      refine tr_aload_n dX12_size_11 rfl ?_
      refine q_getI dX12_size_12 fl12_378 (kR15 hS61.1 ta0) ((hS61.cell ta0 (by decide +kernel)).trans c2) ?_
      obtain ⟨v432, c433⟩ : ∃ v, I0 a24 0 = v := ⟨_, rfl⟩
      have b434 := hW0.2.2.2.2.2.1 a0 ta0 _ d25
      rw [c433] at b434
      have b435 := iv14_0 hW0 ta24 c433
      obtain ⟨v436, c437⟩ : ∃ v, I0 a24 1 = v := ⟨_, rfl⟩
      have b438 := iv14_1 hW0 ta24 c437
      obtain ⟨v439, c440⟩ : ∃ v, I0 a24 2 = v := ⟨_, rfl⟩
      have b441 := iv14_2 hW0 ta24 c440
      obtain ⟨v442, c443⟩ : ∃ v, I0 a24 3 = v := ⟨_, rfl⟩
      have b444 := iv14_3 hW0 ta24 c443
      obtain ⟨v445, c446⟩ : ∃ v, I0 a24 4 = v := ⟨_, rfl⟩
      have b447 := iv14_4 hW0 ta24 c446
      obtain ⟨v448, c449⟩ : ∃ v, I0 a24 5 = v := ⟨_, rfl⟩
      have b450 := iv14_5 hW0 ta24 c449
      obtain ⟨v451, c452⟩ : ∃ v, I0 a24 6 = v := ⟨_, rfl⟩
      have b453 := iv14_6 hW0 ta24 c452
      obtain ⟨v454, c455⟩ : ∃ v, I0 a24 8 = v := ⟨_, rfl⟩
      have b456 := iv14_8 hW0 ta24 c455
      exact tr_iret hZ dX12_size_15 rfl (by decide) (by decide) ⟨v1, rfl, rfl, rfl, rfl, rfl, rfl, hS61, (Or.inr (⟨(by first | done | with_reducible assumption | omega), (fun q0 z0 => by obtain rfl := Option.some.inj ((d25).symm.trans z0); (try rw [c433]); first | done | with_reducible assumption | omega), (fun q0 z0 => by obtain rfl := Option.some.inj ((d25).symm.trans z0); (try rw [c437]); first | done | with_reducible assumption | omega), (fun q0 z0 => by obtain rfl := Option.some.inj ((d25).symm.trans z0); (try rw [c440]); first | done | with_reducible assumption | omega), (fun q0 z0 => by obtain rfl := Option.some.inj ((d5).symm.trans z0); (try rw [c7]); first | done | with_reducible assumption | omega), (fun q0 z0 => by obtain rfl := Option.some.inj ((d25).symm.trans z0); (try rw [c443]); first | done | with_reducible assumption | omega), (fun q0 z0 => by obtain rfl := Option.some.inj ((d25).symm.trans z0); (try rw [c446]); first | done | with_reducible assumption | omega), (fun q0 z0 => by obtain rfl := Option.some.inj ((d25).symm.trans z0); (try rw [c449]); first | done | with_reducible assumption | omega), (fun q0 z0 => by obtain rfl := Option.some.inj ((d25).symm.trans z0); (try rw [c452]); first | done | with_reducible assumption | omega), (fun q0 z0 => by obtain rfl := Option.some.inj ((d25).symm.trans z0); (try rw [c455]); first | done | with_reducible assumption | omega), (fun q0 z0 => by obtain rfl := Option.some.inj ((d5).symm.trans z0); (try rw [c10]); first | done | with_reducible assumption | omega), (by (try rw [c13]); first | done | with_reducible assumption | omega), (by (try rw [c16]); first | done | with_reducible assumption | omega), (by (try rw [c2]); first | done | with_reducible assumption | omega), ⟨_, d25⟩, ⟨(((hS61.cell ta0 (by decide +kernel)).trans c13)).trans (c13).symm, (((hS61.cell ta0 (by decide +kernel)).trans c16)).trans (c16).symm, fun a j h => by rcases h with h | h | h; exact (f63 _ _ (fun q => by have z := h; rw [q.1, ta0] at z; exact absurd z (by decide))); exact (f63 _ _ (fun q => by have z := h; rw [q.1, ta0] at z; exact absurd z (by decide))); exact (f63 _ _ (fun q => by have z := h; rw [q.1, ta0] at z; exact absurd z (by decide)))⟩, trivial⟩)), trivial⟩
