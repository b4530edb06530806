set_option maxHeartbeats 4000000 in
theorem fk_X5_noticedHuts {l : Launch} {T : Nat → Nat} {cn : Nat} {K N : Nat → Nat} {I0 : cz_I} {R0 : cz_R} {L0 : cz_L} {d : Int} (hW0 : Wf T cn K N I0 R0 d) (gZ : cz_N) {a0 : Nat} (ta0 : T a0 = 13) {x1 : Int32} (hx1 : 0 ≤ x1.toInt ∧ x1.toInt ≤ 4) {x2 : Int32} (hx2 : 0 ≤ x2.toInt ∧ x2.toInt ≤ 239) (hP : NgP I0 R0 a0 gZ) (hG : GdN gZ) (pre0 : x1.toInt < (nzc gZ 4)) (pre1 : x2.toInt < (nzc gZ 0)) : ConE l mX5_noticedHuts [.ref a0, .int x1, .int x2] cn K N I0 R0 L0 (ca_i (fun v cn' K' N' I' R' L' => cn = cn' ∧ K = K' ∧ N = N' ∧ I0 = I' ∧ R0 = R' ∧ L0 = L' ∧ (0 ≤ v.toInt ∧ v.toInt ≤ 15 ∧ ∀ h : Nat, (h : Int) < nzc gZ 1 → bt v.toInt (h : Int) = noZ gZ x1.toInt.toNat (h : Int) x2.toInt) ∧ True)) := by
  refine ConE.of (by decide +kernel) rfl (Nat.le_of_ble_eq_true rfl) rfl (fun X hX hZ hE => ?_)
  subst hX
  have p1 := pre0
  have p2 := pre1
  obtain ⟨a3, d4, ta3⟩ := rf13_0 hW0 ta0
  obtain ⟨a5, d6, ta5⟩ := rf13_1 hW0 ta0
  obtain ⟨a7, d8, ta7⟩ := rf2_2 hW0 ta3
  obtain ⟨a9, d10, ta9⟩ := rf2_6 hW0 ta3
  obtain ⟨a11, d12, ta11⟩ := rf2_8 hW0 ta3
  obtain ⟨a13, d14, ta13⟩ := rf2_10 hW0 ta3
  obtain ⟨a15, d16, ta15⟩ := rf2_12 hW0 ta3
  obtain ⟨a17, d18, ta17⟩ := rf12_2 hW0 ta5
  obtain ⟨a19, d20, ta19⟩ := rf12_3 hW0 ta5
  obtain ⟨a21, d22, ta21⟩ := rf12_5 hW0 ta5
  obtain ⟨a23, d24, ta23⟩ := rf12_8 hW0 ta5
  obtain ⟨a25, d26, ta25⟩ := rf12_9 hW0 ta5
  obtain ⟨a27, d28, ta27⟩ := rf12_11 hW0 ta5
  obtain ⟨a29, d30, ta29⟩ := rf13_3 hW0 ta0
  obtain ⟨a31, d32, ta31⟩ := rf13_4 hW0 ta0
  obtain ⟨a33, d34, ta33⟩ := rf13_5 hW0 ta0
  obtain ⟨a35, d36, ta35⟩ := rf13_6 hW0 ta0
  obtain ⟨a37, d38, ta37⟩ := rf13_7 hW0 ta0
  obtain ⟨a39, d40, ta39⟩ := rf13_8 hW0 ta0
  obtain ⟨a41, d42, ta41⟩ := rf13_9 hW0 ta0
  obtain ⟨a43, d44, ta43⟩ := rf13_10 hW0 ta0
  obtain ⟨a45, d46, ta45⟩ := rf13_11 hW0 ta0
  obtain ⟨v47, c48⟩ : ∃ v, I0 a3 0 = v := ⟨_, rfl⟩
  have b49 := iv2_0 hW0 ta3 c48
  obtain ⟨v50, c51⟩ : ∃ v, I0 a3 1 = v := ⟨_, rfl⟩
  have b52 := iv2_1 hW0 ta3 c51
  obtain ⟨v53, c54⟩ : ∃ v, I0 a3 5 = v := ⟨_, rfl⟩
  have b55 := iv2_5 hW0 ta3 c54
  obtain ⟨v56, c57⟩ : ∃ v, I0 a3 7 = v := ⟨_, rfl⟩
  obtain ⟨v58, c59⟩ : ∃ v, I0 a3 9 = v := ⟨_, rfl⟩
  have b60 := iv2_9 hW0 ta3 c59
  obtain ⟨v61, c62⟩ : ∃ v, I0 a3 11 = v := ⟨_, rfl⟩
  have b63 := iv2_11 hW0 ta3 c62
  obtain ⟨v64, c65⟩ : ∃ v, I0 a0 2 = v := ⟨_, rfl⟩
  have hA66 := hP _ _ d4 d6
  have hc67 := hA66.1.ct
  rw [c48, c51, c54, c59, c62, c57] at hc67
  have hc67g := hG.cs
  have hc67m := hA66.2.2
  rw [c65] at hc67m
  have hc67n := hG.ms
  refine tr_aload_n dX5_noticedHuts_0 rfl ?_
  refine tr_getR dX5_noticedHuts_1 fl5_39 (kR13 hW0 ta0) d4 ?_
  refine tr_getR dX5_noticedHuts_4 fl5_90 (kR2 hW0 ta3) d14 ?_
  refine tr_iload_n dX5_noticedHuts_7 rfl ?_
  obtain ⟨a68, d69, ta68⟩ := rf21 hW0 ta13 (j := x1.toNatClampNeg) (ti_lt (by omega) (by omega))
  refine tr_aald dX5_noticedHuts_8 (kR21 hW0 ta13) (by decide) (by decide) (ti_in (nR21 hW0 ta13) (by omega) (by omega)) d69 ?_
  obtain ⟨v71, c72⟩ : ∃ v, I0 a68 0 = v := ⟨_, rfl⟩
  obtain ⟨v73, c74⟩ : ∃ v, I0 a68 1 = v := ⟨_, rfl⟩
  obtain ⟨v75, c76⟩ : ∃ v, I0 a68 2 = v := ⟨_, rfl⟩
  obtain ⟨v77, c78⟩ : ∃ v, I0 a68 3 = v := ⟨_, rfl⟩
  obtain ⟨v79, c80⟩ : ∃ v, I0 a68 4 = v := ⟨_, rfl⟩
  obtain ⟨v81, c82⟩ : ∃ v, I0 a68 5 = v := ⟨_, rfl⟩
  have ho70 := hA66.1.tu d14 (k := x1.toInt.toNat) (by omega) (by omega) d69
  rw [c72, c74, c76, c78, c80, c82] at ho70
  have ho70g := hG.tu (t := x1.toInt.toNat) (by omega)
  refine q_getI dX5_noticedHuts_9 fl5_131 (kR4 hW0 ta68) c72 ?_
  by_cases h83 : v71.toInt = 1
  · skip
    refine tr_lookup (off := 28) 40 dX5_noticedHuts_12 (by decide +kernel) (by rw [h83]; decide +kernel) (by decide) ?_
    refine tr_aload_n dX5_noticedHuts_40 rfl ?_
    refine tr_getR dX5_noticedHuts_41 fl5_43 (kR13 hW0 ta0) d6 ?_
    refine tr_getR dX5_noticedHuts_44 fl5_115 (kR12 hW0 ta5) d24 ?_
    refine tr_iload_n dX5_noticedHuts_47 rfl ?_
    refine q_iald dX5_noticedHuts_48 (kR41 hW0 ta23) (ti_in (nR41 hW0 ta23) (by omega) (by omega)) ?_
    intro v84 c85
    exact tr_iret hZ dX5_noticedHuts_49 rfl (by decide) (by decide) ⟨v84, rfl, rfl, rfl, rfl, rfl, rfl, rfl, (by have b := hA66.2.1.2.1 _ d24 x2.toInt.toNat (by omega); rw [show I0 a23 x2.toInt.toNat = v84 from c85, show ((x2.toInt.toNat : Nat) : Int) = x2.toInt by omega] at b; exact ⟨b.1, b.2.1, fun h hh => by rw [b.2.2 h (by omega)]; unfold noZ; rw [if_neg (by omega), if_pos (by omega)]⟩), trivial⟩
  · skip
    by_cases h86 : v71.toInt = 3
    · skip
      refine tr_lookup (off := 38) 50 dX5_noticedHuts_12 (by decide +kernel) (by rw [h86]; decide +kernel) (by decide) ?_
      refine tr_aload_n dX5_noticedHuts_50 rfl ?_
      refine tr_getR dX5_noticedHuts_51 fl5_39 (kR13 hW0 ta0) d4 ?_
      refine tr_getR dX5_noticedHuts_54 fl5_158 (kR2 hW0 ta3) d12 ?_
      refine tr_iload_n dX5_noticedHuts_57 rfl ?_
      refine q_callVi hE (M' := mX4_holds) (as := [_]) dX5_noticedHuts_58 lk5_162 inX4_holds seX4_holds myX4_holds (by decide) ⟨by decide, by decide⟩ rfl (kR6 hW0 ta11) (Nat.le_of_ble_eq_true rfl) rfl rfl (by decide) (by decide) (fk_X4_holds hW0  ta11) ?_
      rintro v92 cn' K' N' I87 R88 L89 ⟨rfl, rfl, rfl, rfl, rfl, rfl, h93, rp94, -⟩
      obtain ⟨a95, d96, ta95⟩ := rf6_1 hW0 ta11
      have yh97 := alZ_of hA66.1 d12 d96 (rp94 _ d96)
      refine q_if_eq 74 dX5_noticedHuts_61 (by decide) (fun h98 => ?_) (fun h98 => ?_)
      · skip
        refine q_iconst dX5_noticedHuts_74 (by decide) ?_
        intro v99 h100
        exact tr_iret hZ dX5_noticedHuts_75 rfl (by decide) (by decide) ⟨v99, rfl, rfl, rfl, rfl, rfl, rfl, rfl, ⟨by omega, by omega, fun h hh => by rw [show v99.toInt = 0 by omega, bt_z]; unfold noZ; rw [if_pos (by omega)]; omega⟩, trivial⟩
      · skip
        refine tr_aload_n dX5_noticedHuts_64 rfl ?_
        refine tr_getR dX5_noticedHuts_65 fl5_43 (kR13 hW0 ta0) d6 ?_
        obtain ⟨v101, c102⟩ : ∃ v, I0 a5 1 = v := ⟨_, rfl⟩
        refine q_getI dX5_noticedHuts_68 fl5_168 (kR12 hW0 ta5) c102 ?_
        refine tr_goto 75 dX5_noticedHuts_71 (by decide) ?_
        exact tr_iret hZ dX5_noticedHuts_75 rfl (by decide) (by decide) ⟨v101, rfl, rfl, rfl, rfl, rfl, rfl, rfl, (by have b := hA66.2.1.2.2.2.1; rw [show I0 a5 1 = v101 from c102] at b; exact ⟨b.1, b.2.1, fun h hh => by have e : bt _ _ = (if _ then _ else _) := b.2.2 h (by omega); rw [if_pos hh] at e; unfold noZ; rw [if_pos (by omega)]; omega⟩), trivial⟩
    · skip
      refine tr_lookup (off := 64) 76 dX5_noticedHuts_12 (by decide +kernel) (by show Op.lookupswitch.offset [(1, 28), (3, 38)] 64 _ = 64; rw [Op.lookupswitch.offset_cons, if_neg (by omega), Op.lookupswitch.offset_cons, if_neg (by omega)]; rfl) (by decide) ?_
      refine tr_aload_n dX5_noticedHuts_76 rfl ?_
      refine tr_getR dX5_noticedHuts_77 fl5_43 (kR13 hW0 ta0) d6 ?_
      refine tr_getR dX5_noticedHuts_80 fl5_171 (kR12 hW0 ta5) d26 ?_
      refine tr_iload_n dX5_noticedHuts_83 rfl ?_
      refine q_iald dX5_noticedHuts_84 (kR42 hW0 ta25) (ti_in (nR42 hW0 ta25) (by omega) (by omega)) ?_
      intro v103 c104
      exact tr_iret hZ dX5_noticedHuts_85 rfl (by decide) (by decide) ⟨v103, rfl, rfl, rfl, rfl, rfl, rfl, rfl, (by have b := hA66.2.1.2.2.1 _ d26 x2.toInt.toNat (by omega); rw [show I0 a25 x2.toInt.toNat = v103 from c104, show ((x2.toInt.toNat : Nat) : Int) = x2.toInt by omega] at b; exact ⟨b.1, b.2.1, fun h hh => by rw [b.2.2 h (by omega)]; unfold noZ; rw [if_neg (by omega), if_neg (by omega)]⟩), trivial⟩
