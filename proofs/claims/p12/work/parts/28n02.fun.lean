set_option maxHeartbeats 4000000 in
theorem fk_X5_isAwake {l : Launch} {T : Nat → Nat} {cn : Nat} {K N : Nat → Nat} {I0 : cz_I} {R0 : cz_R} {L0 : cz_L} {d : Int} (hW0 : Wf T cn K N I0 R0 d) (gZ : cz_N) {a0 : Nat} (ta0 : T a0 = 13) {x1 : Int32} (hx1 : 0 ≤ x1.toInt ∧ x1.toInt ≤ 4) {x2 : Int32} (hx2 : 0 ≤ x2.toInt ∧ x2.toInt ≤ 239) (hP : NgP I0 R0 a0 gZ) (hG : GdN gZ) (pre0 : x1.toInt < (nzc gZ 4)) (pre1 : x2.toInt < (nzc gZ 0)) : ConE l mX5_isAwake [.ref a0, .int x1, .int x2] cn K N I0 R0 L0 (ca_i (fun v cn' K' N' I' R' L' => cn = cn' ∧ K = K' ∧ N = N' ∧ I0 = I' ∧ R0 = R' ∧ L0 = L' ∧ (0 ≤ v.toInt ∧ v.toInt ≤ 1) ∧ (v.toInt = awZ gZ x1.toInt.toNat x2.toInt) ∧ True)) := by
  refine ConE.of (by decide +kernel) rfl (Nat.le_of_ble_eq_true rfl) rfl (fun X hX hZ hE => ?_)
  subst hX
  have p1 := pre0
  have p2 := pre1
  obtain ⟨a3, d4, ta3⟩ := rf13_0 hW0 ta0
  obtain ⟨a5, d6, ta5⟩ := rf13_1 hW0 ta0
  obtain ⟨a7, d8, ta7⟩ := rf2_2 hW0 ta3
  obtain ⟨a9, d10, ta9⟩ := rf2_6 hW0 ta3
  obtain ⟨a11, d12, ta11⟩ := rf2_8 hW0 ta3
  obtain ⟨a13, d14, ta13⟩ := rf2_10 hW0 ta3
  obtain ⟨a15, d16, ta15⟩ := rf2_12 hW0 ta3
  obtain ⟨a17, d18, ta17⟩ := rf12_2 hW0 ta5
  obtain ⟨a19, d20, ta19⟩ := rf12_3 hW0 ta5
  obtain ⟨a21, d22, ta21⟩ := rf12_5 hW0 ta5
  obtain ⟨a23, d24, ta23⟩ := rf12_8 hW0 ta5
  obtain ⟨a25, d26, ta25⟩ := rf12_9 hW0 ta5
  obtain ⟨a27, d28, ta27⟩ := rf12_11 hW0 ta5
  obtain ⟨a29, d30, ta29⟩ := rf13_3 hW0 ta0
  obtain ⟨a31, d32, ta31⟩ := rf13_4 hW0 ta0
  obtain ⟨a33, d34, ta33⟩ := rf13_5 hW0 ta0
  obtain ⟨a35, d36, ta35⟩ := rf13_6 hW0 ta0
  obtain ⟨a37, d38, ta37⟩ := rf13_7 hW0 ta0
  obtain ⟨a39, d40, ta39⟩ := rf13_8 hW0 ta0
  obtain ⟨a41, d42, ta41⟩ := rf13_9 hW0 ta0
  obtain ⟨a43, d44, ta43⟩ := rf13_10 hW0 ta0
  obtain ⟨a45, d46, ta45⟩ := rf13_11 hW0 ta0
  obtain ⟨v47, c48⟩ : ∃ v, I0 a3 0 = v := ⟨_, rfl⟩
  have b49 := iv2_0 hW0 ta3 c48
  obtain ⟨v50, c51⟩ : ∃ v, I0 a3 1 = v := ⟨_, rfl⟩
  have b52 := iv2_1 hW0 ta3 c51
  obtain ⟨v53, c54⟩ : ∃ v, I0 a3 5 = v := ⟨_, rfl⟩
  have b55 := iv2_5 hW0 ta3 c54
  obtain ⟨v56, c57⟩ : ∃ v, I0 a3 7 = v := ⟨_, rfl⟩
  obtain ⟨v58, c59⟩ : ∃ v, I0 a3 9 = v := ⟨_, rfl⟩
  have b60 := iv2_9 hW0 ta3 c59
  obtain ⟨v61, c62⟩ : ∃ v, I0 a3 11 = v := ⟨_, rfl⟩
  have b63 := iv2_11 hW0 ta3 c62
  obtain ⟨v64, c65⟩ : ∃ v, I0 a0 2 = v := ⟨_, rfl⟩
  have hA66 := hP _ _ d4 d6
  have hc67 := hA66.1.ct
  rw [c48, c51, c54, c59, c62, c57] at hc67
  have hc67g := hG.cs
  have hc67m := hA66.2.2
  rw [c65] at hc67m
  have hc67n := hG.ms
  refine tr_aload_n dX5_isAwake_0 rfl ?_
  refine tr_getR dX5_isAwake_1 fl5_39 (kR13 hW0 ta0) d4 ?_
  refine tr_getR dX5_isAwake_4 fl5_90 (kR2 hW0 ta3) d14 ?_
  refine tr_iload_n dX5_isAwake_7 rfl ?_
  obtain ⟨a68, d69, ta68⟩ := rf21 hW0 ta13 (j := x1.toNatClampNeg) (ti_lt (by omega) (by omega))
  refine tr_aald dX5_isAwake_8 (kR21 hW0 ta13) (by decide) (by decide) (ti_in (nR21 hW0 ta13) (by omega) (by omega)) d69 ?_
  refine tr_astore_n dX5_isAwake_9 (by decide) (by decide) ?_
  obtain ⟨v71, c72⟩ : ∃ v, I0 a68 0 = v := ⟨_, rfl⟩
  obtain ⟨v73, c74⟩ : ∃ v, I0 a68 1 = v := ⟨_, rfl⟩
  obtain ⟨v75, c76⟩ : ∃ v, I0 a68 2 = v := ⟨_, rfl⟩
  obtain ⟨v77, c78⟩ : ∃ v, I0 a68 3 = v := ⟨_, rfl⟩
  obtain ⟨v79, c80⟩ : ∃ v, I0 a68 4 = v := ⟨_, rfl⟩
  obtain ⟨v81, c82⟩ : ∃ v, I0 a68 5 = v := ⟨_, rfl⟩
  have ho70 := hA66.1.tu d14 (k := x1.toInt.toNat) (by omega) (by omega) d69
  rw [c72, c74, c76, c78, c80, c82] at ho70
  have ho70g := hG.tu (t := x1.toInt.toNat) (by omega)
  refine tr_iload_n dX5_isAwake_10 rfl ?_
  refine tr_aload_n dX5_isAwake_11 rfl ?_
  refine q_getI dX5_isAwake_12 fl5_125 (kR4 hW0 ta68) c74 ?_
  refine q_icmp_lt 28 dX5_isAwake_15 (by decide) (fun h83 => ?_) (fun h83 => ?_)
  · skip
    refine tr_aload_n dX5_isAwake_28 rfl ?_
    refine q_getI dX5_isAwake_29 fl5_131 (kR4 hW0 ta68) c72 ?_
    refine q_iconst dX5_isAwake_32 (by decide) ?_
    intro v84 h85
    refine q_icmp_ne 38 dX5_isAwake_33 (by decide) (fun h86 => ?_) (fun h86 => ?_)
    · skip
      refine tr_aload_n dX5_isAwake_38 rfl ?_
      refine tr_getR dX5_isAwake_39 fl5_43 (kR13 hW0 ta0) d6 ?_
      refine tr_getR dX5_isAwake_42 fl5_134 (kR12 hW0 ta5) d18 ?_
      refine tr_iload_n dX5_isAwake_45 rfl ?_
      refine q_zald dX5_isAwake_46 (kR35 hW0 ta17) (ti_in (nR35 hW0 ta17) (by omega) (by omega)) ?_
      intro v87 c88
      have b89 := iv35 hW0 ta17 c88
      refine q_if_ne 59 dX5_isAwake_47 (by decide) (fun h90 => ?_) (fun h90 => ?_)
      · skip
        refine q_iconst dX5_isAwake_59 (by decide) ?_
        intro v91 h92
        refine tr_goto 64 dX5_isAwake_60 (by decide) ?_
        exact tr_zret hZ dX5_isAwake_64 rfl (ti_b01 (by omega) (by omega)) (by decide) (by decide) ⟨v91, rfl, rfl, rfl, rfl, rfl, rfl, rfl, (by omega), (by have ye := hA66.2.1.1 _ d18 x2.toInt.toNat (by omega); rw [show I0 a17 x2.toInt.toNat = v87 from c88, show ((x2.toInt.toNat : Nat) : Int) = x2.toInt by omega] at ye; unfold awZ; repeat' (first | omega | split)), trivial⟩
      · skip
        refine tr_aload_n dX5_isAwake_50 rfl ?_
        refine tr_iload_n dX5_isAwake_51 rfl ?_
        refine tr_iload_n dX5_isAwake_52 rfl ?_
        refine q_callVi hE (M' := mX5_isCalled) (as := [_, _]) dX5_isAwake_53 lk5_138 inX5_isCalled seX5_isCalled myX5_isCalled (by decide) ⟨by decide, by decide⟩ rfl (kR13 hW0 ta0) (Nat.le_of_ble_eq_true rfl) rfl rfl (by decide) (by decide) (fk_X5_isCalled hW0 (gZ) ta0 (by omega) (by omega) hP hG) ?_
        rintro v98 cn' K' N' I93 R94 L95 ⟨rfl, rfl, rfl, rfl, rfl, rfl, h99, rp100, -⟩
        refine q_if_eq 63 dX5_isAwake_56 (by decide) (fun h101 => ?_) (fun h101 => ?_)
        · skip
          refine q_iconst dX5_isAwake_63 (by decide) ?_
          intro v102 h103
          exact tr_zret hZ dX5_isAwake_64 rfl (ti_b01 (by omega) (by omega)) (by decide) (by decide) ⟨v102, rfl, rfl, rfl, rfl, rfl, rfl, rfl, (by omega), (by have ye := hA66.2.1.1 _ d18 x2.toInt.toNat (by omega); rw [show I0 a17 x2.toInt.toNat = v87 from c88, show ((x2.toInt.toNat : Nat) : Int) = x2.toInt by omega] at ye; have yc := rp100; rw [show x1.toInt = ((x1.toInt.toNat : Nat) : Int) by omega] at yc; unfold awZ; repeat' (first | omega | split)), trivial⟩
        · skip
          refine q_iconst dX5_isAwake_59 (by decide) ?_
          intro v104 h105
          refine tr_goto 64 dX5_isAwake_60 (by decide) ?_
          exact tr_zret hZ dX5_isAwake_64 rfl (ti_b01 (by omega) (by omega)) (by decide) (by decide) ⟨v104, rfl, rfl, rfl, rfl, rfl, rfl, rfl, (by omega), (by have ye := hA66.2.1.1 _ d18 x2.toInt.toNat (by omega); rw [show I0 a17 x2.toInt.toNat = v87 from c88, show ((x2.toInt.toNat : Nat) : Int) = x2.toInt by omega] at ye; have yc := rp100; rw [show x1.toInt = ((x1.toInt.toNat : Nat) : Int) by omega] at yc; unfold awZ; repeat' (first | omega | split)), trivial⟩
    · skip
      refine q_iconst dX5_isAwake_36 (by decide) ?_
      intro v106 h107
      exact tr_zret hZ dX5_isAwake_37 rfl (ti_b01 (by omega) (by omega)) (by decide) (by decide) ⟨v106, rfl, rfl, rfl, rfl, rfl, rfl, rfl, (by omega), (by unfold awZ; repeat' (first | omega | split)), trivial⟩
  · skip
    refine tr_iload_n dX5_isAwake_18 rfl ?_
    refine tr_aload_n dX5_isAwake_19 rfl ?_
    refine q_getI dX5_isAwake_20 fl5_128 (kR4 hW0 ta68) c76 ?_
    refine q_icmp_ge 28 dX5_isAwake_23 (by decide) (fun h108 => ?_) (fun h108 => ?_)
    · skip
      refine tr_aload_n dX5_isAwake_28 rfl ?_
      refine q_getI dX5_isAwake_29 fl5_131 (kR4 hW0 ta68) c72 ?_
      refine q_iconst dX5_isAwake_32 (by decide) ?_
      intro v109 h110
      refine q_icmp_ne 38 dX5_isAwake_33 (by decide) (fun h111 => ?_) (fun h111 => ?_)
      · skip
        refine tr_aload_n dX5_isAwake_38 rfl ?_
        refine tr_getR dX5_isAwake_39 fl5_43 (kR13 hW0 ta0) d6 ?_
        refine tr_getR dX5_isAwake_42 fl5_134 (kR12 hW0 ta5) d18 ?_
        refine tr_iload_n dX5_isAwake_45 rfl ?_
        refine q_zald dX5_isAwake_46 (kR35 hW0 ta17) (ti_in (nR35 hW0 ta17) (by omega) (by omega)) ?_
        intro v112 c113
        have b114 := iv35 hW0 ta17 c113
        refine q_if_ne 59 dX5_isAwake_47 (by decide) (fun h115 => ?_) (fun h115 => ?_)
        · skip
          refine q_iconst dX5_isAwake_59 (by decide) ?_
          intro v116 h117
          refine tr_goto 64 dX5_isAwake_60 (by decide) ?_
          exact tr_zret hZ dX5_isAwake_64 rfl (ti_b01 (by omega) (by omega)) (by decide) (by decide) ⟨v116, rfl, rfl, rfl, rfl, rfl, rfl, rfl, (by omega), (by have ye := hA66.2.1.1 _ d18 x2.toInt.toNat (by omega); rw [show I0 a17 x2.toInt.toNat = v112 from c113, show ((x2.toInt.toNat : Nat) : Int) = x2.toInt by omega] at ye; unfold awZ; repeat' (first | omega | split)), trivial⟩
        · skip
          refine tr_aload_n dX5_isAwake_50 rfl ?_
          refine tr_iload_n dX5_isAwake_51 rfl ?_
          refine tr_iload_n dX5_isAwake_52 rfl ?_
          refine q_callVi hE (M' := mX5_isCalled) (as := [_, _]) dX5_isAwake_53 lk5_138 inX5_isCalled seX5_isCalled myX5_isCalled (by decide) ⟨by decide, by decide⟩ rfl (kR13 hW0 ta0) (Nat.le_of_ble_eq_true rfl) rfl rfl (by decide) (by decide) (fk_X5_isCalled hW0 (gZ) ta0 (by omega) (by omega) hP hG) ?_
          rintro v123 cn' K' N' I118 R119 L120 ⟨rfl, rfl, rfl, rfl, rfl, rfl, h124, rp125, -⟩
          refine q_if_eq 63 dX5_isAwake_56 (by decide) (fun h126 => ?_) (fun h126 => ?_)
          · skip
            refine q_iconst dX5_isAwake_63 (by decide) ?_
            intro v127 h128
            exact tr_zret hZ dX5_isAwake_64 rfl (ti_b01 (by omega) (by omega)) (by decide) (by decide) ⟨v127, rfl, rfl, rfl, rfl, rfl, rfl, rfl, (by omega), (by have ye := hA66.2.1.1 _ d18 x2.toInt.toNat (by omega); rw [show I0 a17 x2.toInt.toNat = v112 from c113, show ((x2.toInt.toNat : Nat) : Int) = x2.toInt by omega] at ye; have yc := rp125; rw [show x1.toInt = ((x1.toInt.toNat : Nat) : Int) by omega] at yc; unfold awZ; repeat' (first | omega | split)), trivial⟩
          · skip
            refine q_iconst dX5_isAwake_59 (by decide) ?_
            intro v129 h130
            refine tr_goto 64 dX5_isAwake_60 (by decide) ?_
            exact tr_zret hZ dX5_isAwake_64 rfl (ti_b01 (by omega) (by omega)) (by decide) (by decide) ⟨v129, rfl, rfl, rfl, rfl, rfl, rfl, rfl, (by omega), (by have ye := hA66.2.1.1 _ d18 x2.toInt.toNat (by omega); rw [show I0 a17 x2.toInt.toNat = v112 from c113, show ((x2.toInt.toNat : Nat) : Int) = x2.toInt by omega] at ye; have yc := rp125; rw [show x1.toInt = ((x1.toInt.toNat : Nat) : Int) by omega] at yc; unfold awZ; repeat' (first | omega | split)), trivial⟩
      · skip
        refine q_iconst dX5_isAwake_36 (by decide) ?_
        intro v131 h132
        exact tr_zret hZ dX5_isAwake_37 rfl (ti_b01 (by omega) (by omega)) (by decide) (by decide) ⟨v131, rfl, rfl, rfl, rfl, rfl, rfl, rfl, (by omega), (by unfold awZ; repeat' (first | omega | split)), trivial⟩
    · skip
      refine q_iconst dX5_isAwake_26 (by decide) ?_
      intro v133 h134
      exact tr_zret hZ dX5_isAwake_27 rfl (ti_b01 (by omega) (by omega)) (by decide) (by decide) ⟨v133, rfl, rfl, rfl, rfl, rfl, rfl, rfl, (by omega), (by unfold awZ; repeat' (first | omega | split)), trivial⟩
def wik_X5_turnSome : List Nat := [2879, 3199, 3263, 3327, 3391]
def wrk_X5_turnSome : List Nat := []
set_option maxHeartbeats 4000000 in
theorem fk_X5_turnSome {l : Launch} {T : Nat → Nat} {cn : Nat} {K N : Nat → Nat} {I0 : cz_I} {R0 : cz_R} {L0 : cz_L} {d : Int} (hW0 : Wf T cn K N I0 R0 d) (gZ : cz_N) (gb : Nat → Int) {a0 : Nat} (ta0 : T a0 = 13) {x1 : Int32} (hx1 : 0 ≤ x1.toInt ∧ x1.toInt ≤ 4) {x2 : Int32} (hx2 : 0 ≤ x2.toInt ∧ x2.toInt ≤ 239) {x3 : Int32} (hx3 : 0 ≤ x3.toInt ∧ x3.toInt ≤ 15) {x4 : Int32} (hx4 : 0 ≤ x4.toInt ∧ x4.toInt ≤ 255) (hP : NgP I0 R0 a0 gZ) (hG : GdN gZ) (hU : ∀ h : Nat, (h : Int) < nzc gZ 1 → bt x3.toInt (h : Int) = if bt (nzT gZ (14 + x1.toInt.toNat) 5) (h : Int) = 1 ∧ noZ gZ x1.toInt.toNat (h : Int) x2.toInt = 1 then 1 else 0) (hB : B8 x4 (fun k => if (k : Int) < nzc gZ 3 ∧ ¬ gb k = -2 then 1 else 0)) (hH : ∀ r, R0 a0 3 = some r → Nib (I0 r x2.toInt.toNat) (fun k => if (k : Int) < nzc gZ 3 then gb k else -2)) (pre0 : x1.toInt < (nzc gZ 4)) (pre1 : x2.toInt < (nzc gZ 0)) : ConE l mX5_turnSome [.ref a0, .int x1, .int x2, .int x3, .int x4] cn K N I0 R0 L0 (ca_i (fun v cn' K' N' I' R' L' => cn = cn' ∧ K = K' ∧ N = N' ∧ R0 = R' ∧ L0 = L' ∧ St T cn K N d wik_X5_turnSome wrk_X5_turnSome I0 R0 I' R0 ∧ (B8 v (fun k => (if (k : Int) < nzc gZ 3 ∧ tqG gb (nzT gZ (14 + x1.toInt.toNat) 3) (elZ gZ x1.toInt.toNat x2.toInt) k = 1 then 1 else 0))) ∧ (∀ r, R0 a0 3 = some r → Nib (I' r x2.toInt.toNat) (fun k => if (k : Int) < nzc gZ 3 then tqB x1.toInt gb (nzT gZ (14 + x1.toInt.toNat) 3) (elZ gZ x1.toInt.toNat x2.toInt) k else -2) ∧ ∀ j, ¬ j = x2.toInt.toNat → I' r j = I0 r j) ∧ (∀ r, R0 a0 8 = some r → RwD I0 I' r x1.toInt.toNat (tqN gb (nzT gZ (14 + x1.toInt.toNat) 3) (elZ gZ x1.toInt.toNat x2.toInt) (nzc gZ 3).toNat) ∧ ∀ j, ¬ j = x1.toInt.toNat → I' r j = I0 r j) ∧ (∀ r, R0 a0 9 = some r → RwD I0 I' r x1.toInt.toNat (cnM (fun k => if tqG gb (nzT gZ (14 + x1.toInt.toNat) 3) (elZ gZ x1.toInt.toNat x2.toInt) k = 1 ∧ nzC gZ (nzT gZ 35 k) x2.toInt = 1 then 1 else 0) (nzc gZ 3).toNat) ∧ ∀ j, ¬ j = x1.toInt.toNat → I' r j = I0 r j) ∧ (∀ r, R0 a0 10 = some r → RwD I0 I' r x1.toInt.toNat (if 0 < (tqN gb (nzT gZ (14 + x1.toInt.toNat) 3) (elZ gZ x1.toInt.toNat x2.toInt) (nzc gZ 3).toNat) then 1 else 0) ∧ ∀ j, ¬ j = x1.toInt.toNat → I' r j = I0 r j) ∧ (∀ r, R0 a0 11 = some r → (I' r x1.toInt.toNat).toInt = (if 0 < (tqN gb (nzT gZ (14 + x1.toInt.toNat) 3) (elZ gZ x1.toInt.toNat x2.toInt) (nzc gZ 3).toNat) then x2.toInt + nzT gZ (14 + x1.toInt.toNat) 4 else (I0 r x1.toInt.toNat).toInt) ∧ ∀ j, ¬ j = x1.toInt.toNat → I' r j = I0 r j) ∧ (FrN R0 a0 T I0 I') ∧ True)) := by
  refine ConE.of (by decide +kernel) rfl (Nat.le_of_ble_eq_true rfl) rfl (fun X hX hZ hE => ?_)
  subst hX
  have hS0 : St T cn K N d wik_X5_turnSome wrk_X5_turnSome I0 R0 I0 R0 := St.rf0 hW0
  have p1 := pre0
  have p2 := pre1
  obtain ⟨a3, d4, ta3⟩ := rf13_0 hW0 ta0
  obtain ⟨v5, c6⟩ : ∃ v, I0 a3 5 = v := ⟨_, rfl⟩
  have b7 := iv2_5 hW0 ta3 c6
  obtain ⟨a8, d9, ta8⟩ := rf13_1 hW0 ta0
  obtain ⟨a10, d11, ta10⟩ := rf2_2 hW0 ta3
  obtain ⟨a12, d13, ta12⟩ := rf2_6 hW0 ta3
  obtain ⟨a14, d15, ta14⟩ := rf2_8 hW0 ta3
  obtain ⟨a16, d17, ta16⟩ := rf2_10 hW0 ta3
  obtain ⟨a18, d19, ta18⟩ := rf2_12 hW0 ta3
  obtain ⟨a20, d21, ta20⟩ := rf12_2 hW0 ta8
  obtain ⟨a22, d23, ta22⟩ := rf12_3 hW0 ta8
  obtain ⟨a24, d25, ta24⟩ := rf12_5 hW0 ta8
  obtain ⟨a26, d27, ta26⟩ := rf12_8 hW0 ta8
  obtain ⟨a28, d29, ta28⟩ := rf12_9 hW0 ta8
  obtain ⟨a30, d31, ta30⟩ := rf12_11 hW0 ta8
  obtain ⟨a32, d33, ta32⟩ := rf13_3 hW0 ta0
  obtain ⟨a34, d35, ta34⟩ := rf13_4 hW0 ta0
  obtain ⟨a36, d37, ta36⟩ := rf13_5 hW0 ta0
  obtain ⟨a38, d39, ta38⟩ := rf13_6 hW0 ta0
  obtain ⟨a40, d41, ta40⟩ := rf13_7 hW0 ta0
  obtain ⟨a42, d43, ta42⟩ := rf13_8 hW0 ta0
  obtain ⟨a44, d45, ta44⟩ := rf13_9 hW0 ta0
  obtain ⟨a46, d47, ta46⟩ := rf13_10 hW0 ta0
  obtain ⟨a48, d49, ta48⟩ := rf13_11 hW0 ta0
  obtain ⟨v50, c51⟩ : ∃ v, I0 a3 0 = v := ⟨_, rfl⟩
  have b52 := iv2_0 hW0 ta3 c51
  obtain ⟨v53, c54⟩ : ∃ v, I0 a3 1 = v := ⟨_, rfl⟩
  have b55 := iv2_1 hW0 ta3 c54
  obtain ⟨v56, c57⟩ : ∃ v, I0 a3 7 = v := ⟨_, rfl⟩
  obtain ⟨v58, c59⟩ : ∃ v, I0 a3 9 = v := ⟨_, rfl⟩
  have b60 := iv2_9 hW0 ta3 c59
  obtain ⟨v61, c62⟩ : ∃ v, I0 a3 11 = v := ⟨_, rfl⟩
  have b63 := iv2_11 hW0 ta3 c62
  obtain ⟨v64, c65⟩ : ∃ v, I0 a0 2 = v := ⟨_, rfl⟩
  have hA66 := hP _ _ d4 d9
  have hc67 := hA66.1.ct
  rw [c51, c54, c6, c59, c62, c57] at hc67
  have hc67g := hG.cs
  have hc67m := hA66.2.2
  rw [c65] at hc67m
  have hc67n := hG.ms
  refine tr_aload_n dX5_turnSome_0 rfl ?_
  refine tr_getR dX5_turnSome_1 fl5_39 (kR13 hS0.1 ta0) d4 ?_
  refine tr_getR dX5_turnSome_4 fl5_90 (kR2 hS0.1 ta3) d17 ?_
  refine tr_iload_n dX5_turnSome_7 rfl ?_
  obtain ⟨a68, d69, ta68⟩ := rf21 hS0.1 ta16 (j := x1.toNatClampNeg) (ti_lt (by omega) (by omega))
  refine tr_aald dX5_turnSome_8 (kR21 hS0.1 ta16) (by decide) (by decide) (ti_in (nR21 hS0.1 ta16) (by omega) (by omega)) d69 ?_
  refine tr_astore dX5_turnSome_9 (by decide) (by decide) ?_
  obtain ⟨v71, c72⟩ : ∃ v, I0 a68 0 = v := ⟨_, rfl⟩
  obtain ⟨v73, c74⟩ : ∃ v, I0 a68 1 = v := ⟨_, rfl⟩
  obtain ⟨v75, c76⟩ : ∃ v, I0 a68 2 = v := ⟨_, rfl⟩
  obtain ⟨v77, c78⟩ : ∃ v, I0 a68 3 = v := ⟨_, rfl⟩
  obtain ⟨v79, c80⟩ : ∃ v, I0 a68 4 = v := ⟨_, rfl⟩
  obtain ⟨v81, c82⟩ : ∃ v, I0 a68 5 = v := ⟨_, rfl⟩
  have ho70 := hA66.1.tu d17 (k := x1.toInt.toNat) (by omega) (by omega) d69
  rw [c72, c74, c76, c78, c80, c82] at ho70
  have ho70g := hG.tu (t := x1.toInt.toNat) (by omega)
  refine q_iconst dX5_turnSome_11 (by decide) ?_
  intro v83 h84
  refine tr_istore dX5_turnSome_12 (by decide) (by decide) ?_
  refine q_iconst dX5_turnSome_14 (by decide) ?_
  intro v85 h86
  refine tr_istore dX5_turnSome_15 (by decide) (by decide) ?_
  refine q_iconst dX5_turnSome_17 (by decide) ?_
  intro v87 h88
  refine tr_istore dX5_turnSome_18 (by decide) (by decide) ?_
  have lp113 : ∀ (fu : Nat) (ls : Nat → Option Value) (v89 : Int32) (v90 : Int32) (v91 : Int32) (I101 : cz_I), ls 0 = some (.ref a0) → ls 1 = some (.int x1) → ls 2 = some (.int x2) → ls 3 = some (.int x3) → ls 4 = some (.int x4) → ls 5 = some (.ref a68) → ls 6 = some (.int v89) → ls 7 = some (.int v90) → ls 8 = some (.int v91) → St T cn K N d wik_X5_turnSome wrk_X5_turnSome I0 R0 I101 R0 → 0 ≤ v91.toInt → v91.toInt ≤ v5.toInt → 0 ≤ v90.toInt → v90.toInt ≤ v91.toInt → (v90.toInt = tqN gb (nzT gZ (14 + x1.toInt.toNat) 3) (elZ gZ x1.toInt.toNat x2.toInt) v91.toInt.toNat) → (B8 v89 (fun k => if (k : Int) < v91.toInt ∧ tqG gb (nzT gZ (14 + x1.toInt.toNat) 3) (elZ gZ x1.toInt.toNat x2.toInt) k = 1 then 1 else 0)) → (Nib (I101 a32 x2.toInt.toNat) (fun k => if (k : Int) < nzc gZ 3 then (if (k : Int) < v91.toInt then tqB x1.toInt gb (nzT gZ (14 + x1.toInt.toNat) 3) (elZ gZ x1.toInt.toNat x2.toInt) k else gb k) else -2) ∧ ∀ j, ¬ j = x2.toInt.toNat → I101 a32 j = I0 a32 j) → (RwD I0 I101 a44 x1.toInt.toNat (cnM (fun k => if tqG gb (nzT gZ (14 + x1.toInt.toNat) 3) (elZ gZ x1.toInt.toNat x2.toInt) k = 1 ∧ nzC gZ (nzT gZ 35 k) x2.toInt = 1 then 1 else 0) v91.toInt.toNat) ∧ ∀ j, ¬ j = x1.toInt.toNat → I101 a44 j = I0 a44 j) → ((∀ j, I101 a42 j = I0 a42 j) ∧ (∀ j, I101 a46 j = I0 a46 j) ∧ (∀ j, I101 a48 j = I0 a48 j)) → (FrN R0 a0 T I0 I101) → (-v91.toInt + 2147483647).toNat < fu → Tr X mX5_turnSome 20 ls [] cn K N I101 R0 L0 0 0 := by
    intro fu
    induction fu with
    | zero => intros; rename_i hz; exact absurd hz (Nat.not_lt_zero _)
    | succ fu ih113 =>
      intro ls v89 v90 v91 I101 hl92 hl93 hl94 hl95 hl96 hl97 hl98 hl99 hl100 hS102 g103 g104 g105 g106 rw107 rw108 rw109 rw110 rw111 rw112 hm113
      refine tr_iload dX5_turnSome_20 hl100 ?_
      refine tr_aload_n dX5_turnSome_22 hl92 ?_
      refine tr_getR dX5_turnSome_23 fl5_39 (kR13 hS102.1 ta0) d4 ?_
      refine q_getI dX5_turnSome_26 fl5_107 (kR2 hS102.1 ta3) ((hS102.cell ta3 (by decide +kernel)).trans c6) ?_
      refine q_icmp_ge 136 dX5_turnSome_29 (by decide) (fun h115 => ?_) (fun h115 => ?_)
      · skip
        have hE116 := TSen (c3 := nzc gZ 3) rw107 (by omega) (by omega) (by omega)
        have hE116n := hE116.1
        refine tr_iload dX5_turnSome_136 hl99 ?_
        refine q_if_le 175 dX5_turnSome_138 (by decide) (fun h117 => ?_) (fun h117 => ?_)
        · skip
          refine tr_iload dX5_turnSome_175 hl98 ?_
          exact tr_iret hZ dX5_turnSome_177 rfl (by decide) (by decide) ⟨v89, rfl, rfl, rfl, rfl, rfl, rfl, hS102, (TS2e rw108 (by omega) hE116.2), (fun r hr => by obtain rfl := Option.some.inj (d33.symm.trans hr); exact ⟨by rw [show I101 a32 x2.toInt.toNat = _ from rfl]; exact TS3e rw109.1 hE116.2, fun j hj => Eq.trans rfl (rw109.2 j hj)⟩), (fun r hr => by obtain rfl := Option.some.inj (d43.symm.trans hr); exact ⟨RwD.z (Eq.trans rfl (rw111.1 _)) (by omega), fun j hj => Eq.trans rfl (rw111.1 j)⟩), (fun r hr => by obtain rfl := Option.some.inj (d45.symm.trans hr); exact ⟨(RwD.kp rw110.1 rfl).cg (TS4e (by omega) (by omega) (fun k k1 k2 => if_neg (fun w => by have z := hE116.2 k k1 k2; omega))), fun j hj => Eq.trans rfl (rw110.2 j hj)⟩), (fun r hr => by obtain rfl := Option.some.inj (d47.symm.trans hr); exact ⟨RwD.z (Eq.trans rfl (rw111.2.1 _)) (by rw [if_neg (by omega)]), fun j hj => Eq.trans rfl (rw111.2.1 j)⟩), (fun r hr => by obtain rfl := Option.some.inj (d49.symm.trans hr); exact ⟨by rw [if_neg (by omega), show I101 a48 x1.toInt.toNat = _ from Eq.trans rfl (rw111.2.2 _)], fun j hj => Eq.trans rfl (rw111.2.2 j)⟩), rw112, trivial⟩
        · skip
          refine tr_aload_n dX5_turnSome_141 hl92 ?_
          refine tr_getR dX5_turnSome_142 fl5_27 (kR13 hS102.1 ta0) d43 ?_
          refine tr_iload_n dX5_turnSome_145 hl93 ?_
          refine tr_dup2 dX5_turnSome_146 rfl rfl ?_
          refine q_iald dX5_turnSome_147 (kR49 hS102.1 ta42) (ti_in (nR49 hS102.1 ta42) (by omega) (by omega)) ?_
          intro v118 c119
          refine tr_iload dX5_turnSome_148 hl99 ?_
          refine tr_iadd dX5_turnSome_150 ?_
          obtain ⟨v120, lx121⟩ : ∃ z, z = v118 + v90 := ⟨_, rfl⟩
          rw [← lx121]
          refine q_iast dX5_turnSome_151 (kR49 hS102.1 ta42) (ti_in (nR49 hS102.1 ta42) (by omega) (by omega)) hS102 ta42 (iokF rfl) rfl (by rfl) ?_
          intro I122 hS123 e125 f124
          refine tr_aload_n dX5_turnSome_152 hl92 ?_
          refine tr_getR dX5_turnSome_153 fl5_33 (kR13 hS123.1 ta0) d47 ?_
          refine tr_iload_n dX5_turnSome_156 hl93 ?_
          refine tr_dup2 dX5_turnSome_157 rfl rfl ?_
          refine q_iald dX5_turnSome_158 (kR51 hS123.1 ta46) (ti_in (nR51 hS123.1 ta46) (by omega) (by omega)) ?_
          intro v126 c127
          refine q_iconst dX5_turnSome_159 (by decide) ?_
          intro v128 h129
          have lx130 : v128 = (1 : Int32) := Int32.toInt_inj.mp (h129.trans rfl)
          refine tr_iadd dX5_turnSome_160 ?_
          obtain ⟨v131, lx132⟩ : ∃ z, z = v126 + v128 := ⟨_, rfl⟩
          rw [← lx132]
          refine q_iast dX5_turnSome_161 (kR51 hS123.1 ta46) (ti_in (nR51 hS123.1 ta46) (by omega) (by omega)) hS123 ta46 (iokF rfl) rfl (by rfl) ?_
          intro I133 hS134 e136 f135
          refine tr_aload_n dX5_turnSome_162 hl92 ?_
          refine tr_getR dX5_turnSome_163 fl5_36 (kR13 hS134.1 ta0) d49 ?_
          refine tr_iload_n dX5_turnSome_166 hl93 ?_
          refine tr_iload_n dX5_turnSome_167 hl94 ?_
          refine tr_aload dX5_turnSome_168 hl97 ?_
          refine q_getI dX5_turnSome_170 fl5_118 (kR4 hS134.1 ta68) ((hS134.cell ta68 (by decide +kernel)).trans c80) ?_
          refine q_iaddE dX5_turnSome_173 (by intros; omega) ?_
          intro v137 h138
          refine q_iast dX5_turnSome_174 (kR52 hS134.1 ta48) (ti_in (nR52 hS134.1 ta48) (by omega) (by omega)) hS134 ta48 (iokF rfl) rfl (by rfl) ?_
          intro I139 hS140 e142 f141
          refine tr_iload dX5_turnSome_175 hl98 ?_
          exact tr_iret hZ dX5_turnSome_177 rfl (by decide) (by decide) ⟨v89, rfl, rfl, rfl, rfl, rfl, rfl, hS140, (TS2e rw108 (by omega) hE116.2), (fun r hr => by obtain rfl := Option.some.inj (d33.symm.trans hr); exact ⟨by rw [show I139 a32 x2.toInt.toNat = _ from ((f141 _ _ (fun q => by have z := ta32; rw [q.1, ta48] at z; exact absurd z (by decide))).trans ((f135 _ _ (fun q => by have z := ta32; rw [q.1, ta46] at z; exact absurd z (by decide))).trans (f124 _ _ (fun q => by have z := ta32; rw [q.1, ta42] at z; exact absurd z (by decide)))))]; exact TS3e rw109.1 hE116.2, fun j hj => Eq.trans ((f141 _ _ (fun q => by have z := ta32; rw [q.1, ta48] at z; exact absurd z (by decide))).trans ((f135 _ _ (fun q => by have z := ta32; rw [q.1, ta46] at z; exact absurd z (by decide))).trans (f124 _ _ (fun q => by have z := ta32; rw [q.1, ta42] at z; exact absurd z (by decide))))) (rw109.2 j hj)⟩), (fun r hr => by obtain rfl := Option.some.inj (d43.symm.trans hr); exact ⟨RwD.ad (A := v90.toInt) (RwD.z (Eq.trans rfl (rw111.1 _)) rfl) c119 lx121 (Eq.trans ((f141 _ _ (fun q => by have z := ta42; rw [q.1, ta48] at z; exact absurd z (by decide))).trans (f135 _ _ (fun q => by have z := ta42; rw [q.1, ta46] at z; exact absurd z (by decide)))) e125) rfl (by omega) (by omega) (by omega), fun j hj => Eq.trans ((f141 _ _ (fun q => by have z := ta42; rw [q.1, ta48] at z; exact absurd z (by decide))).trans ((f135 _ _ (fun q => by have z := ta42; rw [q.1, ta46] at z; exact absurd z (by decide))).trans (f124 _ _ (fun q => hj q.2)))) (rw111.1 j)⟩), (fun r hr => by obtain rfl := Option.some.inj (d45.symm.trans hr); exact ⟨(RwD.kp rw110.1 ((f141 _ _ (fun q => by have z := ta44; rw [q.1, ta48] at z; exact absurd z (by decide))).trans ((f135 _ _ (fun q => by have z := ta44; rw [q.1, ta46] at z; exact absurd z (by decide))).trans (f124 _ _ (fun q => by have z := ta44; rw [q.1, ta42] at z; exact absurd z (by decide)))))).cg (TS4e (by omega) (by omega) (fun k k1 k2 => if_neg (fun w => by have z := hE116.2 k k1 k2; omega))), fun j hj => Eq.trans ((f141 _ _ (fun q => by have z := ta44; rw [q.1, ta48] at z; exact absurd z (by decide))).trans ((f135 _ _ (fun q => by have z := ta44; rw [q.1, ta46] at z; exact absurd z (by decide))).trans (f124 _ _ (fun q => by have z := ta44; rw [q.1, ta42] at z; exact absurd z (by decide))))) (rw110.2 j hj)⟩), (fun r hr => by obtain rfl := Option.some.inj (d47.symm.trans hr); exact ⟨RwD.ad (A := v128.toInt) (RwD.z (Eq.trans (f124 _ _ (fun q => by have z := ta46; rw [q.1, ta42] at z; exact absurd z (by decide))) (rw111.2.1 _)) rfl) c127 lx132 (Eq.trans (f141 _ _ (fun q => by have z := ta46; rw [q.1, ta48] at z; exact absurd z (by decide))) e136) rfl (by rw [if_pos (by omega)]; omega) (by omega) (by omega), fun j hj => Eq.trans ((f141 _ _ (fun q => by have z := ta46; rw [q.1, ta48] at z; exact absurd z (by decide))).trans ((f135 _ _ (fun q => hj q.2)).trans (f124 _ _ (fun q => by have z := ta46; rw [q.1, ta42] at z; exact absurd z (by decide))))) (rw111.2.1 j)⟩), (fun r hr => by obtain rfl := Option.some.inj (d49.symm.trans hr); exact ⟨by rw [if_pos (by omega), show I139 a48 x1.toInt.toNat = v137 from e142]; omega, fun j hj => Eq.trans ((f141 _ _ (fun q => hj q.2)).trans ((f135 _ _ (fun q => by have z := ta48; rw [q.1, ta46] at z; exact absurd z (by decide))).trans (f124 _ _ (fun q => by have z := ta48; rw [q.1, ta42] at z; exact absurd z (by decide))))) (rw111.2.2 j)⟩), (((rw112.pu f124 (s := 8) (by omega) (by omega) d43 ta42 (by decide)).pu f135 (s := 10) (by omega) (by omega) d47 ta46 (by decide)).pu f141 (s := 11) (by omega) (by omega) d49 ta48 (by decide)), trivial⟩
      · skip
        refine tr_iload dX5_turnSome_32 hl99 ?_
        refine tr_aload dX5_turnSome_34 hl97 ?_
        refine q_getI dX5_turnSome_36 fl5_110 (kR4 hS102.1 ta68) ((hS102.cell ta68 (by decide +kernel)).trans c78) ?_
        refine q_icmp_ge 136 dX5_turnSome_39 (by decide) (fun h143 => ?_) (fun h143 => ?_)
        · skip
          have hE144 := TSen (c3 := nzc gZ 3) rw107 (by omega) (by omega) (by omega)
          have hE144n := hE144.1
          refine tr_iload dX5_turnSome_136 hl99 ?_
          refine q_if_le 175 dX5_turnSome_138 (by decide) (fun h145 => ?_) (fun h145 => ?_)
          · skip
            exfalso; omega
          · skip
            refine tr_aload_n dX5_turnSome_141 hl92 ?_
            refine tr_getR dX5_turnSome_142 fl5_27 (kR13 hS102.1 ta0) d43 ?_
            refine tr_iload_n dX5_turnSome_145 hl93 ?_
            refine tr_dup2 dX5_turnSome_146 rfl rfl ?_
            refine q_iald dX5_turnSome_147 (kR49 hS102.1 ta42) (ti_in (nR49 hS102.1 ta42) (by omega) (by omega)) ?_
            intro v146 c147
            refine tr_iload dX5_turnSome_148 hl99 ?_
            refine tr_iadd dX5_turnSome_150 ?_
            obtain ⟨v148, lx149⟩ : ∃ z, z = v146 + v90 := ⟨_, rfl⟩
            rw [← lx149]
            refine q_iast dX5_turnSome_151 (kR49 hS102.1 ta42) (ti_in (nR49 hS102.1 ta42) (by omega) (by omega)) hS102 ta42 (iokF rfl) rfl (by rfl) ?_
            intro I150 hS151 e153 f152
            refine tr_aload_n dX5_turnSome_152 hl92 ?_
            refine tr_getR dX5_turnSome_153 fl5_33 (kR13 hS151.1 ta0) d47 ?_
            refine tr_iload_n dX5_turnSome_156 hl93 ?_
            refine tr_dup2 dX5_turnSome_157 rfl rfl ?_
            refine q_iald dX5_turnSome_158 (kR51 hS151.1 ta46) (ti_in (nR51 hS151.1 ta46) (by omega) (by omega)) ?_
            intro v154 c155
            refine q_iconst dX5_turnSome_159 (by decide) ?_
            intro v156 h157
            have lx158 : v156 = (1 : Int32) := Int32.toInt_inj.mp (h157.trans rfl)
            refine tr_iadd dX5_turnSome_160 ?_
            obtain ⟨v159, lx160⟩ : ∃ z, z = v154 + v156 := ⟨_, rfl⟩
            rw [← lx160]
            refine q_iast dX5_turnSome_161 (kR51 hS151.1 ta46) (ti_in (nR51 hS151.1 ta46) (by omega) (by omega)) hS151 ta46 (iokF rfl) rfl (by rfl) ?_
            intro I161 hS162 e164 f163
            refine tr_aload_n dX5_turnSome_162 hl92 ?_
            refine tr_getR dX5_turnSome_163 fl5_36 (kR13 hS162.1 ta0) d49 ?_
            refine tr_iload_n dX5_turnSome_166 hl93 ?_
            refine tr_iload_n dX5_turnSome_167 hl94 ?_
            refine tr_aload dX5_turnSome_168 hl97 ?_
            refine q_getI dX5_turnSome_170 fl5_118 (kR4 hS162.1 ta68) ((hS162.cell ta68 (by decide +kernel)).trans c80) ?_
            refine q_iaddE dX5_turnSome_173 (by intros; omega) ?_
            intro v165 h166
            refine q_iast dX5_turnSome_174 (kR52 hS162.1 ta48) (ti_in (nR52 hS162.1 ta48) (by omega) (by omega)) hS162 ta48 (iokF rfl) rfl (by rfl) ?_
            intro I167 hS168 e170 f169
            refine tr_iload dX5_turnSome_175 hl98 ?_
            exact tr_iret hZ dX5_turnSome_177 rfl (by decide) (by decide) ⟨v89, rfl, rfl, rfl, rfl, rfl, rfl, hS168, (TS2e rw108 (by omega) hE144.2), (fun r hr => by obtain rfl := Option.some.inj (d33.symm.trans hr); exact ⟨by rw [show I167 a32 x2.toInt.toNat = _ from ((f169 _ _ (fun q => by have z := ta32; rw [q.1, ta48] at z; exact absurd z (by decide))).trans ((f163 _ _ (fun q => by have z := ta32; rw [q.1, ta46] at z; exact absurd z (by decide))).trans (f152 _ _ (fun q => by have z := ta32; rw [q.1, ta42] at z; exact absurd z (by decide)))))]; exact TS3e rw109.1 hE144.2, fun j hj => Eq.trans ((f169 _ _ (fun q => by have z := ta32; rw [q.1, ta48] at z; exact absurd z (by decide))).trans ((f163 _ _ (fun q => by have z := ta32; rw [q.1, ta46] at z; exact absurd z (by decide))).trans (f152 _ _ (fun q => by have z := ta32; rw [q.1, ta42] at z; exact absurd z (by decide))))) (rw109.2 j hj)⟩), (fun r hr => by obtain rfl := Option.some.inj (d43.symm.trans hr); exact ⟨RwD.ad (A := v90.toInt) (RwD.z (Eq.trans rfl (rw111.1 _)) rfl) c147 lx149 (Eq.trans ((f169 _ _ (fun q => by have z := ta42; rw [q.1, ta48] at z; exact absurd z (by decide))).trans (f163 _ _ (fun q => by have z := ta42; rw [q.1, ta46] at z; exact absurd z (by decide)))) e153) rfl (by omega) (by omega) (by omega), fun j hj => Eq.trans ((f169 _ _ (fun q => by have z := ta42; rw [q.1, ta48] at z; exact absurd z (by decide))).trans ((f163 _ _ (fun q => by have z := ta42; rw [q.1, ta46] at z; exact absurd z (by decide))).trans (f152 _ _ (fun q => hj q.2)))) (rw111.1 j)⟩), (fun r hr => by obtain rfl := Option.some.inj (d45.symm.trans hr); exact ⟨(RwD.kp rw110.1 ((f169 _ _ (fun q => by have z := ta44; rw [q.1, ta48] at z; exact absurd z (by decide))).trans ((f163 _ _ (fun q => by have z := ta44; rw [q.1, ta46] at z; exact absurd z (by decide))).trans (f152 _ _ (fun q => by have z := ta44; rw [q.1, ta42] at z; exact absurd z (by decide)))))).cg (TS4e (by omega) (by omega) (fun k k1 k2 => if_neg (fun w => by have z := hE144.2 k k1 k2; omega))), fun j hj => Eq.trans ((f169 _ _ (fun q => by have z := ta44; rw [q.1, ta48] at z; exact absurd z (by decide))).trans ((f163 _ _ (fun q => by have z := ta44; rw [q.1, ta46] at z; exact absurd z (by decide))).trans (f152 _ _ (fun q => by have z := ta44; rw [q.1, ta42] at z; exact absurd z (by decide))))) (rw110.2 j hj)⟩), (fun r hr => by obtain rfl := Option.some.inj (d47.symm.trans hr); exact ⟨RwD.ad (A := v156.toInt) (RwD.z (Eq.trans (f152 _ _ (fun q => by have z := ta46; rw [q.1, ta42] at z; exact absurd z (by decide))) (rw111.2.1 _)) rfl) c155 lx160 (Eq.trans (f169 _ _ (fun q => by have z := ta46; rw [q.1, ta48] at z; exact absurd z (by decide))) e164) rfl (by rw [if_pos (by omega)]; omega) (by omega) (by omega), fun j hj => Eq.trans ((f169 _ _ (fun q => by have z := ta46; rw [q.1, ta48] at z; exact absurd z (by decide))).trans ((f163 _ _ (fun q => hj q.2)).trans (f152 _ _ (fun q => by have z := ta46; rw [q.1, ta42] at z; exact absurd z (by decide))))) (rw111.2.1 j)⟩), (fun r hr => by obtain rfl := Option.some.inj (d49.symm.trans hr); exact ⟨by rw [if_pos (by omega), show I167 a48 x1.toInt.toNat = v165 from e170]; omega, fun j hj => Eq.trans ((f169 _ _ (fun q => hj q.2)).trans ((f163 _ _ (fun q => by have z := ta48; rw [q.1, ta46] at z; exact absurd z (by decide))).trans (f152 _ _ (fun q => by have z := ta48; rw [q.1, ta42] at z; exact absurd z (by decide))))) (rw111.2.2 j)⟩), (((rw112.pu f152 (s := 8) (by omega) (by omega) d43 ta42 (by decide)).pu f163 (s := 10) (by omega) (by omega) d47 ta46 (by decide)).pu f169 (s := 11) (by omega) (by omega) d49 ta48 (by decide)), trivial⟩
        · skip
          have hb171 : (gb v91.toInt.toNat = -2 ∧ bt x4.toInt v91.toInt = 0) ∨ (¬ gb v91.toInt.toNat = -2 ∧ bt x4.toInt v91.toInt = 1) := by have z : bt _ _ = (if _ then _ else _) := hB.2.2 v91.toInt.toNat (by omega); rw [show ((v91.toInt.toNat : Nat) : Int) = v91.toInt by omega] at z; by_cases y : gb v91.toInt.toNat = -2; (rw [if_neg (fun w => w.2 y)] at z; exact Or.inl ⟨y, z⟩); (rw [if_pos ⟨by omega, y⟩] at z; exact Or.inr ⟨y, z⟩)
          refine tr_iload dX5_turnSome_42 hl96 ?_
          refine tr_iload dX5_turnSome_44 hl100 ?_
          refine q_callSNi hE (M' := mX10_bit) (as := [_, _]) dX5_turnSome_46 lk5_84 inX10_bit myX10_bit ⟨by decide, by decide⟩ rfl (Nat.le_of_ble_eq_true rfl) rfl rfl (by decide) (by decide) (f_X10_bitX   (by omega) (by omega)) ?_
          rintro v177 cn' K' N' I172 R173 L174 ⟨rfl, rfl, rfl, rfl, rfl, rfl, p178, -⟩
          have btv177 := bt_01 x4.toInt v91.toInt
          refine q_if_ne 130 dX5_turnSome_49 (by decide) (fun h179 => ?_) (fun h179 => ?_)
          · skip
            refine q_iincE dX5_turnSome_130 hl100 (by decide) (by decide) (by intros; omega) ?_
            intro v180 h181
            refine tr_goto 20 dX5_turnSome_133 (by decide) ?_
            have tg182 : tqG gb (nzT gZ (14 + x1.toInt.toNat) 3) (elZ gZ x1.toInt.toNat x2.toInt) v91.toInt.toNat = 0 := tqG_n (fun z => by omega)
            exact ih113 _ v89 v90 v180 I101 hl92 hl93 hl94 hl95 hl96 hl97 hl98 hl99 rfl hS102 (by omega) (by omega) (by omega) (by omega) (TS1 rw107 (by omega) (by omega) (by rw [tg182]; omega)) (TS2n rw108 (by omega) (by omega) tg182) ⟨TS3n rw109.1 (by omega) (by omega) (tqB_n tg182), rw109.2⟩ ⟨RwS.no rw110.1 (by omega) (by omega) (if_neg (fun w => by omega)), rw110.2⟩ ⟨fun j => Eq.trans rfl (rw111.1 j), fun j => Eq.trans rfl (rw111.2.1 j), fun j => Eq.trans rfl (rw111.2.2 j)⟩ rw112 (by omega)
          · skip
            refine tr_iload_n dX5_turnSome_52 hl95 ?_
            refine tr_aload_n dX5_turnSome_53 hl92 ?_
            refine tr_getR dX5_turnSome_54 fl5_39 (kR13 hS102.1 ta0) d4 ?_
            refine tr_getR dX5_turnSome_57 fl5_112 (kR2 hS102.1 ta3) d13 ?_
            refine tr_iload dX5_turnSome_60 hl100 ?_
            refine q_iald dX5_turnSome_62 (kR20 hS102.1 ta12) (ti_in (nR20 hS102.1 ta12) (by omega) (by omega)) ?_
            intro v183 c184
            have hh185 : v183.toInt = nzT gZ 35 v91.toInt.toNat := by rw [← show I0 a12 v91.toInt.toNat = v183 from (hS102.cell ta12 (wm_no (by decide +kernel))).symm.trans c184]; exact hA66.1.hu d13 (by omega)
            have hh185g := hG.ch (k := v91.toInt.toNat) (by omega)
            have hh185e : elZ gZ x1.toInt.toNat x2.toInt v91.toInt.toNat = bt x3.toInt v183.toInt := by have z := hU v183.toInt.toNat (by omega); rw [show ((v183.toInt.toNat : Nat) : Int) = v183.toInt by omega, hh185] at z; unfold elZ; rw [hh185]; exact z.symm
            refine q_callSNi hE (M' := mX10_bit) (as := [_, _]) dX5_turnSome_63 lk5_84 inX10_bit myX10_bit ⟨by decide, by decide⟩ rfl (Nat.le_of_ble_eq_true rfl) rfl rfl (by decide) (by decide) (f_X10_bitX   (by omega) (by omega)) ?_
            rintro v191 cn' K' N' I186 R187 L188 ⟨rfl, rfl, rfl, rfl, rfl, rfl, p192, -⟩
            have btv191 := bt_01 x3.toInt v183.toInt
            refine q_iconst dX5_turnSome_66 (by decide) ?_
            intro v193 h194
            refine q_icmp_ne 130 dX5_turnSome_67 (by decide) (fun h195 => ?_) (fun h195 => ?_)
            · skip
              refine q_iincE dX5_turnSome_130 hl100 (by decide) (by decide) (by intros; omega) ?_
              intro v196 h197
              refine tr_goto 20 dX5_turnSome_133 (by decide) ?_
              have tg198 : tqG gb (nzT gZ (14 + x1.toInt.toNat) 3) (elZ gZ x1.toInt.toNat x2.toInt) v91.toInt.toNat = 0 := tqG_n (fun z => by omega)
              exact ih113 _ v89 v90 v196 I101 hl92 hl93 hl94 hl95 hl96 hl97 hl98 hl99 rfl hS102 (by omega) (by omega) (by omega) (by omega) (TS1 rw107 (by omega) (by omega) (by rw [tg198]; omega)) (TS2n rw108 (by omega) (by omega) tg198) ⟨TS3n rw109.1 (by omega) (by omega) (tqB_n tg198), rw109.2⟩ ⟨RwS.no rw110.1 (by omega) (by omega) (if_neg (fun w => by omega)), rw110.2⟩ ⟨fun j => Eq.trans rfl (rw111.1 j), fun j => Eq.trans rfl (rw111.2.1 j), fun j => Eq.trans rfl (rw111.2.2 j)⟩ rw112 (by omega)
            · skip
              refine tr_iload dX5_turnSome_70 hl98 ?_
              refine q_iconst dX5_turnSome_72 (by decide) ?_
              intro v199 h200
              refine tr_iload dX5_turnSome_73 hl100 ?_
              refine tr_ishl dX5_turnSome_75 ?_
              obtain ⟨v201, lx202⟩ : ∃ z, z = v199 <<< (v91 &&& 31) := ⟨_, rfl⟩
              rw [← lx202]
              refine tr_ior dX5_turnSome_76 ?_
              obtain ⟨v203, lx204⟩ : ∃ z, z = v89 ||| v201 := ⟨_, rfl⟩
              rw [← lx204]
              refine tr_istore dX5_turnSome_77 (by decide) (by decide) ?_
              refine q_iincE dX5_turnSome_79 hl99 (by decide) (by decide) (by intros; omega) ?_
              intro v205 h206
              refine tr_aload_n dX5_turnSome_82 hl92 ?_
              refine tr_getR dX5_turnSome_83 fl5_9 (kR13 hS102.1 ta0) d33 ?_
              refine tr_iload_n dX5_turnSome_86 hl94 ?_
              refine tr_dup2 dX5_turnSome_87 rfl rfl ?_
              refine q_iald dX5_turnSome_88 (kR44 hS102.1 ta32) (ti_in (nR44 hS102.1 ta32) (by omega) (by omega)) ?_
              intro v207 c208
              refine tr_iload_n dX5_turnSome_89 hl93 ?_
              refine q_iconst dX5_turnSome_90 (by decide) ?_
              intro v209 h210
              refine q_iaddE dX5_turnSome_91 (by intros; omega) ?_
              intro v211 h212
              refine q_iconst dX5_turnSome_92 (by decide) ?_
              intro v213 h214
              refine tr_iload dX5_turnSome_93 hl100 ?_
              refine q_imulE (c := 4) dX5_turnSome_95 (by omega) (by omega) ?_
              intro v215 h216
              refine tr_ishl dX5_turnSome_96 ?_
              obtain ⟨v217, lx218⟩ : ∃ z, z = v211 <<< (v215 &&& 31) := ⟨_, rfl⟩
              rw [← lx218]
              refine tr_ior dX5_turnSome_97 ?_
              obtain ⟨v219, lx220⟩ : ∃ z, z = v207 ||| v217 := ⟨_, rfl⟩
              rw [← lx220]
              refine q_iast dX5_turnSome_98 (kR44 hS102.1 ta32) (ti_in (nR44 hS102.1 ta32) (by omega) (by omega)) hS102 ta32 (iokF rfl) rfl (by rfl) ?_
              intro I221 hS222 e224 f223
              refine tr_aload_n dX5_turnSome_99 hl92 ?_
              refine tr_getR dX5_turnSome_100 fl5_30 (kR13 hS222.1 ta0) d45 ?_
              refine tr_iload_n dX5_turnSome_103 hl93 ?_
              refine tr_dup2 dX5_turnSome_104 rfl rfl ?_
              refine q_iald dX5_turnSome_105 (kR50 hS222.1 ta44) (ti_in (nR50 hS222.1 ta44) (by omega) (by omega)) ?_
              intro v225 c226
              refine tr_aload_n dX5_turnSome_106 hl92 ?_
              refine tr_getR dX5_turnSome_107 fl5_43 (kR13 hS222.1 ta0) d9 ?_
              refine tr_getR dX5_turnSome_110 fl5_115 (kR12 hS222.1 ta8) d27 ?_
              refine tr_iload_n dX5_turnSome_113 hl94 ?_
              refine q_iald dX5_turnSome_114 (kR41 hS222.1 ta26) (ti_in (nR41 hS222.1 ta26) (by omega) (by omega)) ?_
              intro v227 c228
              have hx229 := hA66.2.1.2.1 _ d27 x2.toInt.toNat (by omega)
              rw [show I0 a26 x2.toInt.toNat = v227 from (hS222.cell ta26 (wm_no (by decide +kernel))).symm.trans c228, show ((x2.toInt.toNat : Nat) : Int) = x2.toInt by omega] at hx229
              have hx229r := And.intro hx229.1 hx229.2.1
              refine tr_aload_n dX5_turnSome_115 hl92 ?_
              refine tr_getR dX5_turnSome_116 fl5_39 (kR13 hS222.1 ta0) d4 ?_
              refine tr_getR dX5_turnSome_119 fl5_112 (kR2 hS222.1 ta3) d13 ?_
              refine tr_iload dX5_turnSome_122 hl100 ?_
              refine q_iald dX5_turnSome_124 (kR20 hS222.1 ta12) (ti_in (nR20 hS222.1 ta12) (by omega) (by omega)) ?_
              intro v230 c231
              have hh232 : v230.toInt = nzT gZ 35 v91.toInt.toNat := by rw [← show I0 a12 v91.toInt.toNat = v230 from (hS222.cell ta12 (wm_no (by decide +kernel))).symm.trans c231]; exact hA66.1.hu d13 (by omega)
              have hh232g := hG.ch (k := v91.toInt.toNat) (by omega)
              refine q_callSNi hE (M' := mX10_bit) (as := [_, _]) dX5_turnSome_125 lk5_84 inX10_bit myX10_bit ⟨by decide, by decide⟩ rfl (Nat.le_of_ble_eq_true rfl) rfl rfl (by decide) (by decide) (f_X10_bitX   (by omega) (by omega)) ?_
              rintro v238 cn' K' N' I233 R234 L235 ⟨rfl, rfl, rfl, rfl, rfl, rfl, p239, -⟩
              have btv238 := bt_01 v227.toInt v230.toInt
              have hy240 : bt v227.toInt v230.toInt = nzC gZ v230.toInt x2.toInt := by have z : bt _ _ = nzC gZ ((v230.toInt.toNat : Nat) : Int) x2.toInt := hx229.2.2 v230.toInt.toNat (by omega); rw [show ((v230.toInt.toNat : Nat) : Int) = v230.toInt by omega] at z; exact z
              have hy240n : nzC gZ v230.toInt x2.toInt = nzC gZ (nzT gZ 35 v91.toInt.toNat) x2.toInt := by rw [hh232]
              refine tr_iadd dX5_turnSome_128 ?_
              obtain ⟨v241, lx242⟩ : ∃ z, z = v225 + v238 := ⟨_, rfl⟩
              rw [← lx242]
              refine q_iast dX5_turnSome_129 (kR50 hS222.1 ta44) (ti_in (nR50 hS222.1 ta44) (by omega) (by omega)) hS222 ta44 (iokF rfl) rfl (by rfl) ?_
              intro I243 hS244 e246 f245
              refine q_iincE dX5_turnSome_130 hl100 (by decide) (by decide) (by intros; omega) ?_
              intro v247 h248
              refine tr_goto 20 dX5_turnSome_133 (by decide) ?_
              have tg249 : tqG gb (nzT gZ (14 + x1.toInt.toNat) 3) (elZ gZ x1.toInt.toNat x2.toInt) v91.toInt.toNat = 1 := tqG_1 (by omega) (by omega) (by omega)
              exact ih113 _ v203 v205 v247 I243 hl92 hl93 hl94 hl95 hl96 hl97 rfl rfl rfl hS244 (by omega) (by omega) (by omega) (by omega) (TS1 rw107 (by omega) (by omega) (by rw [tg249]; omega)) (TS2y rw108 (by omega) (by omega) (by omega) tg249 (by rw [lx204, lx202]) (by omega) (by omega)) ⟨by rw [show I243 a32 x2.toInt.toNat = v219 from (Eq.trans (f245 _ _ (fun q => by have z := ta32; rw [q.1, ta44] at z; exact absurd z (by decide))) e224), lx220, lx218]; exact TS3y (u := x1.toInt) (by have z := rw109.1; rw [show I101 a32 x2.toInt.toNat = v207 from c208] at z; exact z) (by omega) (by omega) (by omega) (by omega) (by omega) (tqB_1 tg249) (by omega) (by omega) (by omega) (by omega), fun j hj => Eq.trans ((f245 _ _ (fun q => by have z := ta32; rw [q.1, ta44] at z; exact absurd z (by decide))).trans (f223 _ _ (fun q => hj q.2))) (rw109.2 j hj)⟩ ⟨RwS.ye (RwD.kp rw110.1 (f223 _ _ (fun q => by have z := ta44; rw [q.1, ta32] at z; exact absurd z (by decide)))) (by omega) (by omega) (by omega) (fun k => if01) c226 lx242 e246 (by have zc := And.intro hy240 hy240n; show v238.toInt = if tqG gb (nzT gZ (14 + x1.toInt.toNat) 3) (elZ gZ x1.toInt.toNat x2.toInt) v91.toInt.toNat = 1 ∧ nzC gZ (nzT gZ 35 v91.toInt.toNat) x2.toInt = 1 then 1 else 0; by_cases z : nzC gZ (nzT gZ 35 v91.toInt.toNat) x2.toInt = 1; (rw [if_pos ⟨tg249, z⟩]; omega); (rw [if_neg (fun w => z w.2)]; omega)), fun j hj => Eq.trans ((f245 _ _ (fun q => hj q.2)).trans (f223 _ _ (fun q => by have z := ta44; rw [q.1, ta32] at z; exact absurd z (by decide)))) (rw110.2 j hj)⟩ ⟨fun j => Eq.trans ((f245 _ _ (fun q => by have z := ta42; rw [q.1, ta44] at z; exact absurd z (by decide))).trans (f223 _ _ (fun q => by have z := ta42; rw [q.1, ta32] at z; exact absurd z (by decide)))) (rw111.1 j), fun j => Eq.trans ((f245 _ _ (fun q => by have z := ta46; rw [q.1, ta44] at z; exact absurd z (by decide))).trans (f223 _ _ (fun q => by have z := ta46; rw [q.1, ta32] at z; exact absurd z (by decide)))) (rw111.2.1 j), fun j => Eq.trans ((f245 _ _ (fun q => by have z := ta48; rw [q.1, ta44] at z; exact absurd z (by decide))).trans (f223 _ _ (fun q => by have z := ta48; rw [q.1, ta32] at z; exact absurd z (by decide)))) (rw111.2.2 j)⟩ ((rw112.pu f223 (s := 3) (by omega) (by omega) d33 ta32 (by decide)).pu f245 (s := 9) (by omega) (by omega) d45 ta44 (by decide)) (by omega)
  exact lp113 _ _ v83 v85 v87 I0 rfl rfl rfl rfl rfl rfl rfl rfl rfl hS0 (by omega) (by omega) (by omega) (by omega) (by rw [show v87.toInt.toNat = 0 by omega]; show _ = (0 : Int); omega) ((B8.z (by omega)).cg (fun k hk => by rw [if_neg (fun w => by omega)])) ⟨(hH _ d33).cg (fun k hk => by by_cases z : (k : Int) < nzc gZ 3; (rw [if_pos z, if_pos z, if_neg (by omega)]); (rw [if_neg z, if_neg z])), fun _ _ => rfl⟩ ⟨RwD.z rfl (by rw [show v87.toInt.toNat = 0 by omega]; rfl), fun _ _ => rfl⟩ ⟨fun _ => rfl, fun _ => rfl, fun _ => rfl⟩ (FrN.rf (R := R0) (n := a0) (T := T)) (Nat.lt_succ_self _)
def wik_X5_turnAll : List Nat := [2879, 3199, 3263, 3327, 3391]
def wrk_X5_turnAll : List Nat := []
set_option maxHeartbeats 4000000 in
theorem fk_X5_turnAll {l : Launch} {T : Nat → Nat} {cn : Nat} {K N : Nat → Nat} {I0 : cz_I} {R0 : cz_R} {L0 : cz_L} {d : Int} (hW0 : Wf T cn K N I0 R0 d) (gZ : cz_N) (gf : Nat → Int) {a0 : Nat} (ta0 : T a0 = 13) {x1 : Int32} (hx1 : 0 ≤ x1.toInt ∧ x1.toInt ≤ 239) {x2 : Int32} (hP : NgP I0 R0 a0 gZ) (hG : GdN gZ) (hF : ∀ r, R0 a0 11 = some r → ∀ t : Nat, (t : Int) < nzc gZ 4 → (I0 r t).toInt = gf t) (hH : ∀ r, R0 a0 3 = some r → Nib (I0 r x1.toInt.toNat) (fun _ => -2)) (pre0 : x1.toInt < (nzc gZ 0)) (pre1 : x2.toInt = (nzW gZ)) (pre2 : 0 ≤ x2.toInt) (pre3 : x2.toInt ≤ 31) : ConE l mX5_turnAll [.ref a0, .int x1, .int x2] cn K N I0 R0 L0 (ca_i (fun v cn' K' N' I' R' L' => cn = cn' ∧ K = K' ∧ N = N' ∧ R0 = R' ∧ L0 = L' ∧ St T cn K N d wik_X5_turnAll wrk_X5_turnAll I0 R0 I' R0 ∧ (B8 v (fun k => if (k : Int) < nzc gZ 3 ∧ ¬ mB gZ x1.toInt gf (nzc gZ 4).toNat k = -2 then 1 else 0)) ∧ (∀ r, R0 a0 3 = some r → Nib (I' r x1.toInt.toNat) (fun k => if (k : Int) < nzc gZ 3 then mB gZ x1.toInt gf (nzc gZ 4).toNat k else -2) ∧ ∀ j, ¬ j = x1.toInt.toNat → I' r j = I0 r j) ∧ (∀ r, R0 a0 8 = some r → ∀ u : Nat, (u : Int) < nzc gZ 4 → RwD I0 I' r u (mK gZ x1.toInt gf u)) ∧ (∀ r, R0 a0 9 = some r → ∀ u : Nat, (u : Int) < nzc gZ 4 → RwD I0 I' r u (mS gZ x1.toInt gf u)) ∧ (∀ r, R0 a0 10 = some r → ∀ u : Nat, (u : Int) < nzc gZ 4 → RwD I0 I' r u ((fun u => if 0 < mK gZ x1.toInt gf u then 1 else 0) u)) ∧ (∀ r, R0 a0 11 = some r → ∀ u : Nat, (u : Int) < nzc gZ 4 → (I' r u).toInt = if 0 < mK gZ x1.toInt gf u then x1.toInt + nzT gZ (14 + u) 4 else gf u) ∧ (FrN R0 a0 T I0 I') ∧ True)) := by
  refine ConE.of (by decide +kernel) rfl (Nat.le_of_ble_eq_true rfl) rfl (fun X hX hZ hE => ?_)
  subst hX
  have hS0 : St T cn K N d wik_X5_turnAll wrk_X5_turnAll I0 R0 I0 R0 := St.rf0 hW0
  have p1 := pre0
  have p2 := pre1
  have p3 := pre2
  have p4 := pre3
  obtain ⟨a5, d6, ta5⟩ := rf13_0 hW0 ta0
  obtain ⟨v7, c8⟩ : ∃ v, I0 a5 9 = v := ⟨_, rfl⟩
  have b9 := iv2_9 hW0 ta5 c8
  obtain ⟨a10, d11, ta10⟩ := rf13_1 hW0 ta0
  obtain ⟨a12, d13, ta12⟩ := rf2_2 hW0 ta5
  obtain ⟨a14, d15, ta14⟩ := rf2_6 hW0 ta5
  obtain ⟨a16, d17, ta16⟩ := rf2_8 hW0 ta5
  obtain ⟨a18, d19, ta18⟩ := rf2_10 hW0 ta5
  obtain ⟨a20, d21, ta20⟩ := rf2_12 hW0 ta5
  obtain ⟨a22, d23, ta22⟩ := rf12_2 hW0 ta10
  obtain ⟨a24, d25, ta24⟩ := rf12_3 hW0 ta10
  obtain ⟨a26, d27, ta26⟩ := rf12_5 hW0 ta10
  obtain ⟨a28, d29, ta28⟩ := rf12_8 hW0 ta10
  obtain ⟨a30, d31, ta30⟩ := rf12_9 hW0 ta10
  obtain ⟨a32, d33, ta32⟩ := rf12_11 hW0 ta10
  obtain ⟨a34, d35, ta34⟩ := rf13_3 hW0 ta0
  obtain ⟨a36, d37, ta36⟩ := rf13_4 hW0 ta0
  obtain ⟨a38, d39, ta38⟩ := rf13_5 hW0 ta0
  obtain ⟨a40, d41, ta40⟩ := rf13_6 hW0 ta0
  obtain ⟨a42, d43, ta42⟩ := rf13_7 hW0 ta0
  obtain ⟨a44, d45, ta44⟩ := rf13_8 hW0 ta0
  obtain ⟨a46, d47, ta46⟩ := rf13_9 hW0 ta0
  obtain ⟨a48, d49, ta48⟩ := rf13_10 hW0 ta0
  obtain ⟨a50, d51, ta50⟩ := rf13_11 hW0 ta0
  obtain ⟨v52, c53⟩ : ∃ v, I0 a5 0 = v := ⟨_, rfl⟩
  have b54 := iv2_0 hW0 ta5 c53
  obtain ⟨v55, c56⟩ : ∃ v, I0 a5 1 = v := ⟨_, rfl⟩
  have b57 := iv2_1 hW0 ta5 c56
  obtain ⟨v58, c59⟩ : ∃ v, I0 a5 5 = v := ⟨_, rfl⟩
  have b60 := iv2_5 hW0 ta5 c59
  obtain ⟨v61, c62⟩ : ∃ v, I0 a5 7 = v := ⟨_, rfl⟩
  obtain ⟨v63, c64⟩ : ∃ v, I0 a5 11 = v := ⟨_, rfl⟩
  have b65 := iv2_11 hW0 ta5 c64
  obtain ⟨v66, c67⟩ : ∃ v, I0 a0 2 = v := ⟨_, rfl⟩
  have hA68 := hP _ _ d6 d11
  have hc69 := hA68.1.ct
  rw [c53, c56, c59, c8, c64, c62] at hc69
  have hc69g := hG.cs
  have hc69m := hA68.2.2
  rw [c67] at hc69m
  have hc69n := hG.ms
  refine q_iconst dX5_turnAll_0 (by decide) ?_
  intro v70 h71
  refine tr_istore_n dX5_turnAll_1 (by decide) (by decide) ?_
  refine q_iconst dX5_turnAll_2 (by decide) ?_
  intro v72 h73
  refine tr_istore dX5_turnAll_3 (by decide) (by decide) ?_
  have lp94 : ∀ (fu : Nat) (ls : Nat → Option Value) (v74 : Int32) (v75 : Int32) (I81 : cz_I), ls 0 = some (.ref a0) → ls 1 = some (.int x1) → ls 2 = some (.int x2) → ls 3 = some (.int v74) → ls 4 = some (.int v75) → St T cn K N d wik_X5_turnAll wrk_X5_turnAll I0 R0 I81 R0 → 0 ≤ v75.toInt → v75.toInt ≤ v7.toInt → 0 ≤ v74.toInt → v74.toInt ≤ 255 → (B8 v74 (fun k => if (k : Int) < nzc gZ 3 ∧ ¬ mB gZ x1.toInt gf v75.toInt.toNat k = -2 then 1 else 0)) → (Nib (I81 a34 x1.toInt.toNat) (fun k => if (k : Int) < nzc gZ 3 then mB gZ x1.toInt gf v75.toInt.toNat k else -2) ∧ ∀ j, ¬ j = x1.toInt.toNat → I81 a34 j = I0 a34 j) → (∀ u : Nat, (u : Int) < nzc gZ 4 → RwD I0 I81 a44 u (if (u : Int) < v75.toInt then mK gZ x1.toInt gf u else 0)) → (∀ u : Nat, (u : Int) < nzc gZ 4 → RwD I0 I81 a46 u (if (u : Int) < v75.toInt then mS gZ x1.toInt gf u else 0)) → (∀ u : Nat, (u : Int) < nzc gZ 4 → RwD I0 I81 a48 u (if (u : Int) < v75.toInt then (fun u => if 0 < mK gZ x1.toInt gf u then 1 else 0) u else 0)) → (∀ u : Nat, (u : Int) < nzc gZ 4 → (I81 a50 u).toInt = if (u : Int) < v75.toInt ∧ 0 < mK gZ x1.toInt gf u then x1.toInt + nzT gZ (14 + u) 4 else gf u) → (FrN R0 a0 T I0 I81) → (-v75.toInt + 2147483647).toNat < fu → Tr X mX5_turnAll 5 ls [] cn K N I81 R0 L0 0 0 := by
    intro fu
    induction fu with
    | zero => intros; rename_i hz; exact absurd hz (Nat.not_lt_zero _)
    | succ fu ih94 =>
      intro ls v74 v75 I81 hl76 hl77 hl78 hl79 hl80 hS82 g83 g84 g85 g86 rw87 rw88 rw89 rw90 rw91 rw92 rw93 hm94
      refine tr_iload dX5_turnAll_5 hl80 ?_
      refine tr_aload_n dX5_turnAll_7 hl76 ?_
      refine tr_getR dX5_turnAll_8 fl5_39 (kR13 hS82.1 ta0) d6 ?_
      refine q_getI dX5_turnAll_11 fl5_81 (kR2 hS82.1 ta5) ((hS82.cell ta5 (by decide +kernel)).trans c8) ?_
      refine q_icmp_ge 95 dX5_turnAll_14 (by decide) (fun h96 => ?_) (fun h96 => ?_)
      · skip
        refine tr_iload_n dX5_turnAll_95 hl79 ?_
        exact tr_iret hZ dX5_turnAll_96 rfl (by decide) (by decide) ⟨v74, rfl, rfl, rfl, rfl, rfl, rfl, hS82, (by rw [show (nzc gZ 4).toNat = v75.toInt.toNat from congrArg Int.toNat (by omega)]; exact rw87), (fun r hr => by obtain rfl := Option.some.inj (d35.symm.trans hr); rw [show (nzc gZ 4).toNat = v75.toInt.toNat from congrArg Int.toNat (by omega)]; exact rw88), (fun r hr => by obtain rfl := Option.some.inj (d45.symm.trans hr); exact fun u hu => (rw89 u hu).cg (by rw [if_pos (show (u : Int) < v75.toInt by omega)])), (fun r hr => by obtain rfl := Option.some.inj (d47.symm.trans hr); exact fun u hu => (rw90 u hu).cg (by rw [if_pos (show (u : Int) < v75.toInt by omega)])), (fun r hr => by obtain rfl := Option.some.inj (d49.symm.trans hr); exact fun u hu => (rw91 u hu).cg (by rw [if_pos (show (u : Int) < v75.toInt by omega)])), (fun r hr => by obtain rfl := Option.some.inj (d51.symm.trans hr); exact fun u hu => by rw [rw92 u hu]; by_cases z : 0 < mK gZ x1.toInt gf u; (rw [if_pos ⟨by omega, z⟩, if_pos z]); (rw [if_neg (fun w => z w.2), if_neg z])), rw93, trivial⟩
      · skip
        refine tr_iload_n dX5_turnAll_17 hl78 ?_
        refine tr_iload dX5_turnAll_18 hl80 ?_
        refine q_callSNi hE (M' := mX10_bit) (as := [_, _]) dX5_turnAll_20 lk5_84 inX10_bit myX10_bit ⟨by decide, by decide⟩ rfl (Nat.le_of_ble_eq_true rfl) rfl rfl (by decide) (by decide) (f_X10_bitX   (by omega) (by omega)) ?_
        rintro v102 cn' K' N' I97 R98 L99 ⟨rfl, rfl, rfl, rfl, rfl, rfl, p103, -⟩
        have btv102 := bt_01 x2.toInt v75.toInt
        refine q_iconst dX5_turnAll_23 (by decide) ?_
        intro v104 h105
        refine q_icmp_ne 89 dX5_turnAll_24 (by decide) (fun h106 => ?_) (fun h106 => ?_)
        · skip
          refine q_iincE dX5_turnAll_89 hl80 (by decide) (by decide) (by intros; omega) ?_
          intro v107 h108
          refine tr_goto 5 dX5_turnAll_92 (by decide) ?_
          have sk109 := mB_sk (Z := gZ) (m := x1.toInt) (f := gf) (t := v75.toInt.toNat) (Or.inl (akZ_n (fun z1 z2 z3 => by rw [show ((v75.toInt.toNat : Nat) : Int) = v75.toInt by omega, show nzW gZ = x2.toInt by omega] at z1; omega)))
          exact ih94 _ v74 v107 I81 hl76 hl77 hl78 hl79 rfl hS82 (by omega) (by omega) (by omega) (by omega) (TA1n rw87 (by omega) (by omega) sk109) ⟨TA2n rw88.1 (by omega) (by omega) sk109, rw88.2⟩ (TA3n rw89 (by omega) (by omega) (mK_sk sk109)) (TA3n rw90 (by omega) (by omega) (mS_sk sk109)) (TA3n rw91 (by omega) (by omega) (if_neg (by rw [mK_sk sk109]; decide))) (TA6n rw92 (by omega) (by omega) (mK_sk sk109)) rw93 (by omega)
        · skip
          refine tr_aload_n dX5_turnAll_27 hl76 ?_
          refine tr_getR dX5_turnAll_28 fl5_36 (kR13 hS82.1 ta0) d51 ?_
          refine tr_iload dX5_turnAll_31 hl80 ?_
          refine q_iald dX5_turnAll_33 (kR52 hS82.1 ta50) (ti_in (nR52 hS82.1 ta50) (by omega) (by omega)) ?_
          intro v110 c111
          have hf112 : v110.toInt = gf v75.toInt.toNat := by have z := rw92 v75.toInt.toNat (by omega); rw [show I81 a50 v75.toInt.toNat = v110 from c111, if_neg (fun w => by omega)] at z; exact z
          refine tr_iload_n dX5_turnAll_34 hl77 ?_
          refine q_icmp_gt 89 dX5_turnAll_35 (by decide) (fun h113 => ?_) (fun h113 => ?_)
          · skip
            refine q_iincE dX5_turnAll_89 hl80 (by decide) (by decide) (by intros; omega) ?_
            intro v114 h115
            refine tr_goto 5 dX5_turnAll_92 (by decide) ?_
            have sk116 := mB_sk (Z := gZ) (m := x1.toInt) (f := gf) (t := v75.toInt.toNat) (Or.inl (akZ_n (fun z1 z2 z3 => by rw [show ((v75.toInt.toNat : Nat) : Int) = v75.toInt by omega, show nzW gZ = x2.toInt by omega] at z1; omega)))
            exact ih94 _ v74 v114 I81 hl76 hl77 hl78 hl79 rfl hS82 (by omega) (by omega) (by omega) (by omega) (TA1n rw87 (by omega) (by omega) sk116) ⟨TA2n rw88.1 (by omega) (by omega) sk116, rw88.2⟩ (TA3n rw89 (by omega) (by omega) (mK_sk sk116)) (TA3n rw90 (by omega) (by omega) (mS_sk sk116)) (TA3n rw91 (by omega) (by omega) (if_neg (by rw [mK_sk sk116]; decide))) (TA6n rw92 (by omega) (by omega) (mK_sk sk116)) rw93 (by omega)
          · skip
            refine tr_aload_n dX5_turnAll_38 hl76 ?_
            refine tr_iload dX5_turnAll_39 hl80 ?_
            refine tr_iload_n dX5_turnAll_41 hl77 ?_
            refine q_callVi hE (M' := mX5_noticedHuts) (as := [_, _]) dX5_turnAll_42 lk5_87 inX5_noticedHuts seX5_noticedHuts myX5_noticedHuts (by decide) ⟨by decide, by decide⟩ rfl (kR13 hS82.1 ta0) (Nat.le_of_ble_eq_true rfl) rfl rfl (by decide) (by decide) (fk_X5_noticedHuts hS82.1 (gZ) ta0 (by omega) (by omega) (NgP.st hP hW0 ta0 hS82 (by decide +kernel) (by decide +kernel)) hG (by first | done | with_reducible assumption | omega) (by first | done | with_reducible assumption | omega)) ?_
            rintro v122 cn' K' N' I117 R118 L119 ⟨rfl, rfl, rfl, rfl, rfl, rfl, rp123, -⟩
            have hn124 := And.intro rp123.1 rp123.2.1
            refine tr_aload_n dX5_turnAll_45 hl76 ?_
            refine tr_getR dX5_turnAll_46 fl5_39 (kR13 hS82.1 ta0) d6 ?_
            refine tr_getR dX5_turnAll_49 fl5_90 (kR2 hS82.1 ta5) d19 ?_
            refine tr_iload dX5_turnAll_52 hl80 ?_
            obtain ⟨a125, d126, ta125⟩ := rf21 hS82.1 ta18 (j := v75.toNatClampNeg) (ti_lt (by omega) (by omega))
            refine tr_aald dX5_turnAll_54 (kR21 hS82.1 ta18) (by decide) (by decide) (ti_in (nR21 hS82.1 ta18) (by omega) (by omega)) d126 ?_
            obtain ⟨v128, c129⟩ : ∃ v, I0 a125 0 = v := ⟨_, rfl⟩
            obtain ⟨v130, c131⟩ : ∃ v, I0 a125 1 = v := ⟨_, rfl⟩
            obtain ⟨v132, c133⟩ : ∃ v, I0 a125 2 = v := ⟨_, rfl⟩
            obtain ⟨v134, c135⟩ : ∃ v, I0 a125 3 = v := ⟨_, rfl⟩
            obtain ⟨v136, c137⟩ : ∃ v, I0 a125 4 = v := ⟨_, rfl⟩
            obtain ⟨v138, c139⟩ : ∃ v, I0 a125 5 = v := ⟨_, rfl⟩
            have ho127 := hA68.1.tu d19 (k := v75.toInt.toNat) (by omega) (by omega) d126
            rw [c129, c131, c133, c135, c137, c139] at ho127
            have ho127g := hG.tu (t := v75.toInt.toNat) (by omega)
            refine q_getI dX5_turnAll_55 fl5_94 (kR4 hS82.1 ta125) ((hS82.cell ta125 (by decide +kernel)).trans c139) ?_
            refine tr_iand dX5_turnAll_58 ?_
            obtain ⟨v140, lx141⟩ : ∃ z, z = v122 &&& v138 := ⟨_, rfl⟩
            rw [← lx141]
            have hu143 := and15h lx141 (by omega) (by omega)
            have hu143r := And.intro hu143.1 hu143.2.1
            have hU142 : ∀ h : Nat, (h : Int) < nzc gZ 1 → bt v140.toInt (h : Int) = if bt (nzT gZ (14 + v75.toInt.toNat) 5) (h : Int) = 1 ∧ noZ gZ v75.toInt.toNat (h : Int) x1.toInt = 1 then 1 else 0 := fun h hh => by rw [hu143.2.2 h (by omega), rp123.2.2 h hh, show v138.toInt = nzT gZ (14 + v75.toInt.toNat) 5 by omega]; by_cases z1 : bt (nzT gZ (14 + v75.toInt.toNat) 5) (h : Int) = 1 ∧ noZ gZ v75.toInt.toNat (h : Int) x1.toInt = 1; (rw [if_pos z1, if_pos ⟨z1.2, z1.1⟩]); (rw [if_neg z1, if_neg (fun w => z1 ⟨w.2, w.1⟩)])
            refine tr_istore dX5_turnAll_59 (by decide) (by decide) ?_
            refine tr_iload dX5_turnAll_61 rfl ?_
            refine q_if_eq 89 dX5_turnAll_63 (by decide) (fun h144 => ?_) (fun h144 => ?_)
            · skip
              refine q_iincE dX5_turnAll_89 hl80 (by decide) (by decide) (by intros; omega) ?_
              intro v145 h146
              refine tr_goto 5 dX5_turnAll_92 (by decide) ?_
              have sk147 := mB_sk (Z := gZ) (m := x1.toInt) (f := gf) (t := v75.toInt.toNat) (Or.inr (fun k hk => elZ_n hU142 (by omega) hG hk))
              exact ih94 _ v74 v145 I81 hl76 hl77 hl78 hl79 rfl hS82 (by omega) (by omega) (by omega) (by omega) (TA1n rw87 (by omega) (by omega) sk147) ⟨TA2n rw88.1 (by omega) (by omega) sk147, rw88.2⟩ (TA3n rw89 (by omega) (by omega) (mK_sk sk147)) (TA3n rw90 (by omega) (by omega) (mS_sk sk147)) (TA3n rw91 (by omega) (by omega) (if_neg (by rw [mK_sk sk147]; decide))) (TA6n rw92 (by omega) (by omega) (mK_sk sk147)) rw93 (by omega)
            · skip
              refine tr_aload_n dX5_turnAll_66 hl76 ?_
              refine tr_iload dX5_turnAll_67 hl80 ?_
              refine tr_iload_n dX5_turnAll_69 hl77 ?_
              refine q_callVi hE (M' := mX5_isAwake) (as := [_, _]) dX5_turnAll_70 lk5_99 inX5_isAwake seX5_isAwake myX5_isAwake (by decide) ⟨by decide, by decide⟩ rfl (kR13 hS82.1 ta0) (Nat.le_of_ble_eq_true rfl) rfl rfl (by decide) (by decide) (fk_X5_isAwake hS82.1 (gZ) ta0 (by omega) (by omega) (NgP.st hP hW0 ta0 hS82 (by decide +kernel) (by decide +kernel)) hG (by first | done | with_reducible assumption | omega) (by first | done | with_reducible assumption | omega)) ?_
              rintro v153 cn' K' N' I148 R149 L150 ⟨rfl, rfl, rfl, rfl, rfl, rfl, h154, rp155, -⟩
              refine q_if_eq 89 dX5_turnAll_73 (by decide) (fun h156 => ?_) (fun h156 => ?_)
              · skip
                refine q_iincE dX5_turnAll_89 hl80 (by decide) (by decide) (by intros; omega) ?_
                intro v157 h158
                refine tr_goto 5 dX5_turnAll_92 (by decide) ?_
                have sk159 := mB_sk (Z := gZ) (m := x1.toInt) (f := gf) (t := v75.toInt.toNat) (Or.inl (akZ_n (fun z1 z2 z3 => by rw [show ((v75.toInt.toNat : Nat) : Int) = v75.toInt by omega, show nzW gZ = x2.toInt by omega] at z1; omega)))
                exact ih94 _ v74 v157 I81 hl76 hl77 hl78 hl79 rfl hS82 (by omega) (by omega) (by omega) (by omega) (TA1n rw87 (by omega) (by omega) sk159) ⟨TA2n rw88.1 (by omega) (by omega) sk159, rw88.2⟩ (TA3n rw89 (by omega) (by omega) (mK_sk sk159)) (TA3n rw90 (by omega) (by omega) (mS_sk sk159)) (TA3n rw91 (by omega) (by omega) (if_neg (by rw [mK_sk sk159]; decide))) (TA6n rw92 (by omega) (by omega) (mK_sk sk159)) rw93 (by omega)
              · skip
                have ak160 : akZ gZ x1.toInt gf v75.toInt.toNat = 1 := akZ_1 (by rw [show ((v75.toInt.toNat : Nat) : Int) = v75.toInt by omega, show nzW gZ = x2.toInt by omega]; omega) (by omega) (by omega)
                refine tr_iload_n dX5_turnAll_76 hl79 ?_
                refine tr_aload_n dX5_turnAll_77 hl76 ?_
                refine tr_iload dX5_turnAll_78 hl80 ?_
                refine tr_iload_n dX5_turnAll_80 hl77 ?_
                refine tr_iload dX5_turnAll_81 rfl ?_
                refine tr_iload_n dX5_turnAll_83 hl79 ?_
                refine q_callVi hE (M' := mX5_turnSome) (as := [_, _, _, _]) dX5_turnAll_84 lk5_103 inX5_turnSome seX5_turnSome myX5_turnSome (by decide) ⟨by decide, by decide⟩ rfl (kR13 hS82.1 ta0) (Nat.le_of_ble_eq_true rfl) rfl rfl (by decide) (by decide) (fk_X5_turnSome hS82.1 (gZ) ((mB gZ x1.toInt gf v75.toInt.toNat)) ta0 (by omega) (by omega) (by omega) (by omega) (NgP.st hP hW0 ta0 hS82 (by decide +kernel) (by decide +kernel)) hG hU142 rw87 (fun r hr => by obtain rfl := Option.some.inj (d35.symm.trans hr); exact rw88.1) (by first | done | with_reducible assumption | omega) (by first | done | with_reducible assumption | omega)) ?_
                rintro v166 cn' K' N' I161 R162 L163 ⟨rfl, rfl, rfl, rfl, rfl, g164, rp167, rp168, rp169, rp170, rp171, rp172, rp173, -⟩
                have hS174 := hS82.tr g164 (by decide +kernel) (by decide +kernel)
                refine tr_ior dX5_turnAll_87 ?_
                obtain ⟨v175, lx176⟩ : ∃ z, z = v74 ||| v166 := ⟨_, rfl⟩
                rw [← lx176]
                have hb177 := TA1y (l' := v75.toInt + 1) rw87 (by omega) rfl ak160 rp167 lx176
                have hb177r := And.intro hb177.1 hb177.2.1
                refine tr_istore_n dX5_turnAll_88 (by decide) (by decide) ?_
                refine q_iincE dX5_turnAll_89 hl80 (by decide) (by decide) (by intros; omega) ?_
                intro v178 h179
                refine tr_goto 5 dX5_turnAll_92 (by decide) ?_
                exact ih94 _ v175 v178 I161 hl76 hl77 hl78 rfl rfl hS174 (by omega) (by omega) (by omega) (by omega) (by rw [show v178.toInt.toNat = (v75.toInt + 1).toNat by omega]; exact hb177) ⟨TA2y (rp168 _ d35).1 (by omega) (by omega) ak160, fun j hj => Eq.trans ((rp168 _ d35).2 j hj) (rw88.2 j hj)⟩ (TA3y rw89 (by omega) (by omega) (by omega) (rp169 _ d45) (mK_tk ak160).symm (mK_b (Z := gZ) (by omega) _)) (TA3y rw90 (by omega) (by omega) (by omega) (rp170 _ d47) (mS_tk ak160).symm (mS_b (Z := gZ) (by omega) _)) (TA3y rw91 (by omega) (by omega) (by omega) (rp171 _ d49) (by show _ = if 0 < mK _ _ _ _ then (1 : Int) else 0; rw [mK_tk ak160]) (by show 0 ≤ (if _ then (1 : Int) else 0) ∧ (if _ then (1 : Int) else 0) ≤ 8; split <;> omega)) (TA6y rw92 (by omega) (by omega) (by omega) (rp172 _ d51) (mK_tk ak160).symm) (rw93.tr rp173) (by omega)
  exact lp94 _ _ v70 v72 I0 rfl rfl rfl rfl rfl hS0 (by omega) (by omega) (by omega) (by omega) ((B8.z (by omega)).cg (fun k hk => by rw [show v72.toInt.toNat = 0 by omega, if_neg (fun w => w.2 rfl)])) ⟨(hH _ d35).cg (fun k hk => by rw [show v72.toInt.toNat = 0 by omega]; split <;> rfl), fun _ _ => rfl⟩ (fun u _ => RwD.z rfl (if_neg (by omega))) (fun u _ => RwD.z rfl (if_neg (by omega))) (fun u _ => RwD.z rfl (if_neg (by omega))) (fun u hu => by rw [if_neg (fun w => by omega)]; exact hF _ d51 u hu) (FrN.rf (R := R0) (n := a0) (T := T)) (Nat.lt_succ_self _)
set_option maxHeartbeats 4000000 in
theorem fk_X8_crackingHuts {l : Launch} {T : Nat → Nat} {cn : Nat} {K N : Nat → Nat} {I0 : cz_I} {R0 : cz_R} {L0 : cz_L} {d : Int} (hW0 : Wf T cn K N I0 R0 d) (gZ : cz_N) {a0 : Nat} (ta0 : T a0 = 12) {x1 : Int32} (hx1 : 0 ≤ x1.toInt ∧ x1.toInt ≤ 239) (hS : SkZ I0 R0 a0 gZ) (pre0 : x1.toInt < (nzc gZ 0)) : ConE l mX8_crackingHuts [.ref a0, .int x1] cn K N I0 R0 L0 (ca_i (fun v cn' K' N' I' R' L' => cn = cn' ∧ K = K' ∧ N = N' ∧ I0 = I' ∧ R0 = R' ∧ L0 = L' ∧ (0 ≤ v.toInt ∧ v.toInt ≤ 15 ∧ ∀ h : Nat, h < 4 → bt v.toInt (h : Int) = nzK gZ (h : Int) x1.toInt) ∧ True)) := by
  refine ConE.of (by decide +kernel) rfl (Nat.le_of_ble_eq_true rfl) rfl (fun X hX hZ hE => ?_)
  subst hX
  have p11 := pre0
  obtain ⟨a12, d13, ta12⟩ := rf12_2 hW0 ta0
  obtain ⟨a14, d15, ta14⟩ := rf12_3 hW0 ta0
  obtain ⟨a16, d17, ta16⟩ := rf12_5 hW0 ta0
  obtain ⟨v18, c19⟩ : ∃ v, I0 a0 1 = v := ⟨_, rfl⟩
  refine tr_aload_n dX8_crackingHuts_0 rfl ?_
  refine tr_getR dX8_crackingHuts_1 fl8_15 (kR12 hW0 ta0) d15 ?_
  refine tr_iload_n dX8_crackingHuts_4 rfl ?_
  refine q_zald dX8_crackingHuts_5 (kR36 hW0 ta14) (ti_in (nR36 hW0 ta14) (by omega) (by omega)) ?_
  intro v20 c21
  have b22 := iv36 hW0 ta14 c21
  refine q_if_eq 34 dX8_crackingHuts_6 (by decide) (fun h23 => ?_) (fun h23 => ?_)
  · skip
    refine q_iconst dX8_crackingHuts_34 (by decide) ?_
    intro v24 h25
    exact tr_iret hZ dX8_crackingHuts_35 rfl (by decide) (by decide) ⟨v24, rfl, rfl, rfl, rfl, rfl, rfl, rfl, (by obtain ⟨g, hg, hk⟩ := hS.2.2.2.2.1 _ _ d15 d17 x1.toInt.toNat (by omega); exact ⟨by omega, by omega, fun h hh => by have z := hk h hh; rw [show ((x1.toInt.toNat : Nat) : Int) = x1.toInt by omega] at z; rw [show I0 a14 x1.toInt.toNat = v20 from c21] at z; rw [show v24.toInt = 0 by omega, bt_z, z, if_neg (fun w => by omega)]⟩), trivial⟩
  · skip
    refine tr_aload_n dX8_crackingHuts_9 rfl ?_
    refine tr_getR dX8_crackingHuts_10 fl8_9 (kR12 hW0 ta0) d13 ?_
    refine tr_iload_n dX8_crackingHuts_13 rfl ?_
    refine q_zald dX8_crackingHuts_14 (kR35 hW0 ta12) (ti_in (nR35 hW0 ta12) (by omega) (by omega)) ?_
    intro v26 c27
    have b28 := iv35 hW0 ta12 c27
    refine q_if_ne 34 dX8_crackingHuts_15 (by decide) (fun h29 => ?_) (fun h29 => ?_)
    · skip
      refine q_iconst dX8_crackingHuts_34 (by decide) ?_
      intro v30 h31
      exact tr_iret hZ dX8_crackingHuts_35 rfl (by decide) (by decide) ⟨v30, rfl, rfl, rfl, rfl, rfl, rfl, rfl, (by obtain ⟨g, hg, hk⟩ := hS.2.2.2.2.1 _ _ d15 d17 x1.toInt.toNat (by omega); exact ⟨by omega, by omega, fun h hh => by have z := hk h hh; rw [show ((x1.toInt.toNat : Nat) : Int) = x1.toInt by omega] at z; rw [show I0 a14 x1.toInt.toNat = v20 from c21] at z; have e := hS.1 _ d13 x1.toInt.toNat (by omega); rw [show I0 a12 x1.toInt.toNat = v26 from c27, show ((x1.toInt.toNat : Nat) : Int) = x1.toInt by omega] at e; rw [show v30.toInt = 0 by omega, bt_z, z, if_neg (fun w => by omega)]⟩), trivial⟩
    · skip
      refine tr_aload_n dX8_crackingHuts_18 rfl ?_
      refine q_getI dX8_crackingHuts_19 fl8_50 (kR12 hW0 ta0) c19 ?_
      refine tr_aload_n dX8_crackingHuts_22 rfl ?_
      refine tr_getR dX8_crackingHuts_23 fl8_21 (kR12 hW0 ta0) d17 ?_
      refine tr_iload_n dX8_crackingHuts_26 rfl ?_
      refine q_iald dX8_crackingHuts_27 (kR38 hW0 ta16) (ti_in (nR38 hW0 ta16) (by omega) (by omega)) ?_
      intro v32 c33
      refine q_iconst dX8_crackingHuts_28 (by decide) ?_
      intro v34 h35
      refine tr_ixor dX8_crackingHuts_29 ?_
      obtain ⟨v36, lx37⟩ : ∃ z, z = v32 ^^^ v34 := ⟨_, rfl⟩
      rw [← lx37]
      refine tr_iand dX8_crackingHuts_30 ?_
      obtain ⟨v38, lx39⟩ : ∃ z, z = v18 &&& v36 := ⟨_, rfl⟩
      rw [← lx39]
      refine tr_goto 35 dX8_crackingHuts_31 (by decide) ?_
      exact tr_iret hZ dX8_crackingHuts_35 rfl (by decide) (by decide) ⟨v38, rfl, rfl, rfl, rfl, rfl, rfl, rfl, (by obtain ⟨g, hg, hk⟩ := hS.2.2.2.2.1 _ _ d15 d17 x1.toInt.toNat (by omega); have b := Bts.nand (n := v34) hS.2.2.2.1 hg (by omega); rw [show I0 a0 1 = v18 from c19, show I0 a16 x1.toInt.toNat = v32 from c33, ← lx37, ← lx39] at b; exact ⟨b.1, b.2.1, fun h hh => by have z := hk h hh; rw [show ((x1.toInt.toNat : Nat) : Int) = x1.toInt by omega] at z; rw [show I0 a14 x1.toInt.toNat = v20 from c21] at z; have e := hS.1 _ d13 x1.toInt.toNat (by omega); rw [show I0 a12 x1.toInt.toNat = v26 from c27, show ((x1.toInt.toNat : Nat) : Int) = x1.toInt by omega] at e; exact ckZ b z (by omega) (by omega) hh⟩), trivial⟩
def wik_X5_judge : List Nat := [2943, 3007, 3071, 3135]
def wrk_X5_judge : List Nat := []
set_option maxHeartbeats 4000000 in
theorem fk_X5_judge {l : Launch} {T : Nat → Nat} {cn : Nat} {K N : Nat → Nat} {I0 : cz_I} {R0 : cz_R} {L0 : cz_L} {d : Int} (hW0 : Wf T cn K N I0 R0 d) (gZ : cz_N) (gb : Nat → Int) (gu : Nat → Int) {a0 : Nat} (ta0 : T a0 = 13) {x1 : Int32} (hx1 : 0 ≤ x1.toInt ∧ x1.toInt ≤ 239) {x2 : Int32} (hx2 : 0 ≤ x2.toInt ∧ x2.toInt ≤ 255) {x3 : Int32} (hx3 : 0 ≤ x3.toInt ∧ x3.toInt ≤ 255) (hP : NgP I0 R0 a0 gZ) (hG : GdN gZ) (hB : B8 x2 (fun k => if (k : Int) < nzc gZ 3 ∧ ¬ gb k = -2 then 1 else 0)) (hV : B8 x3 (fun k => if (k : Int) < nzc gZ 3 then gu k else 0)) (pre0 : x1.toInt < (nzc gZ 0)) : ConE l mX5_judge [.ref a0, .int x1, .int x2, .int x3] cn K N I0 R0 L0 (ca_v (fun cn' K' N' I' R' L' => cn = cn' ∧ K = K' ∧ N = N' ∧ R0 = R' ∧ L0 = L' ∧ St T cn K N d wik_X5_judge wrk_X5_judge I0 R0 I' R0 ∧ (∀ r, R0 a0 4 = some r → ∀ k : Nat, (k : Int) < nzc gZ 3 → RwD I0 I' r k ((fun k => if ¬ gb k = -2 ∧ nzC gZ (nzT gZ 35 k) x1.toInt = 1 then 1 else 0) k)) ∧ (∀ r, R0 a0 5 = some r → ∀ k : Nat, (k : Int) < nzc gZ 3 → RwD I0 I' r k ((fun k => if ¬ gb k = -2 ∧ ¬ nzC gZ (nzT gZ 35 k) x1.toInt = 1 then 1 else 0) k)) ∧ (∀ r, R0 a0 6 = some r → ∀ k : Nat, (k : Int) < nzc gZ 3 → RwD I0 I' r k ((fun k => if gb k = -2 ∧ nzC gZ (nzT gZ 35 k) x1.toInt = 1 then 1 else 0) k)) ∧ (∀ r, R0 a0 7 = some r → ∀ k : Nat, (k : Int) < nzc gZ 3 → RwD I0 I' r k ((fun k => if gu k = 1 ∧ nzK gZ (nzT gZ 35 k) x1.toInt = 1 then 1 else 0) k)) ∧ (FrN R0 a0 T I0 I') ∧ True)) := by
  refine ConE.of (by decide +kernel) rfl (Nat.le_of_ble_eq_true rfl) rfl (fun X hX hZ hE => ?_)
  subst hX
  have hS0 : St T cn K N d wik_X5_judge wrk_X5_judge I0 R0 I0 R0 := St.rf0 hW0
  have p1 := pre0
  obtain ⟨a2, d3, ta2⟩ := rf13_0 hW0 ta0
  obtain ⟨v4, c5⟩ : ∃ v, I0 a2 5 = v := ⟨_, rfl⟩
  have b6 := iv2_5 hW0 ta2 c5
  obtain ⟨a7, d8, ta7⟩ := rf13_1 hW0 ta0
  obtain ⟨a9, d10, ta9⟩ := rf2_2 hW0 ta2
  obtain ⟨a11, d12, ta11⟩ := rf2_6 hW0 ta2
  obtain ⟨a13, d14, ta13⟩ := rf2_8 hW0 ta2
  obtain ⟨a15, d16, ta15⟩ := rf2_10 hW0 ta2
  obtain ⟨a17, d18, ta17⟩ := rf2_12 hW0 ta2
  obtain ⟨a19, d20, ta19⟩ := rf12_2 hW0 ta7
  obtain ⟨a21, d22, ta21⟩ := rf12_3 hW0 ta7
  obtain ⟨a23, d24, ta23⟩ := rf12_5 hW0 ta7
  obtain ⟨a25, d26, ta25⟩ := rf12_8 hW0 ta7
  obtain ⟨a27, d28, ta27⟩ := rf12_9 hW0 ta7
  obtain ⟨a29, d30, ta29⟩ := rf12_11 hW0 ta7
  obtain ⟨a31, d32, ta31⟩ := rf13_3 hW0 ta0
  obtain ⟨a33, d34, ta33⟩ := rf13_4 hW0 ta0
  obtain ⟨a35, d36, ta35⟩ := rf13_5 hW0 ta0
  obtain ⟨a37, d38, ta37⟩ := rf13_6 hW0 ta0
  obtain ⟨a39, d40, ta39⟩ := rf13_7 hW0 ta0
  obtain ⟨a41, d42, ta41⟩ := rf13_8 hW0 ta0
  obtain ⟨a43, d44, ta43⟩ := rf13_9 hW0 ta0
  obtain ⟨a45, d46, ta45⟩ := rf13_10 hW0 ta0
  obtain ⟨a47, d48, ta47⟩ := rf13_11 hW0 ta0
  obtain ⟨v49, c50⟩ : ∃ v, I0 a2 0 = v := ⟨_, rfl⟩
  have b51 := iv2_0 hW0 ta2 c50
  obtain ⟨v52, c53⟩ : ∃ v, I0 a2 1 = v := ⟨_, rfl⟩
  have b54 := iv2_1 hW0 ta2 c53
  obtain ⟨v55, c56⟩ : ∃ v, I0 a2 7 = v := ⟨_, rfl⟩
  obtain ⟨v57, c58⟩ : ∃ v, I0 a2 9 = v := ⟨_, rfl⟩
  have b59 := iv2_9 hW0 ta2 c58
  obtain ⟨v60, c61⟩ : ∃ v, I0 a2 11 = v := ⟨_, rfl⟩
  have b62 := iv2_11 hW0 ta2 c61
  obtain ⟨v63, c64⟩ : ∃ v, I0 a0 2 = v := ⟨_, rfl⟩
  have hA65 := hP _ _ d3 d8
  have hc66 := hA65.1.ct
  rw [c50, c53, c5, c58, c61, c56] at hc66
  have hc66g := hG.cs
  have hc66m := hA65.2.2
  rw [c64] at hc66m
  have hc66n := hG.ms
  refine tr_aload_n dX5_judge_0 rfl ?_
  refine tr_getR dX5_judge_1 fl5_43 (kR13 hS0.1 ta0) d8 ?_
  refine tr_iload_n dX5_judge_4 rfl ?_
  refine q_callVi hE (M' := mX8_crackingHuts) (as := [_]) dX5_judge_5 lk5_121 inX8_crackingHuts seX8_crackingHuts myX8_crackingHuts (by decide) ⟨by decide, by decide⟩ rfl (kR12 hS0.1 ta7) (Nat.le_of_ble_eq_true rfl) rfl rfl (by decide) (by decide) (fk_X8_crackingHuts hS0.1 (gZ) ta7 (by omega) hA65.2.1 (by first | done | with_reducible assumption | omega)) ?_
  rintro v72 cn' K' N' I67 R68 L69 ⟨rfl, rfl, rfl, rfl, rfl, rfl, rp73, -⟩
  have hk74 := And.intro rp73.1 rp73.2.1
  refine tr_istore dX5_judge_8 (by decide) (by decide) ?_
  refine q_iconst dX5_judge_10 (by decide) ?_
  intro v75 h76
  refine tr_istore dX5_judge_11 (by decide) (by decide) ?_
  have lp93 : ∀ (fu : Nat) (ls : Nat → Option Value) (v77 : Int32) (I84 : cz_I), ls 0 = some (.ref a0) → ls 1 = some (.int x1) → ls 2 = some (.int x2) → ls 3 = some (.int x3) → ls 4 = some (.int v72) → ls 5 = some (.int v77) → St T cn K N d wik_X5_judge wrk_X5_judge I0 R0 I84 R0 → 0 ≤ v77.toInt → v77.toInt ≤ v4.toInt → (∀ u : Nat, (u : Int) < nzc gZ 3 → RwD I0 I84 a33 u (if (u : Int) < v77.toInt then (fun k => if ¬ gb k = -2 ∧ nzC gZ (nzT gZ 35 k) x1.toInt = 1 then 1 else 0) u else 0)) → (∀ u : Nat, (u : Int) < nzc gZ 3 → RwD I0 I84 a35 u (if (u : Int) < v77.toInt then (fun k => if ¬ gb k = -2 ∧ ¬ nzC gZ (nzT gZ 35 k) x1.toInt = 1 then 1 else 0) u else 0)) → (∀ u : Nat, (u : Int) < nzc gZ 3 → RwD I0 I84 a37 u (if (u : Int) < v77.toInt then (fun k => if gb k = -2 ∧ nzC gZ (nzT gZ 35 k) x1.toInt = 1 then 1 else 0) u else 0)) → (∀ u : Nat, (u : Int) < nzc gZ 3 → RwD I0 I84 a39 u (if (u : Int) < v77.toInt then (fun k => if gu k = 1 ∧ nzK gZ (nzT gZ 35 k) x1.toInt = 1 then 1 else 0) u else 0)) → (FrN R0 a0 T I0 I84) → (-v77.toInt + 2147483647).toNat < fu → Tr X mX5_judge 13 ls [] cn K N I84 R0 L0 0 0 := by
    intro fu
    induction fu with
    | zero => intros; rename_i hz; exact absurd hz (Nat.not_lt_zero _)
    | succ fu ih93 =>
      intro ls v77 I84 hl78 hl79 hl80 hl81 hl82 hl83 hS85 g86 g87 rw88 rw89 rw90 rw91 rw92 hm93
      refine tr_iload dX5_judge_13 hl83 ?_
      refine tr_aload_n dX5_judge_15 hl78 ?_
      refine tr_getR dX5_judge_16 fl5_39 (kR13 hS85.1 ta0) d3 ?_
      refine q_getI dX5_judge_19 fl5_107 (kR2 hS85.1 ta2) ((hS85.cell ta2 (by decide +kernel)).trans c5) ?_
      refine q_icmp_ge 140 dX5_judge_22 (by decide) (fun h95 => ?_) (fun h95 => ?_)
      · skip
        exact tr_vret hZ dX5_judge_140 rfl (by decide) (by decide) ⟨rfl, rfl, rfl, rfl, rfl, rfl, hS85, (fun r hr => by obtain rfl := Option.some.inj (d34.symm.trans hr); exact fun u hu => (rw88 u hu).cg (by rw [if_pos (show (u : Int) < v77.toInt by omega)])), (fun r hr => by obtain rfl := Option.some.inj (d36.symm.trans hr); exact fun u hu => (rw89 u hu).cg (by rw [if_pos (show (u : Int) < v77.toInt by omega)])), (fun r hr => by obtain rfl := Option.some.inj (d38.symm.trans hr); exact fun u hu => (rw90 u hu).cg (by rw [if_pos (show (u : Int) < v77.toInt by omega)])), (fun r hr => by obtain rfl := Option.some.inj (d40.symm.trans hr); exact fun u hu => (rw91 u hu).cg (by rw [if_pos (show (u : Int) < v77.toInt by omega)])), rw92, trivial⟩
      · skip
        refine tr_aload_n dX5_judge_25 hl78 ?_
        refine tr_getR dX5_judge_26 fl5_39 (kR13 hS85.1 ta0) d3 ?_
        refine tr_getR dX5_judge_29 fl5_112 (kR2 hS85.1 ta2) d12 ?_
        refine tr_iload dX5_judge_32 hl83 ?_
        refine q_iald dX5_judge_34 (kR20 hS85.1 ta11) (ti_in (nR20 hS85.1 ta11) (by omega) (by omega)) ?_
        intro v96 c97
        have hh98 : v96.toInt = nzT gZ 35 v77.toInt.toNat := by rw [← show I0 a11 v77.toInt.toNat = v96 from (hS85.cell ta11 (wm_no (by decide +kernel))).symm.trans c97]; exact hA65.1.hu d12 (by omega)
        have hh98g := hG.ch (k := v77.toInt.toNat) (by omega)
        refine tr_istore dX5_judge_35 (by decide) (by decide) ?_
        refine tr_aload_n dX5_judge_37 hl78 ?_
        refine tr_getR dX5_judge_38 fl5_43 (kR13 hS85.1 ta0) d8 ?_
        refine tr_getR dX5_judge_41 fl5_115 (kR12 hS85.1 ta7) d26 ?_
        refine tr_iload_n dX5_judge_44 hl79 ?_
        refine q_iald dX5_judge_45 (kR41 hS85.1 ta25) (ti_in (nR41 hS85.1 ta25) (by omega) (by omega)) ?_
        intro v99 c100
        have hx101 := hA65.2.1.2.1 _ d26 x1.toInt.toNat (by omega)
        rw [show I0 a25 x1.toInt.toNat = v99 from (hS85.cell ta25 (wm_no (by decide +kernel))).symm.trans c100, show ((x1.toInt.toNat : Nat) : Int) = x1.toInt by omega] at hx101
        have hx101r := And.intro hx101.1 hx101.2.1
        refine tr_iload dX5_judge_46 rfl ?_
        refine q_callSNi hE (M' := mX10_bit) (as := [_, _]) dX5_judge_48 lk5_84 inX10_bit myX10_bit ⟨by decide, by decide⟩ rfl (Nat.le_of_ble_eq_true rfl) rfl rfl (by decide) (by decide) (f_X10_bitX   (by omega) (by omega)) ?_
        rintro v107 cn' K' N' I102 R103 L104 ⟨rfl, rfl, rfl, rfl, rfl, rfl, p108, -⟩
        have btv107 := bt_01 v99.toInt v96.toInt
        have hy109 : v107.toInt = nzC gZ (nzT gZ 35 v77.toInt.toNat) x1.toInt := by have z : bt _ _ = nzC gZ ((v96.toInt.toNat : Nat) : Int) x1.toInt := hx101.2.2 v96.toInt.toNat (by omega); rw [show ((v96.toInt.toNat : Nat) : Int) = v96.toInt by omega] at z; rw [← hh98]; omega
        refine tr_istore dX5_judge_51 (by decide) (by decide) ?_
        refine tr_iload_n dX5_judge_53 hl80 ?_
        refine tr_iload dX5_judge_54 hl83 ?_
        refine q_callSNi hE (M' := mX10_bit) (as := [_, _]) dX5_judge_56 lk5_84 inX10_bit myX10_bit ⟨by decide, by decide⟩ rfl (Nat.le_of_ble_eq_true rfl) rfl rfl (by decide) (by decide) (f_X10_bitX   (by omega) (by omega)) ?_
        rintro v115 cn' K' N' I110 R111 L112 ⟨rfl, rfl, rfl, rfl, rfl, rfl, p116, -⟩
        have btv115 := bt_01 x2.toInt v77.toInt
        have hy117 : (gb v77.toInt.toNat = -2 ∧ v115.toInt = 0) ∨ (¬ gb v77.toInt.toNat = -2 ∧ v115.toInt = 1) := by have z : bt _ _ = (if _ then _ else _) := hB.2.2 v77.toInt.toNat (by omega); rw [show ((v77.toInt.toNat : Nat) : Int) = v77.toInt by omega] at z; by_cases y : gb v77.toInt.toNat = -2; (rw [if_neg (fun w => w.2 y)] at z; exact Or.inl ⟨y, by omega⟩); (rw [if_pos ⟨by omega, y⟩] at z; exact Or.inr ⟨y, by omega⟩)
        refine tr_istore dX5_judge_59 (by decide) (by decide) ?_
        refine tr_aload_n dX5_judge_61 hl78 ?_
        refine tr_getR dX5_judge_62 fl5_15 (kR13 hS85.1 ta0) d34 ?_
        refine tr_iload dX5_judge_65 hl83 ?_
        refine tr_dup2 dX5_judge_67 rfl rfl ?_
        refine q_iald dX5_judge_68 (kR45 hS85.1 ta33) (ti_in (nR45 hS85.1 ta33) (by omega) (by omega)) ?_
        intro v118 c119
        refine tr_iload dX5_judge_69 rfl ?_
        refine tr_iload dX5_judge_71 rfl ?_
        refine tr_iand dX5_judge_73 ?_
        obtain ⟨v120, lx121⟩ : ∃ z, z = v115 &&& v107 := ⟨_, rfl⟩
        rw [← lx121]
        have ha122 : v120.toInt = if v115.toInt = 1 ∧ v107.toInt = 1 then 1 else 0 := by rw [lx121]; exact an_01 (by omega) (by omega)
        refine tr_iadd dX5_judge_74 ?_
        obtain ⟨v123, lx124⟩ : ∃ z, z = v118 + v120 := ⟨_, rfl⟩
        rw [← lx124]
        refine q_iast dX5_judge_75 (kR45 hS85.1 ta33) (ti_in (nR45 hS85.1 ta33) (by omega) (by omega)) hS85 ta33 (iokF rfl) rfl (by rfl) ?_
        intro I125 hS126 e128 f127
        refine tr_aload_n dX5_judge_76 hl78 ?_
        refine tr_getR dX5_judge_77 fl5_18 (kR13 hS126.1 ta0) d36 ?_
        refine tr_iload dX5_judge_80 hl83 ?_
        refine tr_dup2 dX5_judge_82 rfl rfl ?_
        refine q_iald dX5_judge_83 (kR46 hS126.1 ta35) (ti_in (nR46 hS126.1 ta35) (by omega) (by omega)) ?_
        intro v129 c130
        refine tr_iload dX5_judge_84 rfl ?_
        refine tr_iload dX5_judge_86 rfl ?_
        refine q_iconst dX5_judge_88 (by decide) ?_
        intro v131 h132
        refine tr_ixor dX5_judge_89 ?_
        obtain ⟨v133, lx134⟩ : ∃ z, z = v107 ^^^ v131 := ⟨_, rfl⟩
        rw [← lx134]
        refine tr_iand dX5_judge_90 ?_
        obtain ⟨v135, lx136⟩ : ∃ z, z = v115 &&& v133 := ⟨_, rfl⟩
        rw [← lx136]
        have ha137 : v135.toInt = if v115.toInt = 1 ∧ v107.toInt = 0 then 1 else 0 := by rw [lx136, lx134]; exact ann_01 (by omega) (by omega) (by omega)
        refine tr_iadd dX5_judge_91 ?_
        obtain ⟨v138, lx139⟩ : ∃ z, z = v129 + v135 := ⟨_, rfl⟩
        rw [← lx139]
        refine q_iast dX5_judge_92 (kR46 hS126.1 ta35) (ti_in (nR46 hS126.1 ta35) (by omega) (by omega)) hS126 ta35 (iokF rfl) rfl (by rfl) ?_
        intro I140 hS141 e143 f142
        refine tr_aload_n dX5_judge_93 hl78 ?_
        refine tr_getR dX5_judge_94 fl5_21 (kR13 hS141.1 ta0) d38 ?_
        refine tr_iload dX5_judge_97 hl83 ?_
        refine tr_dup2 dX5_judge_99 rfl rfl ?_
        refine q_iald dX5_judge_100 (kR47 hS141.1 ta37) (ti_in (nR47 hS141.1 ta37) (by omega) (by omega)) ?_
        intro v144 c145
        refine tr_iload dX5_judge_101 rfl ?_
        refine tr_iload dX5_judge_103 rfl ?_
        refine q_iconst dX5_judge_105 (by decide) ?_
        intro v146 h147
        refine tr_ixor dX5_judge_106 ?_
        obtain ⟨v148, lx149⟩ : ∃ z, z = v115 ^^^ v146 := ⟨_, rfl⟩
        rw [← lx149]
        refine tr_iand dX5_judge_107 ?_
        obtain ⟨v150, lx151⟩ : ∃ z, z = v107 &&& v148 := ⟨_, rfl⟩
        rw [← lx151]
        have ha152 : v150.toInt = if v107.toInt = 1 ∧ v115.toInt = 0 then 1 else 0 := by rw [lx151, lx149]; exact ann_01 (by omega) (by omega) (by omega)
        refine tr_iadd dX5_judge_108 ?_
        obtain ⟨v153, lx154⟩ : ∃ z, z = v144 + v150 := ⟨_, rfl⟩
        rw [← lx154]
        refine q_iast dX5_judge_109 (kR47 hS141.1 ta37) (ti_in (nR47 hS141.1 ta37) (by omega) (by omega)) hS141 ta37 (iokF rfl) rfl (by rfl) ?_
        intro I155 hS156 e158 f157
        refine tr_aload_n dX5_judge_110 hl78 ?_
        refine tr_getR dX5_judge_111 fl5_24 (kR13 hS156.1 ta0) d40 ?_
        refine tr_iload dX5_judge_114 hl83 ?_
        refine tr_dup2 dX5_judge_116 rfl rfl ?_
        refine q_iald dX5_judge_117 (kR48 hS156.1 ta39) (ti_in (nR48 hS156.1 ta39) (by omega) (by omega)) ?_
        intro v159 c160
        refine tr_iload_n dX5_judge_118 hl81 ?_
        refine tr_iload dX5_judge_119 hl83 ?_
        refine q_callSNi hE (M' := mX10_bit) (as := [_, _]) dX5_judge_121 lk5_84 inX10_bit myX10_bit ⟨by decide, by decide⟩ rfl (Nat.le_of_ble_eq_true rfl) rfl rfl (by decide) (by decide) (f_X10_bitX   (by omega) (by omega)) ?_
        rintro v166 cn' K' N' I161 R162 L163 ⟨rfl, rfl, rfl, rfl, rfl, rfl, p167, -⟩
        have btv166 := bt_01 x3.toInt v77.toInt
        have hy168 : v166.toInt = gu v77.toInt.toNat := by have z : bt _ _ = (if _ then _ else _) := hV.2.2 v77.toInt.toNat (by omega); rw [show ((v77.toInt.toNat : Nat) : Int) = v77.toInt by omega, if_pos (by omega)] at z; omega
        refine tr_iload dX5_judge_124 hl82 ?_
        refine tr_iload dX5_judge_126 rfl ?_
        refine q_callSNi hE (M' := mX10_bit) (as := [_, _]) dX5_judge_128 lk5_84 inX10_bit myX10_bit ⟨by decide, by decide⟩ rfl (Nat.le_of_ble_eq_true rfl) rfl rfl (by decide) (by decide) (f_X10_bitX   (by omega) (by omega)) ?_
        rintro v174 cn' K' N' I169 R170 L171 ⟨rfl, rfl, rfl, rfl, rfl, rfl, p175, -⟩
        have btv174 := bt_01 v72.toInt v96.toInt
        have hy176 : v174.toInt = nzK gZ (nzT gZ 35 v77.toInt.toNat) x1.toInt := by have z := rp73.2.2 v96.toInt.toNat (by omega); rw [show ((v96.toInt.toNat : Nat) : Int) = v96.toInt by omega] at z; rw [← hh98]; omega
        refine tr_iand dX5_judge_131 ?_
        obtain ⟨v177, lx178⟩ : ∃ z, z = v166 &&& v174 := ⟨_, rfl⟩
        rw [← lx178]
        have ha179 : v177.toInt = if v166.toInt = 1 ∧ v174.toInt = 1 then 1 else 0 := by rw [lx178]; exact an_01 (by omega) (by omega)
        refine tr_iadd dX5_judge_132 ?_
        obtain ⟨v180, lx181⟩ : ∃ z, z = v159 + v177 := ⟨_, rfl⟩
        rw [← lx181]
        refine q_iast dX5_judge_133 (kR48 hS156.1 ta39) (ti_in (nR48 hS156.1 ta39) (by omega) (by omega)) hS156 ta39 (iokF rfl) rfl (by rfl) ?_
        intro I182 hS183 e185 f184
        refine q_iincE dX5_judge_134 hl83 (by decide) (by decide) (by intros; omega) ?_
        intro v186 h187
        refine tr_goto 13 dX5_judge_137 (by decide) ?_
        exact ih93 _ v186 I182 hl78 hl79 hl80 hl81 hl82 rfl hS183 (by omega) (by omega) (TA3y (g := (fun k => if ¬ gb k = -2 ∧ nzC gZ (nzT gZ 35 k) x1.toInt = 1 then 1 else 0)) (J := I84) rw88 (by omega) (by omega) (by omega) ⟨RwD.one c119 lx124 (Eq.trans ((f184 _ _ (fun q => by have z := ta33; rw [q.1, ta39] at z; exact absurd z (by decide))).trans ((f157 _ _ (fun q => by have z := ta33; rw [q.1, ta37] at z; exact absurd z (by decide))).trans (f142 _ _ (fun q => by have z := ta33; rw [q.1, ta35] at z; exact absurd z (by decide))))) e128) (by show v120.toInt = if ¬ gb v77.toInt.toNat = -2 ∧ nzC gZ (nzT gZ 35 v77.toInt.toNat) x1.toInt = 1 then 1 else 0; rw [ha122]; split <;> split <;> omega), fun j hj => ((f184 _ _ (fun q => by have z := ta33; rw [q.1, ta39] at z; exact absurd z (by decide))).trans ((f157 _ _ (fun q => by have z := ta33; rw [q.1, ta37] at z; exact absurd z (by decide))).trans ((f142 _ _ (fun q => by have z := ta33; rw [q.1, ta35] at z; exact absurd z (by decide))).trans (f127 _ _ (fun q => hj q.2)))))⟩ rfl (b8of if01)) (TA3y (g := (fun k => if ¬ gb k = -2 ∧ ¬ nzC gZ (nzT gZ 35 k) x1.toInt = 1 then 1 else 0)) (J := I125) (fun u hu => RwD.kp (rw89 u hu) (f127 _ _ (fun q => by have z := ta35; rw [q.1, ta33] at z; exact absurd z (by decide)))) (by omega) (by omega) (by omega) ⟨RwD.one c130 lx139 (Eq.trans ((f184 _ _ (fun q => by have z := ta35; rw [q.1, ta39] at z; exact absurd z (by decide))).trans (f157 _ _ (fun q => by have z := ta35; rw [q.1, ta37] at z; exact absurd z (by decide)))) e143) (by show v135.toInt = if ¬ gb v77.toInt.toNat = -2 ∧ ¬ nzC gZ (nzT gZ 35 v77.toInt.toNat) x1.toInt = 1 then 1 else 0; rw [ha137]; split <;> split <;> omega), fun j hj => ((f184 _ _ (fun q => by have z := ta35; rw [q.1, ta39] at z; exact absurd z (by decide))).trans ((f157 _ _ (fun q => by have z := ta35; rw [q.1, ta37] at z; exact absurd z (by decide))).trans (f142 _ _ (fun q => hj q.2))))⟩ rfl (b8of if01)) (TA3y (g := (fun k => if gb k = -2 ∧ nzC gZ (nzT gZ 35 k) x1.toInt = 1 then 1 else 0)) (J := I140) (fun u hu => RwD.kp (rw90 u hu) ((f142 _ _ (fun q => by have z := ta37; rw [q.1, ta35] at z; exact absurd z (by decide))).trans (f127 _ _ (fun q => by have z := ta37; rw [q.1, ta33] at z; exact absurd z (by decide))))) (by omega) (by omega) (by omega) ⟨RwD.one c145 lx154 (Eq.trans (f184 _ _ (fun q => by have z := ta37; rw [q.1, ta39] at z; exact absurd z (by decide))) e158) (by show v150.toInt = if gb v77.toInt.toNat = -2 ∧ nzC gZ (nzT gZ 35 v77.toInt.toNat) x1.toInt = 1 then 1 else 0; rw [ha152]; split <;> split <;> omega), fun j hj => ((f184 _ _ (fun q => by have z := ta37; rw [q.1, ta39] at z; exact absurd z (by decide))).trans (f157 _ _ (fun q => hj q.2)))⟩ rfl (b8of if01)) (TA3y (g := (fun k => if gu k = 1 ∧ nzK gZ (nzT gZ 35 k) x1.toInt = 1 then 1 else 0)) (J := I155) (fun u hu => RwD.kp (rw91 u hu) ((f157 _ _ (fun q => by have z := ta39; rw [q.1, ta37] at z; exact absurd z (by decide))).trans ((f142 _ _ (fun q => by have z := ta39; rw [q.1, ta35] at z; exact absurd z (by decide))).trans (f127 _ _ (fun q => by have z := ta39; rw [q.1, ta33] at z; exact absurd z (by decide)))))) (by omega) (by omega) (by omega) ⟨RwD.one c160 lx181 e185 (by show v177.toInt = if gu v77.toInt.toNat = 1 ∧ nzK gZ (nzT gZ 35 v77.toInt.toNat) x1.toInt = 1 then 1 else 0; rw [ha179]; split <;> split <;> omega), fun j hj => (f184 _ _ (fun q => hj q.2))⟩ rfl (b8of if01)) ((((rw92.pu f127 (s := 4) (by omega) (by omega) d34 ta33 (by decide)).pu f142 (s := 5) (by omega) (by omega) d36 ta35 (by decide)).pu f157 (s := 6) (by omega) (by omega) d38 ta37 (by decide)).pu f184 (s := 7) (by omega) (by omega) d40 ta39 (by decide)) (by omega)
  exact lp93 _ _ v75 I0 rfl rfl rfl rfl rfl rfl hS0 (by omega) (by omega) (fun u _ => RwD.z rfl (if_neg (by omega))) (fun u _ => RwD.z rfl (if_neg (by omega))) (fun u _ => RwD.z rfl (if_neg (by omega))) (fun u _ => RwD.z rfl (if_neg (by omega))) (FrN.rf (R := R0) (n := a0) (T := T)) (Nat.lt_succ_self _)
