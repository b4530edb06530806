set_option maxHeartbeats 4000000 in
theorem fk_X4_holds {l : Launch} {T : Nat → Nat} {cn : Nat} {K N : Nat → Nat} {I0 : cz_I} {R0 : cz_R} {L0 : cz_L} {d : Int} (hW0 : Wf T cn K N I0 R0 d)  {a0 : Nat} (ta0 : T a0 = 6) {x1 : Int32} : ConE l mX4_holds [.ref a0, .int x1] cn K N I0 R0 L0 (ca_i (fun v cn' K' N' I' R' L' => cn = cn' ∧ K = K' ∧ N = N' ∧ I0 = I' ∧ R0 = R' ∧ L0 = L' ∧ (0 ≤ v.toInt ∧ v.toInt ≤ 1) ∧ (∀ r, R0 a0 1 = some r → v.toInt = exI (fun k => if (I0 r k).toInt = x1.toInt then 1 else 0) (I0 a0 0).toInt.toNat) ∧ True)) := by
  refine ConE.of (by decide +kernel) rfl (Nat.le_of_ble_eq_true rfl) rfl (fun X hX hZ hE => ?_)
  subst hX
  obtain ⟨v1, c2⟩ : ∃ v, I0 a0 0 = v := ⟨_, rfl⟩
  have b3 := iv6_0 hW0 ta0 c2
  obtain ⟨a4, d5, ta4⟩ := rf6_1 hW0 ta0
  refine q_iconst dX4_holds_0 (by decide) ?_
  intro v6 h7
  refine tr_istore_n dX4_holds_1 (by decide) (by decide) ?_
  have lp15 : ∀ (fu : Nat) (ls : Nat → Option Value) (v8 : Int32), ls 0 = some (.ref a0) → ls 1 = some (.int x1) → ls 2 = some (.int v8) → 0 ≤ v8.toInt → v8.toInt ≤ v1.toInt → (exI (fun k => if (I0 a4 k).toInt = x1.toInt then 1 else 0) v8.toInt.toNat = 0) → (-v8.toInt + 2147483647).toNat < fu → Tr X mX4_holds 2 ls [] cn K N I0 R0 L0 0 0 := by
    intro fu
    induction fu with
    | zero => intros; rename_i hz; exact absurd hz (Nat.not_lt_zero _)
    | succ fu ih15 =>
      intro ls v8 hl9 hl10 hl11 g12 g13 rw14 hm15
      refine tr_iload_n dX4_holds_2 hl11 ?_
      refine tr_aload_n dX4_holds_3 hl9 ?_
      refine q_getI dX4_holds_4 fl4_15 (kR6 hW0 ta0) c2 ?_
      refine q_icmp_ge 28 dX4_holds_7 (by decide) (fun h17 => ?_) (fun h17 => ?_)
      · skip
        refine q_iconst dX4_holds_28 (by decide) ?_
        intro v18 h19
        exact tr_zret hZ dX4_holds_29 rfl (ti_b01 (by omega) (by omega)) (by decide) (by decide) ⟨v18, rfl, rfl, rfl, rfl, rfl, rfl, rfl, (by omega), (fun r hr => by obtain rfl := Option.some.inj (d5.symm.trans hr); rw [show (I0 a0 0).toInt.toNat = v8.toInt.toNat from congrArg Int.toNat (by rw [c2]; omega), rw14]; omega), trivial⟩
      · skip
        refine tr_aload_n dX4_holds_10 hl9 ?_
        refine tr_getR dX4_holds_11 fl4_9 (kR6 hW0 ta0) d5 ?_
        refine tr_iload_n dX4_holds_14 hl11 ?_
        refine q_iald dX4_holds_15 (kR24 hW0 ta4) (ti_in (nR24 hW0 ta4) (by omega) (by omega)) ?_
        intro v20 c21
        have b22 := iv24 hW0 ta4 c21
        refine tr_iload_n dX4_holds_16 hl10 ?_
        refine q_icmp_ne 22 dX4_holds_17 (by decide) (fun h23 => ?_) (fun h23 => ?_)
        · skip
          refine q_iincE dX4_holds_22 hl11 (by decide) (by decide) (by intros; omega) ?_
          intro v24 h25
          refine tr_goto 2 dX4_holds_25 (by decide) ?_
          exact ih15 _ v24 hl9 hl10 rfl (by omega) (by omega) (by rw [show v24.toInt.toNat = v8.toInt.toNat + 1 by omega]; exact exI_s rw14 (by show ¬ (if (I0 a4 v8.toInt.toNat).toInt = x1.toInt then (1 : Int) else 0) = 1; rw [show I0 a4 v8.toInt.toNat = v20 from c21, if_neg (by omega)]; decide)) (by omega)
        · skip
          refine q_iconst dX4_holds_20 (by decide) ?_
          intro v26 h27
          exact tr_zret hZ dX4_holds_21 rfl (ti_b01 (by omega) (by omega)) (by decide) (by decide) ⟨v26, rfl, rfl, rfl, rfl, rfl, rfl, rfl, (by omega), (fun r hr => by obtain rfl := Option.some.inj (d5.symm.trans hr); rw [exI_1 _ v8.toInt.toNat (by rw [c2]; omega) (by show (if (I0 a4 v8.toInt.toNat).toInt = x1.toInt then (1 : Int) else 0) = 1; rw [show I0 a4 v8.toInt.toNat = v20 from c21, if_pos (by omega)])]; omega), trivial⟩
  exact lp15 _ _ v6 rfl rfl rfl (by omega) (by omega) (by rw [show v6.toInt.toNat = 0 by omega]; rfl) (Nat.lt_succ_self _)
set_option maxHeartbeats 4000000 in
theorem fk_X5_isCalled {l : Launch} {T : Nat → Nat} {cn : Nat} {K N : Nat → Nat} {I0 : cz_I} {R0 : cz_R} {L0 : cz_L} {d : Int} (hW0 : Wf T cn K N I0 R0 d) (gZ : cz_N) {a0 : Nat} (ta0 : T a0 = 13) {x1 : Int32} (hx1 : 0 ≤ x1.toInt ∧ x1.toInt ≤ 4) {x2 : Int32} (hx2 : 0 ≤ x2.toInt ∧ x2.toInt ≤ 239) (hP : NgP I0 R0 a0 gZ) (hG : GdN gZ) : ConE l mX5_isCalled [.ref a0, .int x1, .int x2] cn K N I0 R0 L0 (ca_i (fun v cn' K' N' I' R' L' => cn = cn' ∧ K = K' ∧ N = N' ∧ I0 = I' ∧ R0 = R' ∧ L0 = L' ∧ (0 ≤ v.toInt ∧ v.toInt ≤ 1) ∧ (v.toInt = exI (clZ gZ x1.toInt x2.toInt) (nzc gZ 5).toNat) ∧ True)) := by
  refine ConE.of (by decide +kernel) rfl (Nat.le_of_ble_eq_true rfl) rfl (fun X hX hZ hE => ?_)
  subst hX
  obtain ⟨a1, d2, ta1⟩ := rf13_0 hW0 ta0
  obtain ⟨v3, c4⟩ : ∃ v, I0 a1 11 = v := ⟨_, rfl⟩
  have b5 := iv2_11 hW0 ta1 c4
  obtain ⟨a6, d7, ta6⟩ := rf13_1 hW0 ta0
  obtain ⟨a8, d9, ta8⟩ := rf2_2 hW0 ta1
  obtain ⟨a10, d11, ta10⟩ := rf2_6 hW0 ta1
  obtain ⟨a12, d13, ta12⟩ := rf2_8 hW0 ta1
  obtain ⟨a14, d15, ta14⟩ := rf2_10 hW0 ta1
  obtain ⟨a16, d17, ta16⟩ := rf2_12 hW0 ta1
  obtain ⟨a18, d19, ta18⟩ := rf12_2 hW0 ta6
  obtain ⟨a20, d21, ta20⟩ := rf12_3 hW0 ta6
  obtain ⟨a22, d23, ta22⟩ := rf12_5 hW0 ta6
  obtain ⟨a24, d25, ta24⟩ := rf12_8 hW0 ta6
  obtain ⟨a26, d27, ta26⟩ := rf12_9 hW0 ta6
  obtain ⟨a28, d29, ta28⟩ := rf12_11 hW0 ta6
  obtain ⟨a30, d31, ta30⟩ := rf13_3 hW0 ta0
  obtain ⟨a32, d33, ta32⟩ := rf13_4 hW0 ta0
  obtain ⟨a34, d35, ta34⟩ := rf13_5 hW0 ta0
  obtain ⟨a36, d37, ta36⟩ := rf13_6 hW0 ta0
  obtain ⟨a38, d39, ta38⟩ := rf13_7 hW0 ta0
  obtain ⟨a40, d41, ta40⟩ := rf13_8 hW0 ta0
  obtain ⟨a42, d43, ta42⟩ := rf13_9 hW0 ta0
  obtain ⟨a44, d45, ta44⟩ := rf13_10 hW0 ta0
  obtain ⟨a46, d47, ta46⟩ := rf13_11 hW0 ta0
  obtain ⟨v48, c49⟩ : ∃ v, I0 a1 0 = v := ⟨_, rfl⟩
  have b50 := iv2_0 hW0 ta1 c49
  obtain ⟨v51, c52⟩ : ∃ v, I0 a1 1 = v := ⟨_, rfl⟩
  have b53 := iv2_1 hW0 ta1 c52
  obtain ⟨v54, c55⟩ : ∃ v, I0 a1 5 = v := ⟨_, rfl⟩
  have b56 := iv2_5 hW0 ta1 c55
  obtain ⟨v57, c58⟩ : ∃ v, I0 a1 7 = v := ⟨_, rfl⟩
  obtain ⟨v59, c60⟩ : ∃ v, I0 a1 9 = v := ⟨_, rfl⟩
  have b61 := iv2_9 hW0 ta1 c60
  obtain ⟨v62, c63⟩ : ∃ v, I0 a0 2 = v := ⟨_, rfl⟩
  have hA64 := hP _ _ d2 d7
  have hc65 := hA64.1.ct
  rw [c49, c52, c55, c60, c4, c58] at hc65
  have hc65g := hG.cs
  have hc65m := hA64.2.2
  rw [c63] at hc65m
  have hc65n := hG.ms
  refine q_iconst dX5_isCalled_0 (by decide) ?_
  intro v66 h67
  refine tr_istore_n dX5_isCalled_1 (by decide) (by decide) ?_
  have lp76 : ∀ (fu : Nat) (ls : Nat → Option Value) (v68 : Int32), ls 0 = some (.ref a0) → ls 1 = some (.int x1) → ls 2 = some (.int x2) → ls 3 = some (.int v68) → 0 ≤ v68.toInt → v68.toInt ≤ v3.toInt → (exI (clZ gZ x1.toInt x2.toInt) v68.toInt.toNat = 0) → (-v68.toInt + 2147483647).toNat < fu → Tr X mX5_isCalled 2 ls [] cn K N I0 R0 L0 0 0 := by
    intro fu
    induction fu with
    | zero => intros; rename_i hz; exact absurd hz (Nat.not_lt_zero _)
    | succ fu ih76 =>
      intro ls v68 hl69 hl70 hl71 hl72 g73 g74 rw75 hm76
      refine tr_iload_n dX5_isCalled_2 hl72 ?_
      refine tr_aload_n dX5_isCalled_3 hl69 ?_
      refine tr_getR dX5_isCalled_4 fl5_39 (kR13 hW0 ta0) d2 ?_
      refine q_getI dX5_isCalled_7 fl5_141 (kR2 hW0 ta1) c4 ?_
      refine q_icmp_ge 77 dX5_isCalled_10 (by decide) (fun h78 => ?_) (fun h78 => ?_)
      · skip
        refine q_iconst dX5_isCalled_77 (by decide) ?_
        intro v79 h80
        exact tr_zret hZ dX5_isCalled_78 rfl (ti_b01 (by omega) (by omega)) (by decide) (by decide) ⟨v79, rfl, rfl, rfl, rfl, rfl, rfl, rfl, (by omega), (by rw [show (nzc gZ 5).toNat = v68.toInt.toNat from congrArg Int.toNat (by omega), rw75]; omega), trivial⟩
      · skip
        refine tr_aload_n dX5_isCalled_13 hl69 ?_
        refine tr_getR dX5_isCalled_14 fl5_39 (kR13 hW0 ta0) d2 ?_
        refine tr_getR dX5_isCalled_17 fl5_144 (kR2 hW0 ta1) d17 ?_
        refine tr_iload_n dX5_isCalled_20 hl72 ?_
        obtain ⟨a81, d82, ta81⟩ := rf22 hW0 ta16 (j := v68.toNatClampNeg) (ti_lt (by omega) (by omega))
        refine tr_aald dX5_isCalled_21 (kR22 hW0 ta16) (by decide) (by decide) (ti_in (nR22 hW0 ta16) (by omega) (by omega)) d82 ?_
        refine tr_astore dX5_isCalled_22 (by decide) (by decide) ?_
        obtain ⟨v84, c85⟩ : ∃ v, I0 a81 0 = v := ⟨_, rfl⟩
        obtain ⟨v86, c87⟩ : ∃ v, I0 a81 1 = v := ⟨_, rfl⟩
        obtain ⟨v88, c89⟩ : ∃ v, I0 a81 2 = v := ⟨_, rfl⟩
        obtain ⟨v90, c91⟩ : ∃ v, I0 a81 3 = v := ⟨_, rfl⟩
        have ho83 := hA64.1.ca d17 (k := v68.toInt.toNat) (by omega) (by omega) d82
        rw [c85, c87, c89, c91] at ho83
        have ho83g := hG.ca (k := v68.toInt.toNat) (by omega)
        refine tr_aload_n dX5_isCalled_24 hl69 ?_
        refine q_getI dX5_isCalled_25 fl5_47 (kR13 hW0 ta0) c63 ?_
        refine tr_iload_n dX5_isCalled_28 hl72 ?_
        refine q_callSNi hE (M' := mX10_bit) (as := [_, _]) dX5_isCalled_29 lk5_84 inX10_bit myX10_bit ⟨by decide, by decide⟩ rfl (Nat.le_of_ble_eq_true rfl) rfl rfl (by decide) (by decide) (f_X10_bitX   (by omega) (by omega)) ?_
        rintro v97 cn' K' N' I92 R93 L94 ⟨rfl, rfl, rfl, rfl, rfl, rfl, p98, -⟩
        have btv97 := bt_01 v62.toInt v68.toInt
        refine q_iconst dX5_isCalled_32 (by decide) ?_
        intro v99 h100
        refine q_icmp_ne 71 dX5_isCalled_33 (by decide) (fun h101 => ?_) (fun h101 => ?_)
        · skip
          refine q_iincE dX5_isCalled_71 hl72 (by decide) (by decide) (by intros; omega) ?_
          intro v102 h103
          refine tr_goto 2 dX5_isCalled_74 (by decide) ?_
          exact ih76 _ v102 hl69 hl70 hl71 rfl (by omega) (by omega) (by rw [show v102.toInt.toNat = v68.toInt.toNat + 1 by omega]; exact exI_s rw75 (clZ_n (fun z1 z2 z3 z4 => by rw [show ((v68.toInt.toNat : Nat) : Int) = v68.toInt by omega, show bt (nzM gZ) v68.toInt = v97.toInt by rw [← hc65m]; omega] at z1; omega))) (by omega)
        · skip
          refine tr_aload dX5_isCalled_36 rfl ?_
          refine q_getI dX5_isCalled_38 fl5_147 (kR5 hW0 ta81) c85 ?_
          refine tr_iload_n dX5_isCalled_41 hl70 ?_
          refine q_icmp_ne 71 dX5_isCalled_42 (by decide) (fun h104 => ?_) (fun h104 => ?_)
          · skip
            refine q_iincE dX5_isCalled_71 hl72 (by decide) (by decide) (by intros; omega) ?_
            intro v105 h106
            refine tr_goto 2 dX5_isCalled_74 (by decide) ?_
            exact ih76 _ v105 hl69 hl70 hl71 rfl (by omega) (by omega) (by rw [show v105.toInt.toNat = v68.toInt.toNat + 1 by omega]; exact exI_s rw75 (clZ_n (fun z1 z2 z3 z4 => by rw [show ((v68.toInt.toNat : Nat) : Int) = v68.toInt by omega, show bt (nzM gZ) v68.toInt = v97.toInt by rw [← hc65m]; omega] at z1; omega))) (by omega)
          · skip
            refine tr_iload_n dX5_isCalled_45 hl71 ?_
            refine tr_aload dX5_isCalled_46 rfl ?_
            refine q_getI dX5_isCalled_48 fl5_152 (kR5 hW0 ta81) c87 ?_
            refine q_icmp_lt 71 dX5_isCalled_51 (by decide) (fun h107 => ?_) (fun h107 => ?_)
            · skip
              refine q_iincE dX5_isCalled_71 hl72 (by decide) (by decide) (by intros; omega) ?_
              intro v108 h109
              refine tr_goto 2 dX5_isCalled_74 (by decide) ?_
              exact ih76 _ v108 hl69 hl70 hl71 rfl (by omega) (by omega) (by rw [show v108.toInt.toNat = v68.toInt.toNat + 1 by omega]; exact exI_s rw75 (clZ_n (fun z1 z2 z3 z4 => by rw [show ((v68.toInt.toNat : Nat) : Int) = v68.toInt by omega, show bt (nzM gZ) v68.toInt = v97.toInt by rw [← hc65m]; omega] at z1; omega))) (by omega)
            · skip
              refine tr_iload_n dX5_isCalled_54 hl71 ?_
              refine tr_aload dX5_isCalled_55 rfl ?_
              refine q_getI dX5_isCalled_57 fl5_152 (kR5 hW0 ta81) c87 ?_
              refine tr_aload dX5_isCalled_60 rfl ?_
              refine q_getI dX5_isCalled_62 fl5_155 (kR5 hW0 ta81) c89 ?_
              refine q_iaddE dX5_isCalled_65 (by intros; omega) ?_
              intro v110 h111
              refine q_icmp_ge 71 dX5_isCalled_66 (by decide) (fun h112 => ?_) (fun h112 => ?_)
              · skip
                refine q_iincE dX5_isCalled_71 hl72 (by decide) (by decide) (by intros; omega) ?_
                intro v113 h114
                refine tr_goto 2 dX5_isCalled_74 (by decide) ?_
                exact ih76 _ v113 hl69 hl70 hl71 rfl (by omega) (by omega) (by rw [show v113.toInt.toNat = v68.toInt.toNat + 1 by omega]; exact exI_s rw75 (clZ_n (fun z1 z2 z3 z4 => by rw [show ((v68.toInt.toNat : Nat) : Int) = v68.toInt by omega, show bt (nzM gZ) v68.toInt = v97.toInt by rw [← hc65m]; omega] at z1; omega))) (by omega)
              · skip
                refine q_iconst dX5_isCalled_69 (by decide) ?_
                intro v115 h116
                exact tr_zret hZ dX5_isCalled_70 rfl (ti_b01 (by omega) (by omega)) (by decide) (by decide) ⟨v115, rfl, rfl, rfl, rfl, rfl, rfl, rfl, (by omega), (by rw [exI_1 _ v68.toInt.toNat (by omega) (clZ_1 (by rw [show ((v68.toInt.toNat : Nat) : Int) = v68.toInt by omega, show bt (nzM gZ) v68.toInt = v97.toInt by rw [← hc65m]; omega]; omega) (by omega) (by omega) (by omega))]; omega), trivial⟩
  exact lp76 _ _ v66 rfl rfl rfl rfl (by omega) (by omega) (by rw [show v66.toInt.toNat = 0 by omega]; rfl) (Nat.lt_succ_self _)
set_option maxHeartbeats 4000000 in
theorem fk_X5_isAwake {l : Launch} {T : Nat → Nat} {cn : Nat} {K N : Nat → Nat} {I0 : cz_I} {R0 : cz_R} {L0 : cz_L} {d : Int} (hW0 : Wf T cn K N I0 R0 d) (gZ : cz_N) {a0 : Nat} (ta0 : T a0 = 13) {x1 : Int32} (hx1 : 0 ≤ x1.toInt ∧ x1.toInt ≤ 4) {x2 : Int32} (hx2 : 0 ≤ x2.toInt ∧ x2.toInt ≤ 239) (hP : NgP I0 R0 a0 gZ) (hG : GdN gZ) (pre0 : x1.toInt < (nzc gZ 4)) (pre1 : x2.toInt < (nzc gZ 0)) : ConE l mX5_isAwake [.ref a0, .int x1, .int x2] cn K N I0 R0 L0 (ca_i (fun v cn' K' N' I' R' L' => cn = cn' ∧ K = K' ∧ N = N' ∧ I0 = I' ∧ R0 = R' ∧ L0 = L' ∧ (0 ≤ v.toInt ∧ v.toInt ≤ 1) ∧ (v.toInt = awZ gZ x1.toInt.toNat x2.toInt) ∧ True)) := by
  refine ConE.of (by decide +kernel) rfl (Nat.le_of_ble_eq_true rfl) rfl (fun X hX hZ hE => ?_)
  subst hX
  have p1 := pre0
  have p2 := pre1
  obtain ⟨a3, d4, ta3⟩ := rf13_0 hW0 ta0
  obtain ⟨a5, d6, ta5⟩ := rf13_1 hW0 ta0
  obtain ⟨a7, d8, ta7⟩ := rf2_2 hW0 ta3
  obtain ⟨a9, d10, ta9⟩ := rf2_6 hW0 ta3
  obtain ⟨a11, d12, ta11⟩ := rf2_8 hW0 ta3
  obtain ⟨a13, d14, ta13⟩ := rf2_10 hW0 ta3
  obtain ⟨a15, d16, ta15⟩ := rf2_12 hW0 ta3
  obtain ⟨a17, d18, ta17⟩ := rf12_2 hW0 ta5
  obtain ⟨a19, d20, ta19⟩ := rf12_3 hW0 ta5
  obtain ⟨a21, d22, ta21⟩ := rf12_5 hW0 ta5
  obtain ⟨a23, d24, ta23⟩ := rf12_8 hW0 ta5
  obtain ⟨a25, d26, ta25⟩ := rf12_9 hW0 ta5
  obtain ⟨a27, d28, ta27⟩ := rf12_11 hW0 ta5
  obtain ⟨a29, d30, ta29⟩ := rf13_3 hW0 ta0
  obtain ⟨a31, d32, ta31⟩ := rf13_4 hW0 ta0
  obtain ⟨a33, d34, ta33⟩ := rf13_5 hW0 ta0
  obtain ⟨a35, d36, ta35⟩ := rf13_6 hW0 ta0
  obtain ⟨a37, d38, ta37⟩ := rf13_7 hW0 ta0
  obtain ⟨a39, d40, ta39⟩ := rf13_8 hW0 ta0
  obtain ⟨a41, d42, ta41⟩ := rf13_9 hW0 ta0
  obtain ⟨a43, d44, ta43⟩ := rf13_10 hW0 ta0
  obtain ⟨a45, d46, ta45⟩ := rf13_11 hW0 ta0
  obtain ⟨v47, c48⟩ : ∃ v, I0 a3 0 = v := ⟨_, rfl⟩
  have b49 := iv2_0 hW0 ta3 c48
  obtain ⟨v50, c51⟩ : ∃ v, I0 a3 1 = v := ⟨_, rfl⟩
  have b52 := iv2_1 hW0 ta3 c51
  obtain ⟨v53, c54⟩ : ∃ v, I0 a3 5 = v := ⟨_, rfl⟩
  have b55 := iv2_5 hW0 ta3 c54
  obtain ⟨v56, c57⟩ : ∃ v, I0 a3 7 = v := ⟨_, rfl⟩
  obtain ⟨v58, c59⟩ : ∃ v, I0 a3 9 = v := ⟨_, rfl⟩
  have b60 := iv2_9 hW0 ta3 c59
  obtain ⟨v61, c62⟩ : ∃ v, I0 a3 11 = v := ⟨_, rfl⟩
  have b63 := iv2_11 hW0 ta3 c62
  obtain ⟨v64, c65⟩ : ∃ v, I0 a0 2 = v := ⟨_, rfl⟩
  have hA66 := hP _ _ d4 d6
  have hc67 := hA66.1.ct
  rw [c48, c51, c54, c59, c62, c57] at hc67
  have hc67g := hG.cs
  have hc67m := hA66.2.2
  rw [c65] at hc67m
  have hc67n := hG.ms
  refine tr_aload_n dX5_isAwake_0 rfl ?_
  refine tr_getR dX5_isAwake_1 fl5_39 (kR13 hW0 ta0) d4 ?_
  refine tr_getR dX5_isAwake_4 fl5_90 (kR2 hW0 ta3) d14 ?_
  refine tr_iload_n dX5_isAwake_7 rfl ?_
  obtain ⟨a68, d69, ta68⟩ := rf21 hW0 ta13 (j := x1.toNatClampNeg) (ti_lt (by omega) (by omega))
  refine tr_aald dX5_isAwake_8 (kR21 hW0 ta13) (by decide) (by decide) (ti_in (nR21 hW0 ta13) (by omega) (by omega)) d69 ?_
  refine tr_astore_n dX5_isAwake_9 (by decide) (by decide) ?_
  obtain ⟨v71, c72⟩ : ∃ v, I0 a68 0 = v := ⟨_, rfl⟩
  obtain ⟨v73, c74⟩ : ∃ v, I0 a68 1 = v := ⟨_, rfl⟩
  obtain ⟨v75, c76⟩ : ∃ v, I0 a68 2 = v := ⟨_, rfl⟩
  obtain ⟨v77, c78⟩ : ∃ v, I0 a68 3 = v := ⟨_, rfl⟩
  obtain ⟨v79, c80⟩ : ∃ v, I0 a68 4 = v := ⟨_, rfl⟩
  obtain ⟨v81, c82⟩ : ∃ v, I0 a68 5 = v := ⟨_, rfl⟩
  have ho70 := hA66.1.tu d14 (k := x1.toInt.toNat) (by omega) (by omega) d69
  rw [c72, c74, c76, c78, c80, c82] at ho70
  have ho70g := hG.tu (t := x1.toInt.toNat) (by omega)
  refine tr_iload_n dX5_isAwake_10 rfl ?_
  refine tr_aload_n dX5_isAwake_11 rfl ?_
  refine q_getI dX5_isAwake_12 fl5_125 (kR4 hW0 ta68) c74 ?_
  refine q_icmp_lt 28 dX5_isAwake_15 (by decide) (fun h83 => ?_) (fun h83 => ?_)
  · skip
    refine tr_aload_n dX5_isAwake_28 rfl ?_
    refine q_getI dX5_isAwake_29 fl5_131 (kR4 hW0 ta68) c72 ?_
    refine q_iconst dX5_isAwake_32 (by decide) ?_
    intro v84 h85
    refine q_icmp_ne 38 dX5_isAwake_33 (by decide) (fun h86 => ?_) (fun h86 => ?_)
    · skip
      refine tr_aload_n dX5_isAwake_38 rfl ?_
      refine tr_getR dX5_isAwake_39 fl5_43 (kR13 hW0 ta0) d6 ?_
      refine tr_getR dX5_isAwake_42 fl5_134 (kR12 hW0 ta5) d18 ?_
      refine tr_iload_n dX5_isAwake_45 rfl ?_
      refine q_zald dX5_isAwake_46 (kR35 hW0 ta17) (ti_in (nR35 hW0 ta17) (by omega) (by omega)) ?_
      intro v87 c88
      have b89 := iv35 hW0 ta17 c88
      refine q_if_ne 59 dX5_isAwake_47 (by decide) (fun h90 => ?_) (fun h90 => ?_)
      · skip
        refine q_iconst dX5_isAwake_59 (by decide) ?_
        intro v91 h92
        refine tr_goto 64 dX5_isAwake_60 (by decide) ?_
        exact tr_zret hZ dX5_isAwake_64 rfl (ti_b01 (by omega) (by omega)) (by decide) (by decide) ⟨v91, rfl, rfl, rfl, rfl, rfl, rfl, rfl, (by omega), (by have ye := hA66.2.1.1 _ d18 x2.toInt.toNat (by omega); rw [show I0 a17 x2.toInt.toNat = v87 from c88, show ((x2.toInt.toNat : Nat) : Int) = x2.toInt by omega] at ye; unfold awZ; repeat' (first | omega | split)), trivial⟩
      · skip
        refine tr_aload_n dX5_isAwake_50 rfl ?_
        refine tr_iload_n dX5_isAwake_51 rfl ?_
        refine tr_iload_n dX5_isAwake_52 rfl ?_
        refine q_callVi hE (M' := mX5_isCalled) (as := [_, _]) dX5_isAwake_53 lk5_138 inX5_isCalled seX5_isCalled myX5_isCalled (by decide) ⟨by decide, by decide⟩ rfl (kR13 hW0 ta0) (Nat.le_of_ble_eq_true rfl) rfl rfl (by decide) (by decide) (fk_X5_isCalled hW0 (gZ) ta0 (by omega) (by omega) hP hG) ?_
        rintro v98 cn' K' N' I93 R94 L95 ⟨rfl, rfl, rfl, rfl, rfl, rfl, h99, rp100, -⟩
        refine q_if_eq 63 dX5_isAwake_56 (by decide) (fun h101 => ?_) (fun h101 => ?_)
        · skip
          refine q_iconst dX5_isAwake_63 (by decide) ?_
          intro v102 h103
          exact tr_zret hZ dX5_isAwake_64 rfl (ti_b01 (by omega) (by omega)) (by decide) (by decide) ⟨v102, rfl, rfl, rfl, rfl, rfl, rfl, rfl, (by omega), (by have ye := hA66.2.1.1 _ d18 x2.toInt.toNat (by omega); rw [show I0 a17 x2.toInt.toNat = v87 from c88, show ((x2.toInt.toNat : Nat) : Int) = x2.toInt by omega] at ye; have yc := rp100; rw [show x1.toInt = ((x1.toInt.toNat : Nat) : Int) by omega] at yc; unfold awZ; repeat' (first | omega | split)), trivial⟩
        · skip
          refine q_iconst dX5_isAwake_59 (by decide) ?_
          intro v104 h105
          refine tr_goto 64 dX5_isAwake_60 (by decide) ?_
          exact tr_zret hZ dX5_isAwake_64 rfl (ti_b01 (by omega) (by omega)) (by decide) (by decide) ⟨v104, rfl, rfl, rfl, rfl, rfl, rfl, rfl, (by omega), (by have ye := hA66.2.1.1 _ d18 x2.toInt.toNat (by omega); rw [show I0 a17 x2.toInt.toNat = v87 from c88, show ((x2.toInt.toNat : Nat) : Int) = x2.toInt by omega] at ye; have yc := rp100; rw [show x1.toInt = ((x1.toInt.toNat : Nat) : Int) by omega] at yc; unfold awZ; repeat' (first | omega | split)), trivial⟩
    · skip
      refine q_iconst dX5_isAwake_36 (by decide) ?_
      intro v106 h107
      exact tr_zret hZ dX5_isAwake_37 rfl (ti_b01 (by omega) (by omega)) (by decide) (by decide) ⟨v106, rfl, rfl, rfl, rfl, rfl, rfl, rfl, (by omega), (by unfold awZ; repeat' (first | omega | split)), trivial⟩
  · skip
    refine tr_iload_n dX5_isAwake_18 rfl ?_
    refine tr_aload_n dX5_isAwake_19 rfl ?_
    refine q_getI dX5_isAwake_20 fl5_128 (kR4 hW0 ta68) c76 ?_
    refine q_icmp_ge 28 dX5_isAwake_23 (by decide) (fun h108 => ?_) (fun h108 => ?_)
    · skip
      refine tr_aload_n dX5_isAwake_28 rfl ?_
      refine q_getI dX5_isAwake_29 fl5_131 (kR4 hW0 ta68) c72 ?_
      refine q_iconst dX5_isAwake_32 (by decide) ?_
      intro v109 h110
      refine q_icmp_ne 38 dX5_isAwake_33 (by decide) (fun h111 => ?_) (fun h111 => ?_)
      · skip
        refine tr_aload_n dX5_isAwake_38 rfl ?_
        refine tr_getR dX5_isAwake_39 fl5_43 (kR13 hW0 ta0) d6 ?_
        refine tr_getR dX5_isAwake_42 fl5_134 (kR12 hW0 ta5) d18 ?_
        refine tr_iload_n dX5_isAwake_45 rfl ?_
        refine q_zald dX5_isAwake_46 (kR35 hW0 ta17) (ti_in (nR35 hW0 ta17) (by omega) (by omega)) ?_
        intro v112 c113
        have b114 := iv35 hW0 ta17 c113
        refine q_if_ne 59 dX5_isAwake_47 (by decide) (fun h115 => ?_) (fun h115 => ?_)
        · skip
          refine q_iconst dX5_isAwake_59 (by decide) ?_
          intro v116 h117
          refine tr_goto 64 dX5_isAwake_60 (by decide) ?_
          exact tr_zret hZ dX5_isAwake_64 rfl (ti_b01 (by omega) (by omega)) (by decide) (by decide) ⟨v116, rfl, rfl, rfl, rfl, rfl, rfl, rfl, (by omega), (by have ye := hA66.2.1.1 _ d18 x2.toInt.toNat (by omega); rw [show I0 a17 x2.toInt.toNat = v112 from c113, show ((x2.toInt.toNat : Nat) : Int) = x2.toInt by omega] at ye; unfold awZ; repeat' (first | omega | split)), trivial⟩
        · skip
          refine tr_aload_n dX5_isAwake_50 rfl ?_
          refine tr_iload_n dX5_isAwake_51 rfl ?_
          refine tr_iload_n dX5_isAwake_52 rfl ?_
          refine q_callVi hE (M' := mX5_isCalled) (as := [_, _]) dX5_isAwake_53 lk5_138 inX5_isCalled seX5_isCalled myX5_isCalled (by decide) ⟨by decide, by decide⟩ rfl (kR13 hW0 ta0) (Nat.le_of_ble_eq_true rfl) rfl rfl (by decide) (by decide) (fk_X5_isCalled hW0 (gZ) ta0 (by omega) (by omega) hP hG) ?_
          rintro v123 cn' K' N' I118 R119 L120 ⟨rfl, rfl, rfl, rfl, rfl, rfl, h124, rp125, -⟩
          refine q_if_eq 63 dX5_isAwake_56 (by decide) (fun h126 => ?_) (fun h126 => ?_)
          · skip
            refine q_iconst dX5_isAwake_63 (by decide) ?_
            intro v127 h128
            exact tr_zret hZ dX5_isAwake_64 rfl (ti_b01 (by omega) (by omega)) (by decide) (by decide) ⟨v127, rfl, rfl, rfl, rfl, rfl, rfl, rfl, (by omega), (by have ye := hA66.2.1.1 _ d18 x2.toInt.toNat (by omega); rw [show I0 a17 x2.toInt.toNat = v112 from c113, show ((x2.toInt.toNat : Nat) : Int) = x2.toInt by omega] at ye; have yc := rp125; rw [show x1.toInt = ((x1.toInt.toNat : Nat) : Int) by omega] at yc; unfold awZ; repeat' (first | omega | split)), trivial⟩
          · skip
            refine q_iconst dX5_isAwake_59 (by decide) ?_
            intro v129 h130
            refine tr_goto 64 dX5_isAwake_60 (by decide) ?_
            exact tr_zret hZ dX5_isAwake_64 rfl (ti_b01 (by omega) (by omega)) (by decide) (by decide) ⟨v129, rfl, rfl, rfl, rfl, rfl, rfl, rfl, (by omega), (by have ye := hA66.2.1.1 _ d18 x2.toInt.toNat (by omega); rw [show I0 a17 x2.toInt.toNat = v112 from c113, show ((x2.toInt.toNat : Nat) : Int) = x2.toInt by omega] at ye; have yc := rp125; rw [show x1.toInt = ((x1.toInt.toNat : Nat) : Int) by omega] at yc; unfold awZ; repeat' (first | omega | split)), trivial⟩
      · skip
        refine q_iconst dX5_isAwake_36 (by decide) ?_
        intro v131 h132
        exact tr_zret hZ dX5_isAwake_37 rfl (ti_b01 (by omega) (by omega)) (by decide) (by decide) ⟨v131, rfl, rfl, rfl, rfl, rfl, rfl, rfl, (by omega), (by unfold awZ; repeat' (first | omega | split)), trivial⟩
    · skip
      refine q_iconst dX5_isAwake_26 (by decide) ?_
      intro v133 h134
      exact tr_zret hZ dX5_isAwake_27 rfl (ti_b01 (by omega) (by omega)) (by decide) (by decide) ⟨v133, rfl, rfl, rfl, rfl, rfl, rfl, rfl, (by omega), (by unfold awZ; repeat' (first | omega | split)), trivial⟩
