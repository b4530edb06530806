def wik_X5_turnSome : List Nat := [2879, 3199, 3263, 3327, 3391]
def wrk_X5_turnSome : List Nat := []
set_option maxHeartbeats 4000000 in
theorem fk_X5_turnSome {l : Launch} {T : Nat → Nat} {cn : Nat} {K N : Nat → Nat} {I0 : cz_I} {R0 : cz_R} {L0 : cz_L} {d : Int} (hW0 : Wf T cn K N I0 R0 d) (gZ : cz_N) (gb : Nat → Int) {a0 : Nat} (ta0 : T a0 = 13) {x1 : Int32} (hx1 : 0 ≤ x1.toInt ∧ x1.toInt ≤ 4) {x2 : Int32} (hx2 : 0 ≤ x2.toInt ∧ x2.toInt ≤ 239) {x3 : Int32} (hx3 : 0 ≤ x3.toInt ∧ x3.toInt ≤ 15) {x4 : Int32} (hx4 : 0 ≤ x4.toInt ∧ x4.toInt ≤ 255) (hP : NgP I0 R0 a0 gZ) (hG : GdN gZ) (hU : ∀ h : Nat, (h : Int) < nzc gZ 1 → bt x3.toInt (h : Int) = if bt (nzT gZ (14 + x1.toInt.toNat) 5) (h : Int) = 1 ∧ noZ gZ x1.toInt.toNat (h : Int) x2.toInt = 1 then 1 else 0) (hB : B8 x4 (fun k => if (k : Int) < nzc gZ 3 ∧ ¬ gb k = -2 then 1 else 0)) (hH : ∀ r, R0 a0 3 = some r → Nib (I0 r x2.toInt.toNat) (fun k => if (k : Int) < nzc gZ 3 then gb k else -2)) (pre0 : x1.toInt < (nzc gZ 4)) (pre1 : x2.toInt < (nzc gZ 0)) : ConE l mX5_turnSome [.ref a0, .int x1, .int x2, .int x3, .int x4] cn K N I0 R0 L0 (ca_i (fun v cn' K' N' I' R' L' => cn = cn' ∧ K = K' ∧ N = N' ∧ R0 = R' ∧ L0 = L' ∧ St T cn K N d wik_X5_turnSome wrk_X5_turnSome I0 R0 I' R0 ∧ (B8 v (fun k => (if (k : Int) < nzc gZ 3 ∧ tqG gb (nzT gZ (14 + x1.toInt.toNat) 3) (elZ gZ x1.toInt.toNat x2.toInt) k = 1 then 1 else 0))) ∧ (∀ r, R0 a0 3 = some r → Nib (I' r x2.toInt.toNat) (fun k => if (k : Int) < nzc gZ 3 then tqB x1.toInt gb (nzT gZ (14 + x1.toInt.toNat) 3) (elZ gZ x1.toInt.toNat x2.toInt) k else -2) ∧ ∀ j, ¬ j = x2.toInt.toNat → I' r j = I0 r j) ∧ (∀ r, R0 a0 8 = some r → RwD I0 I' r x1.toInt.toNat (tqN gb (nzT gZ (14 + x1.toInt.toNat) 3) (elZ gZ x1.toInt.toNat x2.toInt) (nzc gZ 3).toNat) ∧ ∀ j, ¬ j = x1.toInt.toNat → I' r j = I0 r j) ∧ (∀ r, R0 a0 9 = some r → RwD I0 I' r x1.toInt.toNat (cnM (fun k => if tqG gb (nzT gZ (14 + x1.toInt.toNat) 3) (elZ gZ x1.toInt.toNat x2.toInt) k = 1 ∧ nzC gZ (nzT gZ 35 k) x2.toInt = 1 then 1 else 0) (nzc gZ 3).toNat) ∧ ∀ j, ¬ j = x1.toInt.toNat → I' r j = I0 r j) ∧ (∀ r, R0 a0 10 = some r → RwD I0 I' r x1.toInt.toNat (if 0 < (tqN gb (nzT gZ (14 + x1.toInt.toNat) 3) (elZ gZ x1.toInt.toNat x2.toInt) (nzc gZ 3).toNat) then 1 else 0) ∧ ∀ j, ¬ j = x1.toInt.toNat → I' r j = I0 r j) ∧ (∀ r, R0 a0 11 = some r → (I' r x1.toInt.toNat).toInt = (if 0 < (tqN gb (nzT gZ (14 + x1.toInt.toNat) 3) (elZ gZ x1.toInt.toNat x2.toInt) (nzc gZ 3).toNat) then x2.toInt + nzT gZ (14 + x1.toInt.toNat) 4 else (I0 r x1.toInt.toNat).toInt) ∧ ∀ j, ¬ j = x1.toInt.toNat → I' r j = I0 r j) ∧ (FrN R0 a0 T I0 I') ∧ True)) := by
  refine ConE.of (by decide +kernel) rfl (Nat.le_of_ble_eq_true rfl) rfl (fun X hX hZ hE => ?_)
  subst hX
  have hS0 : St T cn K N d wik_X5_turnSome wrk_X5_turnSome I0 R0 I0 R0 := St.rf0 hW0
  have p1 := pre0
  have p2 := pre1
  obtain ⟨a3, d4, ta3⟩ := rf13_0 hW0 ta0
  obtain ⟨v5, c6⟩ : ∃ v, I0 a3 5 = v := ⟨_, rfl⟩
  have b7 := iv2_5 hW0 ta3 c6
  obtain ⟨a8, d9, ta8⟩ := rf13_1 hW0 ta0
  obtain ⟨a10, d11, ta10⟩ := rf2_2 hW0 ta3
  obtain ⟨a12, d13, ta12⟩ := rf2_6 hW0 ta3
  obtain ⟨a14, d15, ta14⟩ := rf2_8 hW0 ta3
  obtain ⟨a16, d17, ta16⟩ := rf2_10 hW0 ta3
  obtain ⟨a18, d19, ta18⟩ := rf2_12 hW0 ta3
  obtain ⟨a20, d21, ta20⟩ := rf12_2 hW0 ta8
  obtain ⟨a22, d23, ta22⟩ := rf12_3 hW0 ta8
  obtain ⟨a24, d25, ta24⟩ := rf12_5 hW0 ta8
  obtain ⟨a26, d27, ta26⟩ := rf12_8 hW0 ta8
  obtain ⟨a28, d29, ta28⟩ := rf12_9 hW0 ta8
  obtain ⟨a30, d31, ta30⟩ := rf12_11 hW0 ta8
  obtain ⟨a32, d33, ta32⟩ := rf13_3 hW0 ta0
  obtain ⟨a34, d35, ta34⟩ := rf13_4 hW0 ta0
  obtain ⟨a36, d37, ta36⟩ := rf13_5 hW0 ta0
  obtain ⟨a38, d39, ta38⟩ := rf13_6 hW0 ta0
  obtain ⟨a40, d41, ta40⟩ := rf13_7 hW0 ta0
  obtain ⟨a42, d43, ta42⟩ := rf13_8 hW0 ta0
  obtain ⟨a44, d45, ta44⟩ := rf13_9 hW0 ta0
  obtain ⟨a46, d47, ta46⟩ := rf13_10 hW0 ta0
  obtain ⟨a48, d49, ta48⟩ := rf13_11 hW0 ta0
  obtain ⟨v50, c51⟩ : ∃ v, I0 a3 0 = v := ⟨_, rfl⟩
  have b52 := iv2_0 hW0 ta3 c51
  obtain ⟨v53, c54⟩ : ∃ v, I0 a3 1 = v := ⟨_, rfl⟩
  have b55 := iv2_1 hW0 ta3 c54
  obtain ⟨v56, c57⟩ : ∃ v, I0 a3 7 = v := ⟨_, rfl⟩
  obtain ⟨v58, c59⟩ : ∃ v, I0 a3 9 = v := ⟨_, rfl⟩
  have b60 := iv2_9 hW0 ta3 c59
  obtain ⟨v61, c62⟩ : ∃ v, I0 a3 11 = v := ⟨_, rfl⟩
  have b63 := iv2_11 hW0 ta3 c62
  obtain ⟨v64, c65⟩ : ∃ v, I0 a0 2 = v := ⟨_, rfl⟩
  have hA66 := hP _ _ d4 d9
  have hc67 := hA66.1.ct
  rw [c51, c54, c6, c59, c62, c57] at hc67
  have hc67g := hG.cs
  have hc67m := hA66.2.2
  rw [c65] at hc67m
  have hc67n := hG.ms
  refine tr_aload_n dX5_turnSome_0 rfl ?_
  refine tr_getR dX5_turnSome_1 fl5_39 (kR13 hS0.1 ta0) d4 ?_
  refine tr_getR dX5_turnSome_4 fl5_90 (kR2 hS0.1 ta3) d17 ?_
  refine tr_iload_n dX5_turnSome_7 rfl ?_
  obtain ⟨a68, d69, ta68⟩ := rf21 hS0.1 ta16 (j := x1.toNatClampNeg) (ti_lt (by omega) (by omega))
  refine tr_aald dX5_turnSome_8 (kR21 hS0.1 ta16) (by decide) (by decide) (ti_in (nR21 hS0.1 ta16) (by omega) (by omega)) d69 ?_
  refine tr_astore dX5_turnSome_9 (by decide) (by decide) ?_
  obtain ⟨v71, c72⟩ : ∃ v, I0 a68 0 = v := ⟨_, rfl⟩
  obtain ⟨v73, c74⟩ : ∃ v, I0 a68 1 = v := ⟨_, rfl⟩
  obtain ⟨v75, c76⟩ : ∃ v, I0 a68 2 = v := ⟨_, rfl⟩
  obtain ⟨v77, c78⟩ : ∃ v, I0 a68 3 = v := ⟨_, rfl⟩
  obtain ⟨v79, c80⟩ : ∃ v, I0 a68 4 = v := ⟨_, rfl⟩
  obtain ⟨v81, c82⟩ : ∃ v, I0 a68 5 = v := ⟨_, rfl⟩
  have ho70 := hA66.1.tu d17 (k := x1.toInt.toNat) (by omega) (by omega) d69
  rw [c72, c74, c76, c78, c80, c82] at ho70
  have ho70g := hG.tu (t := x1.toInt.toNat) (by omega)
  refine q_iconst dX5_turnSome_11 (by decide) ?_
  intro v83 h84
  refine tr_istore dX5_turnSome_12 (by decide) (by decide) ?_
  refine q_iconst dX5_turnSome_14 (by decide) ?_
  intro v85 h86
  refine tr_istore dX5_turnSome_15 (by decide) (by decide) ?_
  refine q_iconst dX5_turnSome_17 (by decide) ?_
  intro v87 h88
  refine tr_istore dX5_turnSome_18 (by decide) (by decide) ?_
  have lp113 : ∀ (fu : Nat) (ls : Nat → Option Value) (v89 : Int32) (v90 : Int32) (v91 : Int32) (I101 : cz_I), ls 0 = some (.ref a0) → ls 1 = some (.int x1) → ls 2 = some (.int x2) → ls 3 = some (.int x3) → ls 4 = some (.int x4) → ls 5 = some (.ref a68) → ls 6 = some (.int v89) → ls 7 = some (.int v90) → ls 8 = some (.int v91) → St T cn K N d wik_X5_turnSome wrk_X5_turnSome I0 R0 I101 R0 → 0 ≤ v91.toInt → v91.toInt ≤ v5.toInt → 0 ≤ v90.toInt → v90.toInt ≤ v91.toInt → (v90.toInt = tqN gb (nzT gZ (14 + x1.toInt.toNat) 3) (elZ gZ x1.toInt.toNat x2.toInt) v91.toInt.toNat) → (B8 v89 (fun k => if (k : Int) < v91.toInt ∧ tqG gb (nzT gZ (14 + x1.toInt.toNat) 3) (elZ gZ x1.toInt.toNat x2.toInt) k = 1 then 1 else 0)) → (Nib (I101 a32 x2.toInt.toNat) (fun k => if (k : Int) < nzc gZ 3 then (if (k : Int) < v91.toInt then tqB x1.toInt gb (nzT gZ (14 + x1.toInt.toNat) 3) (elZ gZ x1.toInt.toNat x2.toInt) k else gb k) else -2) ∧ ∀ j, ¬ j = x2.toInt.toNat → I101 a32 j = I0 a32 j) → (RwD I0 I101 a44 x1.toInt.toNat (cnM (fun k => if tqG gb (nzT gZ (14 + x1.toInt.toNat) 3) (elZ gZ x1.toInt.toNat x2.toInt) k = 1 ∧ nzC gZ (nzT gZ 35 k) x2.toInt = 1 then 1 else 0) v91.toInt.toNat) ∧ ∀ j, ¬ j = x1.toInt.toNat → I101 a44 j = I0 a44 j) → ((∀ j, I101 a42 j = I0 a42 j) ∧ (∀ j, I101 a46 j = I0 a46 j) ∧ (∀ j, I101 a48 j = I0 a48 j)) → (FrN R0 a0 T I0 I101) → (-v91.toInt + 2147483647).toNat < fu → Tr X mX5_turnSome 20 ls [] cn K N I101 R0 L0 0 0 := by
    intro fu
    induction fu with
    | zero => intros; rename_i hz; exact absurd hz (Nat.not_lt_zero _)
    | succ fu ih113 =>
      intro ls v89 v90 v91 I101 hl92 hl93 hl94 hl95 hl96 hl97 hl98 hl99 hl100 hS102 g103 g104 g105 g106 rw107 rw108 rw109 rw110 rw111 rw112 hm113
      refine tr_iload dX5_turnSome_20 hl100 ?_
      refine tr_aload_n dX5_turnSome_22 hl92 ?_
      refine tr_getR dX5_turnSome_23 fl5_39 (kR13 hS102.1 ta0) d4 ?_
      refine q_getI dX5_turnSome_26 fl5_107 (kR2 hS102.1 ta3) ((hS102.cell ta3 (by decide +kernel)).trans c6) ?_
      refine q_icmp_ge 136 dX5_turnSome_29 (by decide) (fun h115 => ?_) (fun h115 => ?_)
      · skip
        have hE116 := TSen (c3 := nzc gZ 3) rw107 (by omega) (by omega) (by omega)
        have hE116n := hE116.1
        refine tr_iload dX5_turnSome_136 hl99 ?_
        refine q_if_le 175 dX5_turnSome_138 (by decide) (fun h117 => ?_) (fun h117 => ?_)
        · skip
          refine tr_iload dX5_turnSome_175 hl98 ?_
          exact tr_iret hZ dX5_turnSome_177 rfl (by decide) (by decide) ⟨v89, rfl, rfl, rfl, rfl, rfl, rfl, hS102, (TS2e rw108 (by omega) hE116.2), (fun r hr => by obtain rfl := Option.some.inj (d33.symm.trans hr); exact ⟨by rw [show I101 a32 x2.toInt.toNat = _ from rfl]; exact TS3e rw109.1 hE116.2, fun j hj => Eq.trans rfl (rw109.2 j hj)⟩), (fun r hr => by obtain rfl := Option.some.inj (d43.symm.trans hr); exact ⟨RwD.z (Eq.trans rfl (rw111.1 _)) (by omega), fun j hj => Eq.trans rfl (rw111.1 j)⟩), (fun r hr => by obtain rfl := Option.some.inj (d45.symm.trans hr); exact ⟨(RwD.kp rw110.1 rfl).cg (TS4e (by omega) (by omega) (fun k k1 k2 => if_neg (fun w => by have z := hE116.2 k k1 k2; omega))), fun j hj => Eq.trans rfl (rw110.2 j hj)⟩), (fun r hr => by obtain rfl := Option.some.inj (d47.symm.trans hr); exact ⟨RwD.z (Eq.trans rfl (rw111.2.1 _)) (by rw [if_neg (by omega)]), fun j hj => Eq.trans rfl (rw111.2.1 j)⟩), (fun r hr => by obtain rfl := Option.some.inj (d49.symm.trans hr); exact ⟨by rw [if_neg (by omega), show I101 a48 x1.toInt.toNat = _ from Eq.trans rfl (rw111.2.2 _)], fun j hj => Eq.trans rfl (rw111.2.2 j)⟩), rw112, trivial⟩
        · skip
          refine tr_aload_n dX5_turnSome_141 hl92 ?_
          refine tr_getR dX5_turnSome_142 fl5_27 (kR13 hS102.1 ta0) d43 ?_
          refine tr_iload_n dX5_turnSome_145 hl93 ?_
          refine tr_dup2 dX5_turnSome_146 rfl rfl ?_
          refine q_iald dX5_turnSome_147 (kR49 hS102.1 ta42) (ti_in (nR49 hS102.1 ta42) (by omega) (by omega)) ?_
          intro v118 c119
          refine tr_iload dX5_turnSome_148 hl99 ?_
          refine tr_iadd dX5_turnSome_150 ?_
          obtain ⟨v120, lx121⟩ : ∃ z, z = v118 + v90 := ⟨_, rfl⟩
          rw [← lx121]
          refine q_iast dX5_turnSome_151 (kR49 hS102.1 ta42) (ti_in (nR49 hS102.1 ta42) (by omega) (by omega)) hS102 ta42 (iokF rfl) rfl (by rfl) ?_
          intro I122 hS123 e125 f124
          refine tr_aload_n dX5_turnSome_152 hl92 ?_
          refine tr_getR dX5_turnSome_153 fl5_33 (kR13 hS123.1 ta0) d47 ?_
          refine tr_iload_n dX5_turnSome_156 hl93 ?_
          refine tr_dup2 dX5_turnSome_157 rfl rfl ?_
          refine q_iald dX5_turnSome_158 (kR51 hS123.1 ta46) (ti_in (nR51 hS123.1 ta46) (by omega) (by omega)) ?_
          intro v126 c127
          refine q_iconst dX5_turnSome_159 (by decide) ?_
          intro v128 h129
          have lx130 : v128 = (1 : Int32) := Int32.toInt_inj.mp (h129.trans rfl)
          refine tr_iadd dX5_turnSome_160 ?_
          obtain ⟨v131, lx132⟩ : ∃ z, z = v126 + v128 := ⟨_, rfl⟩
          rw [← lx132]
          refine q_iast dX5_turnSome_161 (kR51 hS123.1 ta46) (ti_in (nR51 hS123.1 ta46) (by omega) (by omega)) hS123 ta46 (iokF rfl) rfl (by rfl) ?_
          intro I133 hS134 e136 f135
          refine tr_aload_n dX5_turnSome_162 hl92 ?_
          refine tr_getR dX5_turnSome_163 fl5_36 (kR13 hS134.1 ta0) d49 ?_
          refine tr_iload_n dX5_turnSome_166 hl93 ?_
          refine tr_iload_n dX5_turnSome_167 hl94 ?_
          refine tr_aload dX5_turnSome_168 hl97 ?_
          refine q_getI dX5_turnSome_170 fl5_118 (kR4 hS134.1 ta68) ((hS134.cell ta68 (by decide +kernel)).trans c80) ?_
          refine q_iaddE dX5_turnSome_173 (by intros; omega) ?_
          intro v137 h138
          refine q_iast dX5_turnSome_174 (kR52 hS134.1 ta48) (ti_in (nR52 hS134.1 ta48) (by omega) (by omega)) hS134 ta48 (iokF rfl) rfl (by rfl) ?_
          intro I139 hS140 e142 f141
          refine tr_iload dX5_turnSome_175 hl98 ?_
          exact tr_iret hZ dX5_turnSome_177 rfl (by decide) (by decide) ⟨v89, rfl, rfl, rfl, rfl, rfl, rfl, hS140, (TS2e rw108 (by omega) hE116.2), (fun r hr => by obtain rfl := Option.some.inj (d33.symm.trans hr); exact ⟨by rw [show I139 a32 x2.toInt.toNat = _ from ((f141 _ _ (fun q => by have z := ta32; rw [q.1, ta48] at z; exact absurd z (by decide))).trans ((f135 _ _ (fun q => by have z := ta32; rw [q.1, ta46] at z; exact absurd z (by decide))).trans (f124 _ _ (fun q => by have z := ta32; rw [q.1, ta42] at z; exact absurd z (by decide)))))]; exact TS3e rw109.1 hE116.2, fun j hj => Eq.trans ((f141 _ _ (fun q => by have z := ta32; rw [q.1, ta48] at z; exact absurd z (by decide))).trans ((f135 _ _ (fun q => by have z := ta32; rw [q.1, ta46] at z; exact absurd z (by decide))).trans (f124 _ _ (fun q => by have z := ta32; rw [q.1, ta42] at z; exact absurd z (by decide))))) (rw109.2 j hj)⟩), (fun r hr => by obtain rfl := Option.some.inj (d43.symm.trans hr); exact ⟨RwD.ad (A := v90.toInt) (RwD.z (Eq.trans rfl (rw111.1 _)) rfl) c119 lx121 (Eq.trans ((f141 _ _ (fun q => by have z := ta42; rw [q.1, ta48] at z; exact absurd z (by decide))).trans (f135 _ _ (fun q => by have z := ta42; rw [q.1, ta46] at z; exact absurd z (by decide)))) e125) rfl (by omega) (by omega) (by omega), fun j hj => Eq.trans ((f141 _ _ (fun q => by have z := ta42; rw [q.1, ta48] at z; exact absurd z (by decide))).trans ((f135 _ _ (fun q => by have z := ta42; rw [q.1, ta46] at z; exact absurd z (by decide))).trans (f124 _ _ (fun q => hj q.2)))) (rw111.1 j)⟩), (fun r hr => by obtain rfl := Option.some.inj (d45.symm.trans hr); exact ⟨(RwD.kp rw110.1 ((f141 _ _ (fun q => by have z := ta44; rw [q.1, ta48] at z; exact absurd z (by decide))).trans ((f135 _ _ (fun q => by have z := ta44; rw [q.1, ta46] at z; exact absurd z (by decide))).trans (f124 _ _ (fun q => by have z := ta44; rw [q.1, ta42] at z; exact absurd z (by decide)))))).cg (TS4e (by omega) (by omega) (fun k k1 k2 => if_neg (fun w => by have z := hE116.2 k k1 k2; omega))), fun j hj => Eq.trans ((f141 _ _ (fun q => by have z := ta44; rw [q.1, ta48] at z; exact absurd z (by decide))).trans ((f135 _ _ (fun q => by have z := ta44; rw [q.1, ta46] at z; exact absurd z (by decide))).trans (f124 _ _ (fun q => by have z := ta44; rw [q.1, ta42] at z; exact absurd z (by decide))))) (rw110.2 j hj)⟩), (fun r hr => by obtain rfl := Option.some.inj (d47.symm.trans hr); exact ⟨RwD.ad (A := v128.toInt) (RwD.z (Eq.trans (f124 _ _ (fun q => by have z := ta46; rw [q.1, ta42] at z; exact absurd z (by decide))) (rw111.2.1 _)) rfl) c127 lx132 (Eq.trans (f141 _ _ (fun q => by have z := ta46; rw [q.1, ta48] at z; exact absurd z (by decide))) e136) rfl (by rw [if_pos (by omega)]; omega) (by omega) (by omega), fun j hj => Eq.trans ((f141 _ _ (fun q => by have z := ta46; rw [q.1, ta48] at z; exact absurd z (by decide))).trans ((f135 _ _ (fun q => hj q.2)).trans (f124 _ _ (fun q => by have z := ta46; rw [q.1, ta42] at z; exact absurd z (by decide))))) (rw111.2.1 j)⟩), (fun r hr => by obtain rfl := Option.some.inj (d49.symm.trans hr); exact ⟨by rw [if_pos (by omega), show I139 a48 x1.toInt.toNat = v137 from e142]; omega, fun j hj => Eq.trans ((f141 _ _ (fun q => hj q.2)).trans ((f135 _ _ (fun q => by have z := ta48; rw [q.1, ta46] at z; exact absurd z (by decide))).trans (f124 _ _ (fun q => by have z := ta48; rw [q.1, ta42] at z; exact absurd z (by decide))))) (rw111.2.2 j)⟩), (((rw112.pu f124 (s := 8) (by omega) (by omega) d43 ta42 (by decide)).pu f135 (s := 10) (by omega) (by omega) d47 ta46 (by decide)).pu f141 (s := 11) (by omega) (by omega) d49 ta48 (by decide)), trivial⟩
      · skip
        refine tr_iload dX5_turnSome_32 hl99 ?_
        refine tr_aload dX5_turnSome_34 hl97 ?_
        refine q_getI dX5_turnSome_36 fl5_110 (kR4 hS102.1 ta68) ((hS102.cell ta68 (by decide +kernel)).trans c78) ?_
        refine q_icmp_ge 136 dX5_turnSome_39 (by decide) (fun h143 => ?_) (fun h143 => ?_)
        · skip
          have hE144 := TSen (c3 := nzc gZ 3) rw107 (by omega) (by omega) (by omega)
          have hE144n := hE144.1
          refine tr_iload dX5_turnSome_136 hl99 ?_
          refine q_if_le 175 dX5_turnSome_138 (by decide) (fun h145 => ?_) (fun h145 => ?_)
          · skip
            exfalso; omega
          · skip
            refine tr_aload_n dX5_turnSome_141 hl92 ?_
            refine tr_getR dX5_turnSome_142 fl5_27 (kR13 hS102.1 ta0) d43 ?_
            refine tr_iload_n dX5_turnSome_145 hl93 ?_
            refine tr_dup2 dX5_turnSome_146 rfl rfl ?_
            refine q_iald dX5_turnSome_147 (kR49 hS102.1 ta42) (ti_in (nR49 hS102.1 ta42) (by omega) (by omega)) ?_
            intro v146 c147
            refine tr_iload dX5_turnSome_148 hl99 ?_
            refine tr_iadd dX5_turnSome_150 ?_
            obtain ⟨v148, lx149⟩ : ∃ z, z = v146 + v90 := ⟨_, rfl⟩
            rw [← lx149]
            refine q_iast dX5_turnSome_151 (kR49 hS102.1 ta42) (ti_in (nR49 hS102.1 ta42) (by omega) (by omega)) hS102 ta42 (iokF rfl) rfl (by rfl) ?_
            intro I150 hS151 e153 f152
            refine tr_aload_n dX5_turnSome_152 hl92 ?_
            refine tr_getR dX5_turnSome_153 fl5_33 (kR13 hS151.1 ta0) d47 ?_
            refine tr_iload_n dX5_turnSome_156 hl93 ?_
            refine tr_dup2 dX5_turnSome_157 rfl rfl ?_
            refine q_iald dX5_turnSome_158 (kR51 hS151.1 ta46) (ti_in (nR51 hS151.1 ta46) (by omega) (by omega)) ?_
            intro v154 c155
            refine q_iconst dX5_turnSome_159 (by decide) ?_
            intro v156 h157
            have lx158 : v156 = (1 : Int32) := Int32.toInt_inj.mp (h157.trans rfl)
            refine tr_iadd dX5_turnSome_160 ?_
            obtain ⟨v159, lx160⟩ : ∃ z, z = v154 + v156 := ⟨_, rfl⟩
            rw [← lx160]
            refine q_iast dX5_turnSome_161 (kR51 hS151.1 ta46) (ti_in (nR51 hS151.1 ta46) (by omega) (by omega)) hS151 ta46 (iokF rfl) rfl (by rfl) ?_
            intro I161 hS162 e164 f163
            refine tr_aload_n dX5_turnSome_162 hl92 ?_
            refine tr_getR dX5_turnSome_163 fl5_36 (kR13 hS162.1 ta0) d49 ?_
            refine tr_iload_n dX5_turnSome_166 hl93 ?_
            refine tr_iload_n dX5_turnSome_167 hl94 ?_
            refine tr_aload dX5_turnSome_168 hl97 ?_
            refine q_getI dX5_turnSome_170 fl5_118 (kR4 hS162.1 ta68) ((hS162.cell ta68 (by decide +kernel)).trans c80) ?_
            refine q_iaddE dX5_turnSome_173 (by intros; omega) ?_
            intro v165 h166
            refine q_iast dX5_turnSome_174 (kR52 hS162.1 ta48) (ti_in (nR52 hS162.1 ta48) (by omega) (by omega)) hS162 ta48 (iokF rfl) rfl (by rfl) ?_
            intro I167 hS168 e170 f169
            refine tr_iload dX5_turnSome_175 hl98 ?_
            exact tr_iret hZ dX5_turnSome_177 rfl (by decide) (by decide) ⟨v89, rfl, rfl, rfl, rfl, rfl, rfl, hS168, (TS2e rw108 (by omega) hE144.2), (fun r hr => by obtain rfl := Option.some.inj (d33.symm.trans hr); exact ⟨by rw [show I167 a32 x2.toInt.toNat = _ from ((f169 _ _ (fun q => by have z := ta32; rw [q.1, ta48] at z; exact absurd z (by decide))).trans ((f163 _ _ (fun q => by have z := ta32; rw [q.1, ta46] at z; exact absurd z (by decide))).trans (f152 _ _ (fun q => by have z := ta32; rw [q.1, ta42] at z; exact absurd z (by decide)))))]; exact TS3e rw109.1 hE144.2, fun j hj => Eq.trans ((f169 _ _ (fun q => by have z := ta32; rw [q.1, ta48] at z; exact absurd z (by decide))).trans ((f163 _ _ (fun q => by have z := ta32; rw [q.1, ta46] at z; exact absurd z (by decide))).trans (f152 _ _ (fun q => by have z := ta32; rw [q.1, ta42] at z; exact absurd z (by decide))))) (rw109.2 j hj)⟩), (fun r hr => by obtain rfl := Option.some.inj (d43.symm.trans hr); exact ⟨RwD.ad (A := v90.toInt) (RwD.z (Eq.trans rfl (rw111.1 _)) rfl) c147 lx149 (Eq.trans ((f169 _ _ (fun q => by have z := ta42; rw [q.1, ta48] at z; exact absurd z (by decide))).trans (f163 _ _ (fun q => by have z := ta42; rw [q.1, ta46] at z; exact absurd z (by decide)))) e153) rfl (by omega) (by omega) (by omega), fun j hj => Eq.trans ((f169 _ _ (fun q => by have z := ta42; rw [q.1, ta48] at z; exact absurd z (by decide))).trans ((f163 _ _ (fun q => by have z := ta42; rw [q.1, ta46] at z; exact absurd z (by decide))).trans (f152 _ _ (fun q => hj q.2)))) (rw111.1 j)⟩), (fun r hr => by obtain rfl := Option.some.inj (d45.symm.trans hr); exact ⟨(RwD.kp rw110.1 ((f169 _ _ (fun q => by have z := ta44; rw [q.1, ta48] at z; exact absurd z (by decide))).trans ((f163 _ _ (fun q => by have z := ta44; rw [q.1, ta46] at z; exact absurd z (by decide))).trans (f152 _ _ (fun q => by have z := ta44; rw [q.1, ta42] at z; exact absurd z (by decide)))))).cg (TS4e (by omega) (by omega) (fun k k1 k2 => if_neg (fun w => by have z := hE144.2 k k1 k2; omega))), fun j hj => Eq.trans ((f169 _ _ (fun q => by have z := ta44; rw [q.1, ta48] at z; exact absurd z (by decide))).trans ((f163 _ _ (fun q => by have z := ta44; rw [q.1, ta46] at z; exact absurd z (by decide))).trans (f152 _ _ (fun q => by have z := ta44; rw [q.1, ta42] at z; exact absurd z (by decide))))) (rw110.2 j hj)⟩), (fun r hr => by obtain rfl := Option.some.inj (d47.symm.trans hr); exact ⟨RwD.ad (A := v156.toInt) (RwD.z (Eq.trans (f152 _ _ (fun q => by have z := ta46; rw [q.1, ta42] at z; exact absurd z (by decide))) (rw111.2.1 _)) rfl) c155 lx160 (Eq.trans (f169 _ _ (fun q => by have z := ta46; rw [q.1, ta48] at z; exact absurd z (by decide))) e164) rfl (by rw [if_pos (by omega)]; omega) (by omega) (by omega), fun j hj => Eq.trans ((f169 _ _ (fun q => by have z := ta46; rw [q.1, ta48] at z; exact absurd z (by decide))).trans ((f163 _ _ (fun q => hj q.2)).trans (f152 _ _ (fun q => by have z := ta46; rw [q.1, ta42] at z; exact absurd z (by decide))))) (rw111.2.1 j)⟩), (fun r hr => by obtain rfl := Option.some.inj (d49.symm.trans hr); exact ⟨by rw [if_pos (by omega), show I167 a48 x1.toInt.toNat = v165 from e170]; omega, fun j hj => Eq.trans ((f169 _ _ (fun q => hj q.2)).trans ((f163 _ _ (fun q => by have z := ta48; rw [q.1, ta46] at z; exact absurd z (by decide))).trans (f152 _ _ (fun q => by have z := ta48; rw [q.1, ta42] at z; exact absurd z (by decide))))) (rw111.2.2 j)⟩), (((rw112.pu f152 (s := 8) (by omega) (by omega) d43 ta42 (by decide)).pu f163 (s := 10) (by omega) (by omega) d47 ta46 (by decide)).pu f169 (s := 11) (by omega) (by omega) d49 ta48 (by decide)), trivial⟩
        · skip
          have hb171 : (gb v91.toInt.toNat = -2 ∧ bt x4.toInt v91.toInt = 0) ∨ (¬ gb v91.toInt.toNat = -2 ∧ bt x4.toInt v91.toInt = 1) := by have z : bt _ _ = (if _ then _ else _) := hB.2.2 v91.toInt.toNat (by omega); rw [show ((v91.toInt.toNat : Nat) : Int) = v91.toInt by omega] at z; by_cases y : gb v91.toInt.toNat = -2; (rw [if_neg (fun w => w.2 y)] at z; exact Or.inl ⟨y, z⟩); (rw [if_pos ⟨by omega, y⟩] at z; exact Or.inr ⟨y, z⟩)
          refine tr_iload dX5_turnSome_42 hl96 ?_
          refine tr_iload dX5_turnSome_44 hl100 ?_
          refine q_callSNi hE (M' := mX10_bit) (as := [_, _]) dX5_turnSome_46 lk5_84 inX10_bit myX10_bit ⟨by decide, by decide⟩ rfl (Nat.le_of_ble_eq_true rfl) rfl rfl (by decide) (by decide) (f_X10_bitX   (by omega) (by omega)) ?_
          rintro v177 cn' K' N' I172 R173 L174 ⟨rfl, rfl, rfl, rfl, rfl, rfl, p178, -⟩
          have btv177 := bt_01 x4.toInt v91.toInt
          refine q_if_ne 130 dX5_turnSome_49 (by decide) (fun h179 => ?_) (fun h179 => ?_)
          · skip
            refine q_iincE dX5_turnSome_130 hl100 (by decide) (by decide) (by intros; omega) ?_
            intro v180 h181
            refine tr_goto 20 dX5_turnSome_133 (by decide) ?_
            have tg182 : tqG gb (nzT gZ (14 + x1.toInt.toNat) 3) (elZ gZ x1.toInt.toNat x2.toInt) v91.toInt.toNat = 0 := tqG_n (fun z => by omega)
            exact ih113 _ v89 v90 v180 I101 hl92 hl93 hl94 hl95 hl96 hl97 hl98 hl99 rfl hS102 (by omega) (by omega) (by omega) (by omega) (TS1 rw107 (by omega) (by omega) (by rw [tg182]; omega)) (TS2n rw108 (by omega) (by omega) tg182) ⟨TS3n rw109.1 (by omega) (by omega) (tqB_n tg182), rw109.2⟩ ⟨RwS.no rw110.1 (by omega) (by omega) (if_neg (fun w => by omega)), rw110.2⟩ ⟨fun j => Eq.trans rfl (rw111.1 j), fun j => Eq.trans rfl (rw111.2.1 j), fun j => Eq.trans rfl (rw111.2.2 j)⟩ rw112 (by omega)
          · skip
            refine tr_iload_n dX5_turnSome_52 hl95 ?_
            refine tr_aload_n dX5_turnSome_53 hl92 ?_
            refine tr_getR dX5_turnSome_54 fl5_39 (kR13 hS102.1 ta0) d4 ?_
            refine tr_getR dX5_turnSome_57 fl5_112 (kR2 hS102.1 ta3) d13 ?_
            refine tr_iload dX5_turnSome_60 hl100 ?_
            refine q_iald dX5_turnSome_62 (kR20 hS102.1 ta12) (ti_in (nR20 hS102.1 ta12) (by omega) (by omega)) ?_
            intro v183 c184
            have hh185 : v183.toInt = nzT gZ 35 v91.toInt.toNat := by rw [← show I0 a12 v91.toInt.toNat = v183 from (hS102.cell ta12 (wm_no (by decide +kernel))).symm.trans c184]; exact hA66.1.hu d13 (by omega)
            have hh185g := hG.ch (k := v91.toInt.toNat) (by omega)
            have hh185e : elZ gZ x1.toInt.toNat x2.toInt v91.toInt.toNat = bt x3.toInt v183.toInt := by have z := hU v183.toInt.toNat (by omega); rw [show ((v183.toInt.toNat : Nat) : Int) = v183.toInt by omega, hh185] at z; unfold elZ; rw [hh185]; exact z.symm
            refine q_callSNi hE (M' := mX10_bit) (as := [_, _]) dX5_turnSome_63 lk5_84 inX10_bit myX10_bit ⟨by decide, by decide⟩ rfl (Nat.le_of_ble_eq_true rfl) rfl rfl (by decide) (by decide) (f_X10_bitX   (by omega) (by omega)) ?_
            rintro v191 cn' K' N' I186 R187 L188 ⟨rfl, rfl, rfl, rfl, rfl, rfl, p192, -⟩
            have btv191 := bt_01 x3.toInt v183.toInt
            refine q_iconst dX5_turnSome_66 (by decide) ?_
            intro v193 h194
            refine q_icmp_ne 130 dX5_turnSome_67 (by decide) (fun h195 => ?_) (fun h195 => ?_)
            · skip
              refine q_iincE dX5_turnSome_130 hl100 (by decide) (by decide) (by intros; omega) ?_
              intro v196 h197
              refine tr_goto 20 dX5_turnSome_133 (by decide) ?_
              have tg198 : tqG gb (nzT gZ (14 + x1.toInt.toNat) 3) (elZ gZ x1.toInt.toNat x2.toInt) v91.toInt.toNat = 0 := tqG_n (fun z => by omega)
              exact ih113 _ v89 v90 v196 I101 hl92 hl93 hl94 hl95 hl96 hl97 hl98 hl99 rfl hS102 (by omega) (by omega) (by omega) (by omega) (TS1 rw107 (by omega) (by omega) (by rw [tg198]; omega)) (TS2n rw108 (by omega) (by omega) tg198) ⟨TS3n rw109.1 (by omega) (by omega) (tqB_n tg198), rw109.2⟩ ⟨RwS.no rw110.1 (by omega) (by omega) (if_neg (fun w => by omega)), rw110.2⟩ ⟨fun j => Eq.trans rfl (rw111.1 j), fun j => Eq.trans rfl (rw111.2.1 j), fun j => Eq.trans rfl (rw111.2.2 j)⟩ rw112 (by omega)
            · skip
              refine tr_iload dX5_turnSome_70 hl98 ?_
              refine q_iconst dX5_turnSome_72 (by decide) ?_
              intro v199 h200
              refine tr_iload dX5_turnSome_73 hl100 ?_
              refine tr_ishl dX5_turnSome_75 ?_
              obtain ⟨v201, lx202⟩ : ∃ z, z = v199 <<< (v91 &&& 31) := ⟨_, rfl⟩
              rw [← lx202]
              refine tr_ior dX5_turnSome_76 ?_
              obtain ⟨v203, lx204⟩ : ∃ z, z = v89 ||| v201 := ⟨_, rfl⟩
              rw [← lx204]
              refine tr_istore dX5_turnSome_77 (by decide) (by decide) ?_
              refine q_iincE dX5_turnSome_79 hl99 (by decide) (by decide) (by intros; omega) ?_
              intro v205 h206
              refine tr_aload_n dX5_turnSome_82 hl92 ?_
              refine tr_getR dX5_turnSome_83 fl5_9 (kR13 hS102.1 ta0) d33 ?_
              refine tr_iload_n dX5_turnSome_86 hl94 ?_
              refine tr_dup2 dX5_turnSome_87 rfl rfl ?_
              refine q_iald dX5_turnSome_88 (kR44 hS102.1 ta32) (ti_in (nR44 hS102.1 ta32) (by omega) (by omega)) ?_
              intro v207 c208
              refine tr_iload_n dX5_turnSome_89 hl93 ?_
              refine q_iconst dX5_turnSome_90 (by decide) ?_
              intro v209 h210
              refine q_iaddE dX5_turnSome_91 (by intros; omega) ?_
              intro v211 h212
              refine q_iconst dX5_turnSome_92 (by decide) ?_
              intro v213 h214
              refine tr_iload dX5_turnSome_93 hl100 ?_
              refine q_imulE (c := 4) dX5_turnSome_95 (by omega) (by omega) ?_
              intro v215 h216
              refine tr_ishl dX5_turnSome_96 ?_
              obtain ⟨v217, lx218⟩ : ∃ z, z = v211 <<< (v215 &&& 31) := ⟨_, rfl⟩
              rw [← lx218]
              refine tr_ior dX5_turnSome_97 ?_
              obtain ⟨v219, lx220⟩ : ∃ z, z = v207 ||| v217 := ⟨_, rfl⟩
              rw [← lx220]
              refine q_iast dX5_turnSome_98 (kR44 hS102.1 ta32) (ti_in (nR44 hS102.1 ta32) (by omega) (by omega)) hS102 ta32 (iokF rfl) rfl (by rfl) ?_
              intro I221 hS222 e224 f223
              refine tr_aload_n dX5_turnSome_99 hl92 ?_
              refine tr_getR dX5_turnSome_100 fl5_30 (kR13 hS222.1 ta0) d45 ?_
              refine tr_iload_n dX5_turnSome_103 hl93 ?_
              refine tr_dup2 dX5_turnSome_104 rfl rfl ?_
              refine q_iald dX5_turnSome_105 (kR50 hS222.1 ta44) (ti_in (nR50 hS222.1 ta44) (by omega) (by omega)) ?_
              intro v225 c226
              refine tr_aload_n dX5_turnSome_106 hl92 ?_
              refine tr_getR dX5_turnSome_107 fl5_43 (kR13 hS222.1 ta0) d9 ?_
              refine tr_getR dX5_turnSome_110 fl5_115 (kR12 hS222.1 ta8) d27 ?_
              refine tr_iload_n dX5_turnSome_113 hl94 ?_
              refine q_iald dX5_turnSome_114 (kR41 hS222.1 ta26) (ti_in (nR41 hS222.1 ta26) (by omega) (by omega)) ?_
              intro v227 c228
              have hx229 := hA66.2.1.2.1 _ d27 x2.toInt.toNat (by omega)
              rw [show I0 a26 x2.toInt.toNat = v227 from (hS222.cell ta26 (wm_no (by decide +kernel))).symm.trans c228, show ((x2.toInt.toNat : Nat) : Int) = x2.toInt by omega] at hx229
              have hx229r := And.intro hx229.1 hx229.2.1
              refine tr_aload_n dX5_turnSome_115 hl92 ?_
              refine tr_getR dX5_turnSome_116 fl5_39 (kR13 hS222.1 ta0) d4 ?_
              refine tr_getR dX5_turnSome_119 fl5_112 (kR2 hS222.1 ta3) d13 ?_
              refine tr_iload dX5_turnSome_122 hl100 ?_
              refine q_iald dX5_turnSome_124 (kR20 hS222.1 ta12) (ti_in (nR20 hS222.1 ta12) (by omega) (by omega)) ?_
              intro v230 c231
              have hh232 : v230.toInt = nzT gZ 35 v91.toInt.toNat := by rw [← show I0 a12 v91.toInt.toNat = v230 from (hS222.cell ta12 (wm_no (by decide +kernel))).symm.trans c231]; exact hA66.1.hu d13 (by omega)
              have hh232g := hG.ch (k := v91.toInt.toNat) (by omega)
              refine q_callSNi hE (M' := mX10_bit) (as := [_, _]) dX5_turnSome_125 lk5_84 inX10_bit myX10_bit ⟨by decide, by decide⟩ rfl (Nat.le_of_ble_eq_true rfl) rfl rfl (by decide) (by decide) (f_X10_bitX   (by omega) (by omega)) ?_
              rintro v238 cn' K' N' I233 R234 L235 ⟨rfl, rfl, rfl, rfl, rfl, rfl, p239, -⟩
              have btv238 := bt_01 v227.toInt v230.toInt
              have hy240 : bt v227.toInt v230.toInt = nzC gZ v230.toInt x2.toInt := by have z : bt _ _ = nzC gZ ((v230.toInt.toNat : Nat) : Int) x2.toInt := hx229.2.2 v230.toInt.toNat (by omega); rw [show ((v230.toInt.toNat : Nat) : Int) = v230.toInt by omega] at z; exact z
              have hy240n : nzC gZ v230.toInt x2.toInt = nzC gZ (nzT gZ 35 v91.toInt.toNat) x2.toInt := by rw [hh232]
              refine tr_iadd dX5_turnSome_128 ?_
              obtain ⟨v241, lx242⟩ : ∃ z, z = v225 + v238 := ⟨_, rfl⟩
              rw [← lx242]
              refine q_iast dX5_turnSome_129 (kR50 hS222.1 ta44) (ti_in (nR50 hS222.1 ta44) (by omega) (by omega)) hS222 ta44 (iokF rfl) rfl (by rfl) ?_
              intro I243 hS244 e246 f245
              refine q_iincE dX5_turnSome_130 hl100 (by decide) (by decide) (by intros; omega) ?_
              intro v247 h248
              refine tr_goto 20 dX5_turnSome_133 (by decide) ?_
              have tg249 : tqG gb (nzT gZ (14 + x1.toInt.toNat) 3) (elZ gZ x1.toInt.toNat x2.toInt) v91.toInt.toNat = 1 := tqG_1 (by omega) (by omega) (by omega)
              exact ih113 _ v203 v205 v247 I243 hl92 hl93 hl94 hl95 hl96 hl97 rfl rfl rfl hS244 (by omega) (by omega) (by omega) (by omega) (TS1 rw107 (by omega) (by omega) (by rw [tg249]; omega)) (TS2y rw108 (by omega) (by omega) (by omega) tg249 (by rw [lx204, lx202]) (by omega) (by omega)) ⟨by rw [show I243 a32 x2.toInt.toNat = v219 from (Eq.trans (f245 _ _ (fun q => by have z := ta32; rw [q.1, ta44] at z; exact absurd z (by decide))) e224), lx220, lx218]; exact TS3y (u := x1.toInt) (by have z := rw109.1; rw [show I101 a32 x2.toInt.toNat = v207 from c208] at z; exact z) (by omega) (by omega) (by omega) (by omega) (by omega) (tqB_1 tg249) (by omega) (by omega) (by omega) (by omega), fun j hj => Eq.trans ((f245 _ _ (fun q => by have z := ta32; rw [q.1, ta44] at z; exact absurd z (by decide))).trans (f223 _ _ (fun q => hj q.2))) (rw109.2 j hj)⟩ ⟨RwS.ye (RwD.kp rw110.1 (f223 _ _ (fun q => by have z := ta44; rw [q.1, ta32] at z; exact absurd z (by decide)))) (by omega) (by omega) (by omega) (fun k => if01) c226 lx242 e246 (by have zc := And.intro hy240 hy240n; show v238.toInt = if tqG gb (nzT gZ (14 + x1.toInt.toNat) 3) (elZ gZ x1.toInt.toNat x2.toInt) v91.toInt.toNat = 1 ∧ nzC gZ (nzT gZ 35 v91.toInt.toNat) x2.toInt = 1 then 1 else 0; by_cases z : nzC gZ (nzT gZ 35 v91.toInt.toNat) x2.toInt = 1; (rw [if_pos ⟨tg249, z⟩]; omega); (rw [if_neg (fun w => z w.2)]; omega)), fun j hj => Eq.trans ((f245 _ _ (fun q => hj q.2)).trans (f223 _ _ (fun q => by have z := ta44; rw [q.1, ta32] at z; exact absurd z (by decide)))) (rw110.2 j hj)⟩ ⟨fun j => Eq.trans ((f245 _ _ (fun q => by have z := ta42; rw [q.1, ta44] at z; exact absurd z (by decide))).trans (f223 _ _ (fun q => by have z := ta42; rw [q.1, ta32] at z; exact absurd z (by decide)))) (rw111.1 j), fun j => Eq.trans ((f245 _ _ (fun q => by have z := ta46; rw [q.1, ta44] at z; exact absurd z (by decide))).trans (f223 _ _ (fun q => by have z := ta46; rw [q.1, ta32] at z; exact absurd z (by decide)))) (rw111.2.1 j), fun j => Eq.trans ((f245 _ _ (fun q => by have z := ta48; rw [q.1, ta44] at z; exact absurd z (by decide))).trans (f223 _ _ (fun q => by have z := ta48; rw [q.1, ta32] at z; exact absurd z (by decide)))) (rw111.2.2 j)⟩ ((rw112.pu f223 (s := 3) (by omega) (by omega) d33 ta32 (by decide)).pu f245 (s := 9) (by omega) (by omega) d45 ta44 (by decide)) (by omega)
  exact lp113 _ _ v83 v85 v87 I0 rfl rfl rfl rfl rfl rfl rfl rfl rfl hS0 (by omega) (by omega) (by omega) (by omega) (by rw [show v87.toInt.toNat = 0 by omega]; show _ = (0 : Int); omega) ((B8.z (by omega)).cg (fun k hk => by rw [if_neg (fun w => by omega)])) ⟨(hH _ d33).cg (fun k hk => by by_cases z : (k : Int) < nzc gZ 3; (rw [if_pos z, if_pos z, if_neg (by omega)]); (rw [if_neg z, if_neg z])), fun _ _ => rfl⟩ ⟨RwD.z rfl (by rw [show v87.toInt.toNat = 0 by omega]; rfl), fun _ _ => rfl⟩ ⟨fun _ => rfl, fun _ => rfl, fun _ => rfl⟩ (FrN.rf (R := R0) (n := a0) (T := T)) (Nat.lt_succ_self _)
