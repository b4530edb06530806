def wik_X5_turnAll : List Nat := [2879, 3199, 3263, 3327, 3391]
def wrk_X5_turnAll : List Nat := []
set_option maxHeartbeats 4000000 in
theorem fk_X5_turnAll {l : Launch} {T : Nat → Nat} {cn : Nat} {K N : Nat → Nat} {I0 : cz_I} {R0 : cz_R} {L0 : cz_L} {d : Int} (hW0 : Wf T cn K N I0 R0 d) (gZ : cz_N) (gf : Nat → Int) {a0 : Nat} (ta0 : T a0 = 13) {x1 : Int32} (hx1 : 0 ≤ x1.toInt ∧ x1.toInt ≤ 239) {x2 : Int32} (hP : NgP I0 R0 a0 gZ) (hG : GdN gZ) (hF : ∀ r, R0 a0 11 = some r → ∀ t : Nat, (t : Int) < nzc gZ 4 → (I0 r t).toInt = gf t) (hH : ∀ r, R0 a0 3 = some r → Nib (I0 r x1.toInt.toNat) (fun _ => -2)) (pre0 : x1.toInt < (nzc gZ 0)) (pre1 : x2.toInt = (nzW gZ)) (pre2 : 0 ≤ x2.toInt) (pre3 : x2.toInt ≤ 31) : ConE l mX5_turnAll [.ref a0, .int x1, .int x2] cn K N I0 R0 L0 (ca_i (fun v cn' K' N' I' R' L' => cn = cn' ∧ K = K' ∧ N = N' ∧ R0 = R' ∧ L0 = L' ∧ St T cn K N d wik_X5_turnAll wrk_X5_turnAll I0 R0 I' R0 ∧ (B8 v (fun k => if (k : Int) < nzc gZ 3 ∧ ¬ mB gZ x1.toInt gf (nzc gZ 4).toNat k = -2 then 1 else 0)) ∧ (∀ r, R0 a0 3 = some r → Nib (I' r x1.toInt.toNat) (fun k => if (k : Int) < nzc gZ 3 then mB gZ x1.toInt gf (nzc gZ 4).toNat k else -2) ∧ ∀ j, ¬ j = x1.toInt.toNat → I' r j = I0 r j) ∧ (∀ r, R0 a0 8 = some r → ∀ u : Nat, (u : Int) < nzc gZ 4 → RwD I0 I' r u (mK gZ x1.toInt gf u)) ∧ (∀ r, R0 a0 9 = some r → ∀ u : Nat, (u : Int) < nzc gZ 4 → RwD I0 I' r u (mS gZ x1.toInt gf u)) ∧ (∀ r, R0 a0 10 = some r → ∀ u : Nat, (u : Int) < nzc gZ 4 → RwD I0 I' r u ((fun u => if 0 < mK gZ x1.toInt gf u then 1 else 0) u)) ∧ (∀ r, R0 a0 11 = some r → ∀ u : Nat, (u : Int) < nzc gZ 4 → (I' r u).toInt = if 0 < mK gZ x1.toInt gf u then x1.toInt + nzT gZ (14 + u) 4 else gf u) ∧ (FrN R0 a0 T I0 I') ∧ True)) := by
  refine ConE.of (by decide +kernel) rfl (Nat.le_of_ble_eq_true rfl) rfl (fun X hX hZ hE => ?_)
  subst hX
  have hS0 : St T cn K N d wik_X5_turnAll wrk_X5_turnAll I0 R0 I0 R0 := St.rf0 hW0
  have p1 := pre0
  have p2 := pre1
  have p3 := pre2
  have p4 := pre3
  obtain ⟨a5, d6, ta5⟩ := rf13_0 hW0 ta0
  obtain ⟨v7, c8⟩ : ∃ v, I0 a5 9 = v := ⟨_, rfl⟩
  have b9 := iv2_9 hW0 ta5 c8
  obtain ⟨a10, d11, ta10⟩ := rf13_1 hW0 ta0
  obtain ⟨a12, d13, ta12⟩ := rf2_2 hW0 ta5
  obtain ⟨a14, d15, ta14⟩ := rf2_6 hW0 ta5
  obtain ⟨a16, d17, ta16⟩ := rf2_8 hW0 ta5
  obtain ⟨a18, d19, ta18⟩ := rf2_10 hW0 ta5
  obtain ⟨a20, d21, ta20⟩ := rf2_12 hW0 ta5
  obtain ⟨a22, d23, ta22⟩ := rf12_2 hW0 ta10
  obtain ⟨a24, d25, ta24⟩ := rf12_3 hW0 ta10
  obtain ⟨a26, d27, ta26⟩ := rf12_5 hW0 ta10
  obtain ⟨a28, d29, ta28⟩ := rf12_8 hW0 ta10
  obtain ⟨a30, d31, ta30⟩ := rf12_9 hW0 ta10
  obtain ⟨a32, d33, ta32⟩ := rf12_11 hW0 ta10
  obtain ⟨a34, d35, ta34⟩ := rf13_3 hW0 ta0
  obtain ⟨a36, d37, ta36⟩ := rf13_4 hW0 ta0
  obtain ⟨a38, d39, ta38⟩ := rf13_5 hW0 ta0
  obtain ⟨a40, d41, ta40⟩ := rf13_6 hW0 ta0
  obtain ⟨a42, d43, ta42⟩ := rf13_7 hW0 ta0
  obtain ⟨a44, d45, ta44⟩ := rf13_8 hW0 ta0
  obtain ⟨a46, d47, ta46⟩ := rf13_9 hW0 ta0
  obtain ⟨a48, d49, ta48⟩ := rf13_10 hW0 ta0
  obtain ⟨a50, d51, ta50⟩ := rf13_11 hW0 ta0
  obtain ⟨v52, c53⟩ : ∃ v, I0 a5 0 = v := ⟨_, rfl⟩
  have b54 := iv2_0 hW0 ta5 c53
  obtain ⟨v55, c56⟩ : ∃ v, I0 a5 1 = v := ⟨_, rfl⟩
  have b57 := iv2_1 hW0 ta5 c56
  obtain ⟨v58, c59⟩ : ∃ v, I0 a5 5 = v := ⟨_, rfl⟩
  have b60 := iv2_5 hW0 ta5 c59
  obtain ⟨v61, c62⟩ : ∃ v, I0 a5 7 = v := ⟨_, rfl⟩
  obtain ⟨v63, c64⟩ : ∃ v, I0 a5 11 = v := ⟨_, rfl⟩
  have b65 := iv2_11 hW0 ta5 c64
  obtain ⟨v66, c67⟩ : ∃ v, I0 a0 2 = v := ⟨_, rfl⟩
  have hA68 := hP _ _ d6 d11
  have hc69 := hA68.1.ct
  rw [c53, c56, c59, c8, c64, c62] at hc69
  have hc69g := hG.cs
  have hc69m := hA68.2.2
  rw [c67] at hc69m
  have hc69n := hG.ms
  refine q_iconst dX5_turnAll_0 (by decide) ?_
  intro v70 h71
  refine tr_istore_n dX5_turnAll_1 (by decide) (by decide) ?_
  refine q_iconst dX5_turnAll_2 (by decide) ?_
  intro v72 h73
  refine tr_istore dX5_turnAll_3 (by decide) (by decide) ?_
  have lp94 : ∀ (fu : Nat) (ls : Nat → Option Value) (v74 : Int32) (v75 : Int32) (I81 : cz_I), ls 0 = some (.ref a0) → ls 1 = some (.int x1) → ls 2 = some (.int x2) → ls 3 = some (.int v74) → ls 4 = some (.int v75) → St T cn K N d wik_X5_turnAll wrk_X5_turnAll I0 R0 I81 R0 → 0 ≤ v75.toInt → v75.toInt ≤ v7.toInt → 0 ≤ v74.toInt → v74.toInt ≤ 255 → (B8 v74 (fun k => if (k : Int) < nzc gZ 3 ∧ ¬ mB gZ x1.toInt gf v75.toInt.toNat k = -2 then 1 else 0)) → (Nib (I81 a34 x1.toInt.toNat) (fun k => if (k : Int) < nzc gZ 3 then mB gZ x1.toInt gf v75.toInt.toNat k else -2) ∧ ∀ j, ¬ j = x1.toInt.toNat → I81 a34 j = I0 a34 j) → (∀ u : Nat, (u : Int) < nzc gZ 4 → RwD I0 I81 a44 u (if (u : Int) < v75.toInt then mK gZ x1.toInt gf u else 0)) → (∀ u : Nat, (u : Int) < nzc gZ 4 → RwD I0 I81 a46 u (if (u : Int) < v75.toInt then mS gZ x1.toInt gf u else 0)) → (∀ u : Nat, (u : Int) < nzc gZ 4 → RwD I0 I81 a48 u (if (u : Int) < v75.toInt then (fun u => if 0 < mK gZ x1.toInt gf u then 1 else 0) u else 0)) → (∀ u : Nat, (u : Int) < nzc gZ 4 → (I81 a50 u).toInt = if (u : Int) < v75.toInt ∧ 0 < mK gZ x1.toInt gf u then x1.toInt + nzT gZ (14 + u) 4 else gf u) → (FrN R0 a0 T I0 I81) → (-v75.toInt + 2147483647).toNat < fu → Tr X mX5_turnAll 5 ls [] cn K N I81 R0 L0 0 0 := by
    intro fu
    induction fu with
    | zero => intros; rename_i hz; exact absurd hz (Nat.not_lt_zero _)
    | succ fu ih94 =>
      intro ls v74 v75 I81 hl76 hl77 hl78 hl79 hl80 hS82 g83 g84 g85 g86 rw87 rw88 rw89 rw90 rw91 rw92 rw93 hm94
      refine tr_iload dX5_turnAll_5 hl80 ?_
      refine tr_aload_n dX5_turnAll_7 hl76 ?_
      refine tr_getR dX5_turnAll_8 fl5_39 (kR13 hS82.1 ta0) d6 ?_
      refine q_getI dX5_turnAll_11 fl5_81 (kR2 hS82.1 ta5) ((hS82.cell ta5 (by decide +kernel)).trans c8) ?_
      refine q_icmp_ge 95 dX5_turnAll_14 (by decide) (fun h96 => ?_) (fun h96 => ?_)
      · skip
        refine tr_iload_n dX5_turnAll_95 hl79 ?_
        exact tr_iret hZ dX5_turnAll_96 rfl (by decide) (by decide) ⟨v74, rfl, rfl, rfl, rfl, rfl, rfl, hS82, (by rw [show (nzc gZ 4).toNat = v75.toInt.toNat from congrArg Int.toNat (by omega)]; exact rw87), (fun r hr => by obtain rfl := Option.some.inj (d35.symm.trans hr); rw [show (nzc gZ 4).toNat = v75.toInt.toNat from congrArg Int.toNat (by omega)]; exact rw88), (fun r hr => by obtain rfl := Option.some.inj (d45.symm.trans hr); exact fun u hu => (rw89 u hu).cg (by rw [if_pos (show (u : Int) < v75.toInt by omega)])), (fun r hr => by obtain rfl := Option.some.inj (d47.symm.trans hr); exact fun u hu => (rw90 u hu).cg (by rw [if_pos (show (u : Int) < v75.toInt by omega)])), (fun r hr => by obtain rfl := Option.some.inj (d49.symm.trans hr); exact fun u hu => (rw91 u hu).cg (by rw [if_pos (show (u : Int) < v75.toInt by omega)])), (fun r hr => by obtain rfl := Option.some.inj (d51.symm.trans hr); exact fun u hu => by rw [rw92 u hu]; by_cases z : 0 < mK gZ x1.toInt gf u; (rw [if_pos ⟨by omega, z⟩, if_pos z]); (rw [if_neg (fun w => z w.2), if_neg z])), rw93, trivial⟩
      · skip
        refine tr_iload_n dX5_turnAll_17 hl78 ?_
        refine tr_iload dX5_turnAll_18 hl80 ?_
        refine q_callSNi hE (M' := mX10_bit) (as := [_, _]) dX5_turnAll_20 lk5_84 inX10_bit myX10_bit ⟨by decide, by decide⟩ rfl (Nat.le_of_ble_eq_true rfl) rfl rfl (by decide) (by decide) (f_X10_bitX   (by omega) (by omega)) ?_
        rintro v102 cn' K' N' I97 R98 L99 ⟨rfl, rfl, rfl, rfl, rfl, rfl, p103, -⟩
        have btv102 := bt_01 x2.toInt v75.toInt
        refine q_iconst dX5_turnAll_23 (by decide) ?_
        intro v104 h105
        refine q_icmp_ne 89 dX5_turnAll_24 (by decide) (fun h106 => ?_) (fun h106 => ?_)
        · skip
          refine q_iincE dX5_turnAll_89 hl80 (by decide) (by decide) (by intros; omega) ?_
          intro v107 h108
          refine tr_goto 5 dX5_turnAll_92 (by decide) ?_
          have sk109 := mB_sk (Z := gZ) (m := x1.toInt) (f := gf) (t := v75.toInt.toNat) (Or.inl (akZ_n (fun z1 z2 z3 => by rw [show ((v75.toInt.toNat : Nat) : Int) = v75.toInt by omega, show nzW gZ = x2.toInt by omega] at z1; omega)))
          exact ih94 _ v74 v107 I81 hl76 hl77 hl78 hl79 rfl hS82 (by omega) (by omega) (by omega) (by omega) (TA1n rw87 (by omega) (by omega) sk109) ⟨TA2n rw88.1 (by omega) (by omega) sk109, rw88.2⟩ (TA3n rw89 (by omega) (by omega) (mK_sk sk109)) (TA3n rw90 (by omega) (by omega) (mS_sk sk109)) (TA3n rw91 (by omega) (by omega) (if_neg (by rw [mK_sk sk109]; decide))) (TA6n rw92 (by omega) (by omega) (mK_sk sk109)) rw93 (by omega)
        · skip
          refine tr_aload_n dX5_turnAll_27 hl76 ?_
          refine tr_getR dX5_turnAll_28 fl5_36 (kR13 hS82.1 ta0) d51 ?_
          refine tr_iload dX5_turnAll_31 hl80 ?_
          refine q_iald dX5_turnAll_33 (kR52 hS82.1 ta50) (ti_in (nR52 hS82.1 ta50) (by omega) (by omega)) ?_
          intro v110 c111
          have hf112 : v110.toInt = gf v75.toInt.toNat := by have z := rw92 v75.toInt.toNat (by omega); rw [show I81 a50 v75.toInt.toNat = v110 from c111, if_neg (fun w => by omega)] at z; exact z
          refine tr_iload_n dX5_turnAll_34 hl77 ?_
          refine q_icmp_gt 89 dX5_turnAll_35 (by decide) (fun h113 => ?_) (fun h113 => ?_)
          · skip
            refine q_iincE dX5_turnAll_89 hl80 (by decide) (by decide) (by intros; omega) ?_
            intro v114 h115
            refine tr_goto 5 dX5_turnAll_92 (by decide) ?_
            have sk116 := mB_sk (Z := gZ) (m := x1.toInt) (f := gf) (t := v75.toInt.toNat) (Or.inl (akZ_n (fun z1 z2 z3 => by rw [show ((v75.toInt.toNat : Nat) : Int) = v75.toInt by omega, show nzW gZ = x2.toInt by omega] at z1; omega)))
            exact ih94 _ v74 v114 I81 hl76 hl77 hl78 hl79 rfl hS82 (by omega) (by omega) (by omega) (by omega) (TA1n rw87 (by omega) (by omega) sk116) ⟨TA2n rw88.1 (by omega) (by omega) sk116, rw88.2⟩ (TA3n rw89 (by omega) (by omega) (mK_sk sk116)) (TA3n rw90 (by omega) (by omega) (mS_sk sk116)) (TA3n rw91 (by omega) (by omega) (if_neg (by rw [mK_sk sk116]; decide))) (TA6n rw92 (by omega) (by omega) (mK_sk sk116)) rw93 (by omega)
          · skip
            refine tr_aload_n dX5_turnAll_38 hl76 ?_
            refine tr_iload dX5_turnAll_39 hl80 ?_
            refine tr_iload_n dX5_turnAll_41 hl77 ?_
            refine q_callVi hE (M' := mX5_noticedHuts) (as := [_, _]) dX5_turnAll_42 lk5_87 inX5_noticedHuts seX5_noticedHuts myX5_noticedHuts (by decide) ⟨by decide, by decide⟩ rfl (kR13 hS82.1 ta0) (Nat.le_of_ble_eq_true rfl) rfl rfl (by decide) (by decide) (fk_X5_noticedHuts hS82.1 (gZ) ta0 (by omega) (by omega) (NgP.st hP hW0 ta0 hS82 (by decide +kernel) (by decide +kernel)) hG (by first | done | with_reducible assumption | omega) (by first | done | with_reducible assumption | omega)) ?_
            rintro v122 cn' K' N' I117 R118 L119 ⟨rfl, rfl, rfl, rfl, rfl, rfl, rp123, -⟩
            have hn124 := And.intro rp123.1 rp123.2.1
            refine tr_aload_n dX5_turnAll_45 hl76 ?_
            refine tr_getR dX5_turnAll_46 fl5_39 (kR13 hS82.1 ta0) d6 ?_
            refine tr_getR dX5_turnAll_49 fl5_90 (kR2 hS82.1 ta5) d19 ?_
            refine tr_iload dX5_turnAll_52 hl80 ?_
            obtain ⟨a125, d126, ta125⟩ := rf21 hS82.1 ta18 (j := v75.toNatClampNeg) (ti_lt (by omega) (by omega))
            refine tr_aald dX5_turnAll_54 (kR21 hS82.1 ta18) (by decide) (by decide) (ti_in (nR21 hS82.1 ta18) (by omega) (by omega)) d126 ?_
            obtain ⟨v128, c129⟩ : ∃ v, I0 a125 0 = v := ⟨_, rfl⟩
            obtain ⟨v130, c131⟩ : ∃ v, I0 a125 1 = v := ⟨_, rfl⟩
            obtain ⟨v132, c133⟩ : ∃ v, I0 a125 2 = v := ⟨_, rfl⟩
            obtain ⟨v134, c135⟩ : ∃ v, I0 a125 3 = v := ⟨_, rfl⟩
            obtain ⟨v136, c137⟩ : ∃ v, I0 a125 4 = v := ⟨_, rfl⟩
            obtain ⟨v138, c139⟩ : ∃ v, I0 a125 5 = v := ⟨_, rfl⟩
            have ho127 := hA68.1.tu d19 (k := v75.toInt.toNat) (by omega) (by omega) d126
            rw [c129, c131, c133, c135, c137, c139] at ho127
            have ho127g := hG.tu (t := v75.toInt.toNat) (by omega)
            refine q_getI dX5_turnAll_55 fl5_94 (kR4 hS82.1 ta125) ((hS82.cell ta125 (by decide +kernel)).trans c139) ?_
            refine tr_iand dX5_turnAll_58 ?_
            obtain ⟨v140, lx141⟩ : ∃ z, z = v122 &&& v138 := ⟨_, rfl⟩
            rw [← lx141]
            have hu143 := and15h lx141 (by omega) (by omega)
            have hu143r := And.intro hu143.1 hu143.2.1
            have hU142 : ∀ h : Nat, (h : Int) < nzc gZ 1 → bt v140.toInt (h : Int) = if bt (nzT gZ (14 + v75.toInt.toNat) 5) (h : Int) = 1 ∧ noZ gZ v75.toInt.toNat (h : Int) x1.toInt = 1 then 1 else 0 := fun h hh => by rw [hu143.2.2 h (by omega), rp123.2.2 h hh, show v138.toInt = nzT gZ (14 + v75.toInt.toNat) 5 by omega]; by_cases z1 : bt (nzT gZ (14 + v75.toInt.toNat) 5) (h : Int) = 1 ∧ noZ gZ v75.toInt.toNat (h : Int) x1.toInt = 1; (rw [if_pos z1, if_pos ⟨z1.2, z1.1⟩]); (rw [if_neg z1, if_neg (fun w => z1 ⟨w.2, w.1⟩)])
            refine tr_istore dX5_turnAll_59 (by decide) (by decide) ?_
            refine tr_iload dX5_turnAll_61 rfl ?_
            refine q_if_eq 89 dX5_turnAll_63 (by decide) (fun h144 => ?_) (fun h144 => ?_)
            · skip
              refine q_iincE dX5_turnAll_89 hl80 (by decide) (by decide) (by intros; omega) ?_
              intro v145 h146
              refine tr_goto 5 dX5_turnAll_92 (by decide) ?_
              have sk147 := mB_sk (Z := gZ) (m := x1.toInt) (f := gf) (t := v75.toInt.toNat) (Or.inr (fun k hk => elZ_n hU142 (by omega) hG hk))
              exact ih94 _ v74 v145 I81 hl76 hl77 hl78 hl79 rfl hS82 (by omega) (by omega) (by omega) (by omega) (TA1n rw87 (by omega) (by omega) sk147) ⟨TA2n rw88.1 (by omega) (by omega) sk147, rw88.2⟩ (TA3n rw89 (by omega) (by omega) (mK_sk sk147)) (TA3n rw90 (by omega) (by omega) (mS_sk sk147)) (TA3n rw91 (by omega) (by omega) (if_neg (by rw [mK_sk sk147]; decide))) (TA6n rw92 (by omega) (by omega) (mK_sk sk147)) rw93 (by omega)
            · skip
              refine tr_aload_n dX5_turnAll_66 hl76 ?_
              refine tr_iload dX5_turnAll_67 hl80 ?_
              refine tr_iload_n dX5_turnAll_69 hl77 ?_
              refine q_callVi hE (M' := mX5_isAwake) (as := [_, _]) dX5_turnAll_70 lk5_99 inX5_isAwake seX5_isAwake myX5_isAwake (by decide) ⟨by decide, by decide⟩ rfl (kR13 hS82.1 ta0) (Nat.le_of_ble_eq_true rfl) rfl rfl (by decide) (by decide) (fk_X5_isAwake hS82.1 (gZ) ta0 (by omega) (by omega) (NgP.st hP hW0 ta0 hS82 (by decide +kernel) (by decide +kernel)) hG (by first | done | with_reducible assumption | omega) (by first | done | with_reducible assumption | omega)) ?_
              rintro v153 cn' K' N' I148 R149 L150 ⟨rfl, rfl, rfl, rfl, rfl, rfl, h154, rp155, -⟩
              refine q_if_eq 89 dX5_turnAll_73 (by decide) (fun h156 => ?_) (fun h156 => ?_)
              · skip
                refine q_iincE dX5_turnAll_89 hl80 (by decide) (by decide) (by intros; omega) ?_
                intro v157 h158
                refine tr_goto 5 dX5_turnAll_92 (by decide) ?_
                have sk159 := mB_sk (Z := gZ) (m := x1.toInt) (f := gf) (t := v75.toInt.toNat) (Or.inl (akZ_n (fun z1 z2 z3 => by rw [show ((v75.toInt.toNat : Nat) : Int) = v75.toInt by omega, show nzW gZ = x2.toInt by omega] at z1; omega)))
                exact ih94 _ v74 v157 I81 hl76 hl77 hl78 hl79 rfl hS82 (by omega) (by omega) (by omega) (by omega) (TA1n rw87 (by omega) (by omega) sk159) ⟨TA2n rw88.1 (by omega) (by omega) sk159, rw88.2⟩ (TA3n rw89 (by omega) (by omega) (mK_sk sk159)) (TA3n rw90 (by omega) (by omega) (mS_sk sk159)) (TA3n rw91 (by omega) (by omega) (if_neg (by rw [mK_sk sk159]; decide))) (TA6n rw92 (by omega) (by omega) (mK_sk sk159)) rw93 (by omega)
              · skip
                have ak160 : akZ gZ x1.toInt gf v75.toInt.toNat = 1 := akZ_1 (by rw [show ((v75.toInt.toNat : Nat) : Int) = v75.toInt by omega, show nzW gZ = x2.toInt by omega]; omega) (by omega) (by omega)
                refine tr_iload_n dX5_turnAll_76 hl79 ?_
                refine tr_aload_n dX5_turnAll_77 hl76 ?_
                refine tr_iload dX5_turnAll_78 hl80 ?_
                refine tr_iload_n dX5_turnAll_80 hl77 ?_
                refine tr_iload dX5_turnAll_81 rfl ?_
                refine tr_iload_n dX5_turnAll_83 hl79 ?_
                refine q_callVi hE (M' := mX5_turnSome) (as := [_, _, _, _]) dX5_turnAll_84 lk5_103 inX5_turnSome seX5_turnSome myX5_turnSome (by decide) ⟨by decide, by decide⟩ rfl (kR13 hS82.1 ta0) (Nat.le_of_ble_eq_true rfl) rfl rfl (by decide) (by decide) (fk_X5_turnSome hS82.1 (gZ) ((mB gZ x1.toInt gf v75.toInt.toNat)) ta0 (by omega) (by omega) (by omega) (by omega) (NgP.st hP hW0 ta0 hS82 (by decide +kernel) (by decide +kernel)) hG hU142 rw87 (fun r hr => by obtain rfl := Option.some.inj (d35.symm.trans hr); exact rw88.1) (by first | done | with_reducible assumption | omega) (by first | done | with_reducible assumption | omega)) ?_
                rintro v166 cn' K' N' I161 R162 L163 ⟨rfl, rfl, rfl, rfl, rfl, g164, rp167, rp168, rp169, rp170, rp171, rp172, rp173, -⟩
                have hS174 := hS82.tr g164 (by decide +kernel) (by decide +kernel)
                refine tr_ior dX5_turnAll_87 ?_
                obtain ⟨v175, lx176⟩ : ∃ z, z = v74 ||| v166 := ⟨_, rfl⟩
                rw [← lx176]
                have hb177 := TA1y (l' := v75.toInt + 1) rw87 (by omega) rfl ak160 rp167 lx176
                have hb177r := And.intro hb177.1 hb177.2.1
                refine tr_istore_n dX5_turnAll_88 (by decide) (by decide) ?_
                refine q_iincE dX5_turnAll_89 hl80 (by decide) (by decide) (by intros; omega) ?_
                intro v178 h179
                refine tr_goto 5 dX5_turnAll_92 (by decide) ?_
                exact ih94 _ v175 v178 I161 hl76 hl77 hl78 rfl rfl hS174 (by omega) (by omega) (by omega) (by omega) (by rw [show v178.toInt.toNat = (v75.toInt + 1).toNat by omega]; exact hb177) ⟨TA2y (rp168 _ d35).1 (by omega) (by omega) ak160, fun j hj => Eq.trans ((rp168 _ d35).2 j hj) (rw88.2 j hj)⟩ (TA3y rw89 (by omega) (by omega) (by omega) (rp169 _ d45) (mK_tk ak160).symm (mK_b (Z := gZ) (by omega) _)) (TA3y rw90 (by omega) (by omega) (by omega) (rp170 _ d47) (mS_tk ak160).symm (mS_b (Z := gZ) (by omega) _)) (TA3y rw91 (by omega) (by omega) (by omega) (rp171 _ d49) (by show _ = if 0 < mK _ _ _ _ then (1 : Int) else 0; rw [mK_tk ak160]) (by show 0 ≤ (if _ then (1 : Int) else 0) ∧ (if _ then (1 : Int) else 0) ≤ 8; split <;> omega)) (TA6y rw92 (by omega) (by omega) (by omega) (rp172 _ d51) (mK_tk ak160).symm) (rw93.tr rp173) (by omega)
  exact lp94 _ _ v70 v72 I0 rfl rfl rfl rfl rfl hS0 (by omega) (by omega) (by omega) (by omega) ((B8.z (by omega)).cg (fun k hk => by rw [show v72.toInt.toNat = 0 by omega, if_neg (fun w => w.2 rfl)])) ⟨(hH _ d35).cg (fun k hk => by rw [show v72.toInt.toNat = 0 by omega]; split <;> rfl), fun _ _ => rfl⟩ (fun u _ => RwD.z rfl (if_neg (by omega))) (fun u _ => RwD.z rfl (if_neg (by omega))) (fun u _ => RwD.z rfl (if_neg (by omega))) (fun u hu => by rw [if_neg (fun w => by omega)]; exact hF _ d51 u hu) (FrN.rf (R := R0) (n := a0) (T := T)) (Nat.lt_succ_self _)
def wik_J7_fill_53178 : List Nat := [2879]
def wrk_J7_fill_53178 : List Nat := []
set_option maxHeartbeats 4000000 in
theorem fk_J7_fill_53178 {l : Launch} {T : Nat → Nat} {cn : Nat} {K N : Nat → Nat} {I0 : cz_I} {R0 : cz_R} {L0 : cz_L} {d : Int} (hW0 : Wf T cn K N I0 R0 d)  {a0 : Nat} (ta0 : T a0 = 44) {x1 : Int32} : ConE l mJ7_fill_53178 [.ref a0, .int x1] cn K N I0 R0 L0 (ca_v (fun cn' K' N' I' R' L' => cn = cn' ∧ K = K' ∧ N = N' ∧ R0 = R' ∧ L0 = L' ∧ St T cn K N d wik_J7_fill_53178 wrk_J7_fill_53178 I0 R0 I' R0 ∧ (∀ j : Nat, j < 240 → I' a0 j = x1) ∧ (∀ a j, ¬ a = a0 → I' a j = I0 a j) ∧ True)) := by
  refine ConE.of (by decide +kernel) rfl (Nat.le_of_ble_eq_true rfl) rfl (fun X hX hZ hE => ?_)
  subst hX
  have hS0 : St T cn K N d wik_J7_fill_53178 wrk_J7_fill_53178 I0 R0 I0 R0 := St.rf0 hW0
  refine q_iconst dJ7_fill_53178_0 (by decide) ?_
  intro v1 h2
  refine tr_istore_n dJ7_fill_53178_1 (by decide) (by decide) ?_
  refine tr_aload_n dJ7_fill_53178_2 rfl ?_
  refine q_alen dJ7_fill_53178_3 (kR44 hS0.1 ta0) (by decide) (by decide) (nR44 hS0.1 ta0) (by decide +kernel) ?_
  intro v3 h4
  refine tr_istore_n dJ7_fill_53178_4 (by decide) (by decide) ?_
  have lp16 : ∀ (fu : Nat) (ls : Nat → Option Value) (v5 : Int32) (I10 : cz_I), ls 0 = some (.ref a0) → ls 1 = some (.int x1) → ls 2 = some (.int v5) → ls 3 = some (.int v3) → St T cn K N d wik_J7_fill_53178 wrk_J7_fill_53178 I0 R0 I10 R0 → 0 ≤ v5.toInt → v5.toInt ≤ 240 → v3.toInt = 240 → ((∀ j : Nat, (j : Int) < v5.toInt → I10 a0 j = x1) ∧ ∀ a j, ¬ a = a0 → I10 a j = I0 a j) → (-v5.toInt + 2147483647).toNat < fu → Tr X mJ7_fill_53178 5 ls [] cn K N I10 R0 L0 0 0 := by
    intro fu
    induction fu with
    | zero => intros; rename_i hz; exact absurd hz (Nat.not_lt_zero _)
    | succ fu ih16 =>
      intro ls v5 I10 hl6 hl7 hl8 hl9 hS11 g12 g13 g14 rw15 hm16
      refine tr_iload_n dJ7_fill_53178_5 hl8 ?_
      refine tr_iload_n dJ7_fill_53178_6 hl9 ?_
      refine q_icmp_ge 20 dJ7_fill_53178_7 (by decide) (fun h18 => ?_) (fun h18 => ?_)
      · skip
        exact tr_vret hZ dJ7_fill_53178_20 rfl (by decide) (by decide) ⟨rfl, rfl, rfl, rfl, rfl, rfl, hS11, (fun j hj => rw15.1 j (by omega)), rw15.2, trivial⟩
      · skip
        refine tr_aload_n dJ7_fill_53178_10 hl6 ?_
        refine tr_iload_n dJ7_fill_53178_11 hl8 ?_
        refine tr_iload_n dJ7_fill_53178_12 hl7 ?_
        refine q_iast dJ7_fill_53178_13 (kR44 hS11.1 ta0) (ti_in (nR44 hS11.1 ta0) (by omega) (by omega)) hS11 ta0 (iokF rfl) rfl (by rfl) ?_
        intro I19 hS20 e22 f21
        refine q_iincE dJ7_fill_53178_14 hl8 (by decide) (by decide) (by intros; omega) ?_
        intro v23 h24
        refine tr_goto 5 dJ7_fill_53178_17 (by decide) ?_
        exact ih16 _ v23 I19 hl6 hl7 rfl hl9 hS20 (by omega) (by omega) (by omega) ⟨fun j hj => by by_cases z : (j : Int) < v5.toInt; exact (f21 _ _ (fun q => by have y := q.2; have y2 := ti_nat (i := v5) (by omega); omega)).trans (rw15.1 j z); have y2 := ti_nat (i := v5) (by omega); obtain rfl : j = v5.toNatClampNeg := (by omega); exact e22, fun a j ha => (f21 _ _ (fun q => ha q.1)).trans (rw15.2 a j ha)⟩ (by omega)
  exact lp16 _ _ v1 I0 rfl rfl rfl rfl hS0 (by omega) (by omega) (by omega) ⟨fun j hj => by exfalso; omega, fun _ _ _ => rfl⟩ (Nat.lt_succ_self _)
def wik_J7_fill_53178_1 : List Nat := [2943]
def wrk_J7_fill_53178_1 : List Nat := []
set_option maxHeartbeats 4000000 in
theorem fk_J7_fill_53178_1 {l : Launch} {T : Nat → Nat} {cn : Nat} {K N : Nat → Nat} {I0 : cz_I} {R0 : cz_R} {L0 : cz_L} {d : Int} (hW0 : Wf T cn K N I0 R0 d)  {a0 : Nat} (ta0 : T a0 = 45) {x1 : Int32} : ConE l mJ7_fill_53178 [.ref a0, .int x1] cn K N I0 R0 L0 (ca_v (fun cn' K' N' I' R' L' => cn = cn' ∧ K = K' ∧ N = N' ∧ R0 = R' ∧ L0 = L' ∧ St T cn K N d wik_J7_fill_53178_1 wrk_J7_fill_53178_1 I0 R0 I' R0 ∧ (∀ j : Nat, j < 8 → I' a0 j = x1) ∧ (∀ a j, ¬ a = a0 → I' a j = I0 a j) ∧ True)) := by
  refine ConE.of (by decide +kernel) rfl (Nat.le_of_ble_eq_true rfl) rfl (fun X hX hZ hE => ?_)
  subst hX
  have hS0 : St T cn K N d wik_J7_fill_53178_1 wrk_J7_fill_53178_1 I0 R0 I0 R0 := St.rf0 hW0
  refine q_iconst dJ7_fill_53178_0 (by decide) ?_
  intro v1 h2
  refine tr_istore_n dJ7_fill_53178_1 (by decide) (by decide) ?_
  refine tr_aload_n dJ7_fill_53178_2 rfl ?_
  refine q_alen dJ7_fill_53178_3 (kR45 hS0.1 ta0) (by decide) (by decide) (nR45 hS0.1 ta0) (by decide +kernel) ?_
  intro v3 h4
  refine tr_istore_n dJ7_fill_53178_4 (by decide) (by decide) ?_
  have lp16 : ∀ (fu : Nat) (ls : Nat → Option Value) (v5 : Int32) (I10 : cz_I), ls 0 = some (.ref a0) → ls 1 = some (.int x1) → ls 2 = some (.int v5) → ls 3 = some (.int v3) → St T cn K N d wik_J7_fill_53178_1 wrk_J7_fill_53178_1 I0 R0 I10 R0 → 0 ≤ v5.toInt → v5.toInt ≤ 8 → v3.toInt = 8 → ((∀ j : Nat, (j : Int) < v5.toInt → I10 a0 j = x1) ∧ ∀ a j, ¬ a = a0 → I10 a j = I0 a j) → (-v5.toInt + 2147483647).toNat < fu → Tr X mJ7_fill_53178 5 ls [] cn K N I10 R0 L0 0 0 := by
    intro fu
    induction fu with
    | zero => intros; rename_i hz; exact absurd hz (Nat.not_lt_zero _)
    | succ fu ih16 =>
      intro ls v5 I10 hl6 hl7 hl8 hl9 hS11 g12 g13 g14 rw15 hm16
      refine tr_iload_n dJ7_fill_53178_5 hl8 ?_
      refine tr_iload_n dJ7_fill_53178_6 hl9 ?_
      refine q_icmp_ge 20 dJ7_fill_53178_7 (by decide) (fun h18 => ?_) (fun h18 => ?_)
      · skip
        exact tr_vret hZ dJ7_fill_53178_20 rfl (by decide) (by decide) ⟨rfl, rfl, rfl, rfl, rfl, rfl, hS11, (fun j hj => rw15.1 j (by omega)), rw15.2, trivial⟩
      · skip
        refine tr_aload_n dJ7_fill_53178_10 hl6 ?_
        refine tr_iload_n dJ7_fill_53178_11 hl8 ?_
        refine tr_iload_n dJ7_fill_53178_12 hl7 ?_
        refine q_iast dJ7_fill_53178_13 (kR45 hS11.1 ta0) (ti_in (nR45 hS11.1 ta0) (by omega) (by omega)) hS11 ta0 (iokF rfl) rfl (by rfl) ?_
        intro I19 hS20 e22 f21
        refine q_iincE dJ7_fill_53178_14 hl8 (by decide) (by decide) (by intros; omega) ?_
        intro v23 h24
        refine tr_goto 5 dJ7_fill_53178_17 (by decide) ?_
        exact ih16 _ v23 I19 hl6 hl7 rfl hl9 hS20 (by omega) (by omega) (by omega) ⟨fun j hj => by by_cases z : (j : Int) < v5.toInt; exact (f21 _ _ (fun q => by have y := q.2; have y2 := ti_nat (i := v5) (by omega); omega)).trans (rw15.1 j z); have y2 := ti_nat (i := v5) (by omega); obtain rfl : j = v5.toNatClampNeg := (by omega); exact e22, fun a j ha => (f21 _ _ (fun q => ha q.1)).trans (rw15.2 a j ha)⟩ (by omega)
  exact lp16 _ _ v1 I0 rfl rfl rfl rfl hS0 (by omega) (by omega) (by omega) ⟨fun j hj => by exfalso; omega, fun _ _ _ => rfl⟩ (Nat.lt_succ_self _)
def wik_J7_fill_53178_2 : List Nat := [3007]
def wrk_J7_fill_53178_2 : List Nat := []
set_option maxHeartbeats 4000000 in
theorem fk_J7_fill_53178_2 {l : Launch} {T : Nat → Nat} {cn : Nat} {K N : Nat → Nat} {I0 : cz_I} {R0 : cz_R} {L0 : cz_L} {d : Int} (hW0 : Wf T cn K N I0 R0 d)  {a0 : Nat} (ta0 : T a0 = 46) {x1 : Int32} : ConE l mJ7_fill_53178 [.ref a0, .int x1] cn K N I0 R0 L0 (ca_v (fun cn' K' N' I' R' L' => cn = cn' ∧ K = K' ∧ N = N' ∧ R0 = R' ∧ L0 = L' ∧ St T cn K N d wik_J7_fill_53178_2 wrk_J7_fill_53178_2 I0 R0 I' R0 ∧ (∀ j : Nat, j < 8 → I' a0 j = x1) ∧ (∀ a j, ¬ a = a0 → I' a j = I0 a j) ∧ True)) := by
  refine ConE.of (by decide +kernel) rfl (Nat.le_of_ble_eq_true rfl) rfl (fun X hX hZ hE => ?_)
  subst hX
  have hS0 : St T cn K N d wik_J7_fill_53178_2 wrk_J7_fill_53178_2 I0 R0 I0 R0 := St.rf0 hW0
  refine q_iconst dJ7_fill_53178_0 (by decide) ?_
  intro v1 h2
  refine tr_istore_n dJ7_fill_53178_1 (by decide) (by decide) ?_
  refine tr_aload_n dJ7_fill_53178_2 rfl ?_
  refine q_alen dJ7_fill_53178_3 (kR46 hS0.1 ta0) (by decide) (by decide) (nR46 hS0.1 ta0) (by decide +kernel) ?_
  intro v3 h4
  refine tr_istore_n dJ7_fill_53178_4 (by decide) (by decide) ?_
  have lp16 : ∀ (fu : Nat) (ls : Nat → Option Value) (v5 : Int32) (I10 : cz_I), ls 0 = some (.ref a0) → ls 1 = some (.int x1) → ls 2 = some (.int v5) → ls 3 = some (.int v3) → St T cn K N d wik_J7_fill_53178_2 wrk_J7_fill_53178_2 I0 R0 I10 R0 → 0 ≤ v5.toInt → v5.toInt ≤ 8 → v3.toInt = 8 → ((∀ j : Nat, (j : Int) < v5.toInt → I10 a0 j = x1) ∧ ∀ a j, ¬ a = a0 → I10 a j = I0 a j) → (-v5.toInt + 2147483647).toNat < fu → Tr X mJ7_fill_53178 5 ls [] cn K N I10 R0 L0 0 0 := by
    intro fu
    induction fu with
    | zero => intros; rename_i hz; exact absurd hz (Nat.not_lt_zero _)
    | succ fu ih16 =>
      intro ls v5 I10 hl6 hl7 hl8 hl9 hS11 g12 g13 g14 rw15 hm16
      refine tr_iload_n dJ7_fill_53178_5 hl8 ?_
      refine tr_iload_n dJ7_fill_53178_6 hl9 ?_
      refine q_icmp_ge 20 dJ7_fill_53178_7 (by decide) (fun h18 => ?_) (fun h18 => ?_)
      · skip
        exact tr_vret hZ dJ7_fill_53178_20 rfl (by decide) (by decide) ⟨rfl, rfl, rfl, rfl, rfl, rfl, hS11, (fun j hj => rw15.1 j (by omega)), rw15.2, trivial⟩
      · skip
        refine tr_aload_n dJ7_fill_53178_10 hl6 ?_
        refine tr_iload_n dJ7_fill_53178_11 hl8 ?_
        refine tr_iload_n dJ7_fill_53178_12 hl7 ?_
        refine q_iast dJ7_fill_53178_13 (kR46 hS11.1 ta0) (ti_in (nR46 hS11.1 ta0) (by omega) (by omega)) hS11 ta0 (iokF rfl) rfl (by rfl) ?_
        intro I19 hS20 e22 f21
        refine q_iincE dJ7_fill_53178_14 hl8 (by decide) (by decide) (by intros; omega) ?_
        intro v23 h24
        refine tr_goto 5 dJ7_fill_53178_17 (by decide) ?_
        exact ih16 _ v23 I19 hl6 hl7 rfl hl9 hS20 (by omega) (by omega) (by omega) ⟨fun j hj => by by_cases z : (j : Int) < v5.toInt; exact (f21 _ _ (fun q => by have y := q.2; have y2 := ti_nat (i := v5) (by omega); omega)).trans (rw15.1 j z); have y2 := ti_nat (i := v5) (by omega); obtain rfl : j = v5.toNatClampNeg := (by omega); exact e22, fun a j ha => (f21 _ _ (fun q => ha q.1)).trans (rw15.2 a j ha)⟩ (by omega)
  exact lp16 _ _ v1 I0 rfl rfl rfl rfl hS0 (by omega) (by omega) (by omega) ⟨fun j hj => by exfalso; omega, fun _ _ _ => rfl⟩ (Nat.lt_succ_self _)
def wik_J7_fill_53178_3 : List Nat := [3071]
def wrk_J7_fill_53178_3 : List Nat := []
set_option maxHeartbeats 4000000 in
theorem fk_J7_fill_53178_3 {l : Launch} {T : Nat → Nat} {cn : Nat} {K N : Nat → Nat} {I0 : cz_I} {R0 : cz_R} {L0 : cz_L} {d : Int} (hW0 : Wf T cn K N I0 R0 d)  {a0 : Nat} (ta0 : T a0 = 47) {x1 : Int32} : ConE l mJ7_fill_53178 [.ref a0, .int x1] cn K N I0 R0 L0 (ca_v (fun cn' K' N' I' R' L' => cn = cn' ∧ K = K' ∧ N = N' ∧ R0 = R' ∧ L0 = L' ∧ St T cn K N d wik_J7_fill_53178_3 wrk_J7_fill_53178_3 I0 R0 I' R0 ∧ (∀ j : Nat, j < 8 → I' a0 j = x1) ∧ (∀ a j, ¬ a = a0 → I' a j = I0 a j) ∧ True)) := by
  refine ConE.of (by decide +kernel) rfl (Nat.le_of_ble_eq_true rfl) rfl (fun X hX hZ hE => ?_)
  subst hX
  have hS0 : St T cn K N d wik_J7_fill_53178_3 wrk_J7_fill_53178_3 I0 R0 I0 R0 := St.rf0 hW0
  refine q_iconst dJ7_fill_53178_0 (by decide) ?_
  intro v1 h2
  refine tr_istore_n dJ7_fill_53178_1 (by decide) (by decide) ?_
  refine tr_aload_n dJ7_fill_53178_2 rfl ?_
  refine q_alen dJ7_fill_53178_3 (kR47 hS0.1 ta0) (by decide) (by decide) (nR47 hS0.1 ta0) (by decide +kernel) ?_
  intro v3 h4
  refine tr_istore_n dJ7_fill_53178_4 (by decide) (by decide) ?_
  have lp16 : ∀ (fu : Nat) (ls : Nat → Option Value) (v5 : Int32) (I10 : cz_I), ls 0 = some (.ref a0) → ls 1 = some (.int x1) → ls 2 = some (.int v5) → ls 3 = some (.int v3) → St T cn K N d wik_J7_fill_53178_3 wrk_J7_fill_53178_3 I0 R0 I10 R0 → 0 ≤ v5.toInt → v5.toInt ≤ 8 → v3.toInt = 8 → ((∀ j : Nat, (j : Int) < v5.toInt → I10 a0 j = x1) ∧ ∀ a j, ¬ a = a0 → I10 a j = I0 a j) → (-v5.toInt + 2147483647).toNat < fu → Tr X mJ7_fill_53178 5 ls [] cn K N I10 R0 L0 0 0 := by
    intro fu
    induction fu with
    | zero => intros; rename_i hz; exact absurd hz (Nat.not_lt_zero _)
    | succ fu ih16 =>
      intro ls v5 I10 hl6 hl7 hl8 hl9 hS11 g12 g13 g14 rw15 hm16
      refine tr_iload_n dJ7_fill_53178_5 hl8 ?_
      refine tr_iload_n dJ7_fill_53178_6 hl9 ?_
      refine q_icmp_ge 20 dJ7_fill_53178_7 (by decide) (fun h18 => ?_) (fun h18 => ?_)
      · skip
        exact tr_vret hZ dJ7_fill_53178_20 rfl (by decide) (by decide) ⟨rfl, rfl, rfl, rfl, rfl, rfl, hS11, (fun j hj => rw15.1 j (by omega)), rw15.2, trivial⟩
      · skip
        refine tr_aload_n dJ7_fill_53178_10 hl6 ?_
        refine tr_iload_n dJ7_fill_53178_11 hl8 ?_
        refine tr_iload_n dJ7_fill_53178_12 hl7 ?_
        refine q_iast dJ7_fill_53178_13 (kR47 hS11.1 ta0) (ti_in (nR47 hS11.1 ta0) (by omega) (by omega)) hS11 ta0 (iokF rfl) rfl (by rfl) ?_
        intro I19 hS20 e22 f21
        refine q_iincE dJ7_fill_53178_14 hl8 (by decide) (by decide) (by intros; omega) ?_
        intro v23 h24
        refine tr_goto 5 dJ7_fill_53178_17 (by decide) ?_
        exact ih16 _ v23 I19 hl6 hl7 rfl hl9 hS20 (by omega) (by omega) (by omega) ⟨fun j hj => by by_cases z : (j : Int) < v5.toInt; exact (f21 _ _ (fun q => by have y := q.2; have y2 := ti_nat (i := v5) (by omega); omega)).trans (rw15.1 j z); have y2 := ti_nat (i := v5) (by omega); obtain rfl : j = v5.toNatClampNeg := (by omega); exact e22, fun a j ha => (f21 _ _ (fun q => ha q.1)).trans (rw15.2 a j ha)⟩ (by omega)
  exact lp16 _ _ v1 I0 rfl rfl rfl rfl hS0 (by omega) (by omega) (by omega) ⟨fun j hj => by exfalso; omega, fun _ _ _ => rfl⟩ (Nat.lt_succ_self _)
def wik_J7_fill_53178_4 : List Nat := [3135]
def wrk_J7_fill_53178_4 : List Nat := []
set_option maxHeartbeats 4000000 in
theorem fk_J7_fill_53178_4 {l : Launch} {T : Nat → Nat} {cn : Nat} {K N : Nat → Nat} {I0 : cz_I} {R0 : cz_R} {L0 : cz_L} {d : Int} (hW0 : Wf T cn K N I0 R0 d)  {a0 : Nat} (ta0 : T a0 = 48) {x1 : Int32} : ConE l mJ7_fill_53178 [.ref a0, .int x1] cn K N I0 R0 L0 (ca_v (fun cn' K' N' I' R' L' => cn = cn' ∧ K = K' ∧ N = N' ∧ R0 = R' ∧ L0 = L' ∧ St T cn K N d wik_J7_fill_53178_4 wrk_J7_fill_53178_4 I0 R0 I' R0 ∧ (∀ j : Nat, j < 8 → I' a0 j = x1) ∧ (∀ a j, ¬ a = a0 → I' a j = I0 a j) ∧ True)) := by
  refine ConE.of (by decide +kernel) rfl (Nat.le_of_ble_eq_true rfl) rfl (fun X hX hZ hE => ?_)
  subst hX
  have hS0 : St T cn K N d wik_J7_fill_53178_4 wrk_J7_fill_53178_4 I0 R0 I0 R0 := St.rf0 hW0
  refine q_iconst dJ7_fill_53178_0 (by decide) ?_
  intro v1 h2
  refine tr_istore_n dJ7_fill_53178_1 (by decide) (by decide) ?_
  refine tr_aload_n dJ7_fill_53178_2 rfl ?_
  refine q_alen dJ7_fill_53178_3 (kR48 hS0.1 ta0) (by decide) (by decide) (nR48 hS0.1 ta0) (by decide +kernel) ?_
  intro v3 h4
  refine tr_istore_n dJ7_fill_53178_4 (by decide) (by decide) ?_
  have lp16 : ∀ (fu : Nat) (ls : Nat → Option Value) (v5 : Int32) (I10 : cz_I), ls 0 = some (.ref a0) → ls 1 = some (.int x1) → ls 2 = some (.int v5) → ls 3 = some (.int v3) → St T cn K N d wik_J7_fill_53178_4 wrk_J7_fill_53178_4 I0 R0 I10 R0 → 0 ≤ v5.toInt → v5.toInt ≤ 8 → v3.toInt = 8 → ((∀ j : Nat, (j : Int) < v5.toInt → I10 a0 j = x1) ∧ ∀ a j, ¬ a = a0 → I10 a j = I0 a j) → (-v5.toInt + 2147483647).toNat < fu → Tr X mJ7_fill_53178 5 ls [] cn K N I10 R0 L0 0 0 := by
    intro fu
    induction fu with
    | zero => intros; rename_i hz; exact absurd hz (Nat.not_lt_zero _)
    | succ fu ih16 =>
      intro ls v5 I10 hl6 hl7 hl8 hl9 hS11 g12 g13 g14 rw15 hm16
      refine tr_iload_n dJ7_fill_53178_5 hl8 ?_
      refine tr_iload_n dJ7_fill_53178_6 hl9 ?_
      refine q_icmp_ge 20 dJ7_fill_53178_7 (by decide) (fun h18 => ?_) (fun h18 => ?_)
      · skip
        exact tr_vret hZ dJ7_fill_53178_20 rfl (by decide) (by decide) ⟨rfl, rfl, rfl, rfl, rfl, rfl, hS11, (fun j hj => rw15.1 j (by omega)), rw15.2, trivial⟩
      · skip
        refine tr_aload_n dJ7_fill_53178_10 hl6 ?_
        refine tr_iload_n dJ7_fill_53178_11 hl8 ?_
        refine tr_iload_n dJ7_fill_53178_12 hl7 ?_
        refine q_iast dJ7_fill_53178_13 (kR48 hS11.1 ta0) (ti_in (nR48 hS11.1 ta0) (by omega) (by omega)) hS11 ta0 (iokF rfl) rfl (by rfl) ?_
        intro I19 hS20 e22 f21
        refine q_iincE dJ7_fill_53178_14 hl8 (by decide) (by decide) (by intros; omega) ?_
        intro v23 h24
        refine tr_goto 5 dJ7_fill_53178_17 (by decide) ?_
        exact ih16 _ v23 I19 hl6 hl7 rfl hl9 hS20 (by omega) (by omega) (by omega) ⟨fun j hj => by by_cases z : (j : Int) < v5.toInt; exact (f21 _ _ (fun q => by have y := q.2; have y2 := ti_nat (i := v5) (by omega); omega)).trans (rw15.1 j z); have y2 := ti_nat (i := v5) (by omega); obtain rfl : j = v5.toNatClampNeg := (by omega); exact e22, fun a j ha => (f21 _ _ (fun q => ha q.1)).trans (rw15.2 a j ha)⟩ (by omega)
  exact lp16 _ _ v1 I0 rfl rfl rfl rfl hS0 (by omega) (by omega) (by omega) ⟨fun j hj => by exfalso; omega, fun _ _ _ => rfl⟩ (Nat.lt_succ_self _)
def wik_J7_fill_53178_5 : List Nat := [3199]
def wrk_J7_fill_53178_5 : List Nat := []
set_option maxHeartbeats 4000000 in
theorem fk_J7_fill_53178_5 {l : Launch} {T : Nat → Nat} {cn : Nat} {K N : Nat → Nat} {I0 : cz_I} {R0 : cz_R} {L0 : cz_L} {d : Int} (hW0 : Wf T cn K N I0 R0 d)  {a0 : Nat} (ta0 : T a0 = 49) {x1 : Int32} : ConE l mJ7_fill_53178 [.ref a0, .int x1] cn K N I0 R0 L0 (ca_v (fun cn' K' N' I' R' L' => cn = cn' ∧ K = K' ∧ N = N' ∧ R0 = R' ∧ L0 = L' ∧ St T cn K N d wik_J7_fill_53178_5 wrk_J7_fill_53178_5 I0 R0 I' R0 ∧ (∀ j : Nat, j < 5 → I' a0 j = x1) ∧ (∀ a j, ¬ a = a0 → I' a j = I0 a j) ∧ True)) := by
  refine ConE.of (by decide +kernel) rfl (Nat.le_of_ble_eq_true rfl) rfl (fun X hX hZ hE => ?_)
  subst hX
  have hS0 : St T cn K N d wik_J7_fill_53178_5 wrk_J7_fill_53178_5 I0 R0 I0 R0 := St.rf0 hW0
  refine q_iconst dJ7_fill_53178_0 (by decide) ?_
  intro v1 h2
  refine tr_istore_n dJ7_fill_53178_1 (by decide) (by decide) ?_
  refine tr_aload_n dJ7_fill_53178_2 rfl ?_
  refine q_alen dJ7_fill_53178_3 (kR49 hS0.1 ta0) (by decide) (by decide) (nR49 hS0.1 ta0) (by decide +kernel) ?_
  intro v3 h4
  refine tr_istore_n dJ7_fill_53178_4 (by decide) (by decide) ?_
  have lp16 : ∀ (fu : Nat) (ls : Nat → Option Value) (v5 : Int32) (I10 : cz_I), ls 0 = some (.ref a0) → ls 1 = some (.int x1) → ls 2 = some (.int v5) → ls 3 = some (.int v3) → St T cn K N d wik_J7_fill_53178_5 wrk_J7_fill_53178_5 I0 R0 I10 R0 → 0 ≤ v5.toInt → v5.toInt ≤ 5 → v3.toInt = 5 → ((∀ j : Nat, (j : Int) < v5.toInt → I10 a0 j = x1) ∧ ∀ a j, ¬ a = a0 → I10 a j = I0 a j) → (-v5.toInt + 2147483647).toNat < fu → Tr X mJ7_fill_53178 5 ls [] cn K N I10 R0 L0 0 0 := by
    intro fu
    induction fu with
    | zero => intros; rename_i hz; exact absurd hz (Nat.not_lt_zero _)
    | succ fu ih16 =>
      intro ls v5 I10 hl6 hl7 hl8 hl9 hS11 g12 g13 g14 rw15 hm16
      refine tr_iload_n dJ7_fill_53178_5 hl8 ?_
      refine tr_iload_n dJ7_fill_53178_6 hl9 ?_
      refine q_icmp_ge 20 dJ7_fill_53178_7 (by decide) (fun h18 => ?_) (fun h18 => ?_)
      · skip
        exact tr_vret hZ dJ7_fill_53178_20 rfl (by decide) (by decide) ⟨rfl, rfl, rfl, rfl, rfl, rfl, hS11, (fun j hj => rw15.1 j (by omega)), rw15.2, trivial⟩
      · skip
        refine tr_aload_n dJ7_fill_53178_10 hl6 ?_
        refine tr_iload_n dJ7_fill_53178_11 hl8 ?_
        refine tr_iload_n dJ7_fill_53178_12 hl7 ?_
        refine q_iast dJ7_fill_53178_13 (kR49 hS11.1 ta0) (ti_in (nR49 hS11.1 ta0) (by omega) (by omega)) hS11 ta0 (iokF rfl) rfl (by rfl) ?_
        intro I19 hS20 e22 f21
        refine q_iincE dJ7_fill_53178_14 hl8 (by decide) (by decide) (by intros; omega) ?_
        intro v23 h24
        refine tr_goto 5 dJ7_fill_53178_17 (by decide) ?_
        exact ih16 _ v23 I19 hl6 hl7 rfl hl9 hS20 (by omega) (by omega) (by omega) ⟨fun j hj => by by_cases z : (j : Int) < v5.toInt; exact (f21 _ _ (fun q => by have y := q.2; have y2 := ti_nat (i := v5) (by omega); omega)).trans (rw15.1 j z); have y2 := ti_nat (i := v5) (by omega); obtain rfl : j = v5.toNatClampNeg := (by omega); exact e22, fun a j ha => (f21 _ _ (fun q => ha q.1)).trans (rw15.2 a j ha)⟩ (by omega)
  exact lp16 _ _ v1 I0 rfl rfl rfl rfl hS0 (by omega) (by omega) (by omega) ⟨fun j hj => by exfalso; omega, fun _ _ _ => rfl⟩ (Nat.lt_succ_self _)
