set_option maxHeartbeats 4000000 in
theorem fk_J6_bitCount_0f7a4 {l : Launch} {T : Nat → Nat} {cn : Nat} {K N : Nat → Nat} {I0 : cz_I} {R0 : cz_R} {L0 : cz_L} {d : Int} (hW0 : Wf T cn K N I0 R0 d)  {x0 : Int32} (hx0 : 0 ≤ x0.toInt ∧ x0.toInt ≤ 63) : ConE l mJ6_bitCount_0f7a4 [.int x0] cn K N I0 R0 L0 (ca_i (fun v cn' K' N' I' R' L' => cn = cn' ∧ K = K' ∧ N = N' ∧ I0 = I' ∧ R0 = R' ∧ L0 = L' ∧ (v.toInt = pcI x0.toInt) ∧ True)) := by
  refine ConE.of (by decide +kernel) rfl (Nat.le_of_ble_eq_true rfl) rfl (fun X hX hZ hE => ?_)
  subst hX
  refine tr_iload_n dJ6_bitCount_0f7a4_0 rfl ?_
  refine tr_iload_n dJ6_bitCount_0f7a4_1 rfl ?_
  refine q_iconst dJ6_bitCount_0f7a4_2 (by decide) ?_
  intro v1 h2
  refine tr_iushr dJ6_bitCount_0f7a4_3 ?_
  obtain ⟨v3, lx4⟩ : ∃ z, z = (x0.toUInt32 >>> (v1.toUInt32 &&& Int32.toUInt32 31)).toInt32 := ⟨_, rfl⟩
  rw [← lx4]
  refine q_ldcw 1431655765 dJ6_bitCount_0f7a4_4 ld14_265 (by decide +kernel) ?_
  intro v5 h6
  refine tr_iand dJ6_bitCount_0f7a4_7 ?_
  obtain ⟨v7, lx8⟩ : ∃ z, z = v3 &&& v5 := ⟨_, rfl⟩
  rw [← lx8]
  refine tr_isub dJ6_bitCount_0f7a4_8 ?_
  obtain ⟨v9, lx10⟩ : ∃ z, z = x0 - v7 := ⟨_, rfl⟩
  rw [← lx10]
  refine tr_istore_n dJ6_bitCount_0f7a4_9 (by decide) (by decide) ?_
  refine tr_iload_n dJ6_bitCount_0f7a4_10 rfl ?_
  refine q_ldcw 858993459 dJ6_bitCount_0f7a4_11 ld14_266 (by decide +kernel) ?_
  intro v11 h12
  refine tr_iand dJ6_bitCount_0f7a4_14 ?_
  obtain ⟨v13, lx14⟩ : ∃ z, z = v9 &&& v11 := ⟨_, rfl⟩
  rw [← lx14]
  refine tr_iload_n dJ6_bitCount_0f7a4_15 rfl ?_
  refine q_iconst dJ6_bitCount_0f7a4_16 (by decide) ?_
  intro v15 h16
  refine tr_iushr dJ6_bitCount_0f7a4_17 ?_
  obtain ⟨v17, lx18⟩ : ∃ z, z = (v9.toUInt32 >>> (v15.toUInt32 &&& Int32.toUInt32 31)).toInt32 := ⟨_, rfl⟩
  rw [← lx18]
  refine q_ldcw 858993459 dJ6_bitCount_0f7a4_18 ld14_266 (by decide +kernel) ?_
  intro v19 h20
  refine tr_iand dJ6_bitCount_0f7a4_21 ?_
  obtain ⟨v21, lx22⟩ : ∃ z, z = v17 &&& v19 := ⟨_, rfl⟩
  rw [← lx22]
  refine tr_iadd dJ6_bitCount_0f7a4_22 ?_
  obtain ⟨v23, lx24⟩ : ∃ z, z = v13 + v21 := ⟨_, rfl⟩
  rw [← lx24]
  refine tr_istore_n dJ6_bitCount_0f7a4_23 (by decide) (by decide) ?_
  refine tr_iload_n dJ6_bitCount_0f7a4_24 rfl ?_
  refine tr_iload_n dJ6_bitCount_0f7a4_25 rfl ?_
  refine q_iconst dJ6_bitCount_0f7a4_26 (by decide) ?_
  intro v25 h26
  refine tr_iushr dJ6_bitCount_0f7a4_27 ?_
  obtain ⟨v27, lx28⟩ : ∃ z, z = (v23.toUInt32 >>> (v25.toUInt32 &&& Int32.toUInt32 31)).toInt32 := ⟨_, rfl⟩
  rw [← lx28]
  refine tr_iadd dJ6_bitCount_0f7a4_28 ?_
  obtain ⟨v29, lx30⟩ : ∃ z, z = v23 + v27 := ⟨_, rfl⟩
  rw [← lx30]
  refine q_ldcw 252645135 dJ6_bitCount_0f7a4_29 ld14_267 (by decide +kernel) ?_
  intro v31 h32
  refine tr_iand dJ6_bitCount_0f7a4_32 ?_
  obtain ⟨v33, lx34⟩ : ∃ z, z = v29 &&& v31 := ⟨_, rfl⟩
  rw [← lx34]
  refine tr_istore_n dJ6_bitCount_0f7a4_33 (by decide) (by decide) ?_
  refine tr_iload_n dJ6_bitCount_0f7a4_34 rfl ?_
  refine tr_iload_n dJ6_bitCount_0f7a4_35 rfl ?_
  refine q_bipush dJ6_bitCount_0f7a4_36 (by decide +kernel) ?_
  intro v35 h36
  refine tr_iushr dJ6_bitCount_0f7a4_38 ?_
  obtain ⟨v37, lx38⟩ : ∃ z, z = (v33.toUInt32 >>> (v35.toUInt32 &&& Int32.toUInt32 31)).toInt32 := ⟨_, rfl⟩
  rw [← lx38]
  refine tr_iadd dJ6_bitCount_0f7a4_39 ?_
  obtain ⟨v39, lx40⟩ : ∃ z, z = v33 + v37 := ⟨_, rfl⟩
  rw [← lx40]
  refine tr_istore_n dJ6_bitCount_0f7a4_40 (by decide) (by decide) ?_
  refine tr_iload_n dJ6_bitCount_0f7a4_41 rfl ?_
  refine tr_iload_n dJ6_bitCount_0f7a4_42 rfl ?_
  refine q_bipush dJ6_bitCount_0f7a4_43 (by decide +kernel) ?_
  intro v41 h42
  refine tr_iushr dJ6_bitCount_0f7a4_45 ?_
  obtain ⟨v43, lx44⟩ : ∃ z, z = (v39.toUInt32 >>> (v41.toUInt32 &&& Int32.toUInt32 31)).toInt32 := ⟨_, rfl⟩
  rw [← lx44]
  refine tr_iadd dJ6_bitCount_0f7a4_46 ?_
  obtain ⟨v45, lx46⟩ : ∃ z, z = v39 + v43 := ⟨_, rfl⟩
  rw [← lx46]
  refine tr_istore_n dJ6_bitCount_0f7a4_47 (by decide) (by decide) ?_
  refine tr_iload_n dJ6_bitCount_0f7a4_48 rfl ?_
  refine q_bipush dJ6_bitCount_0f7a4_49 (by decide +kernel) ?_
  intro v47 h48
  refine tr_iand dJ6_bitCount_0f7a4_51 ?_
  obtain ⟨v49, lx50⟩ : ∃ z, z = v45 &&& v47 := ⟨_, rfl⟩
  rw [← lx50]
  exact tr_iret hZ dJ6_bitCount_0f7a4_52 rfl (by decide) (by decide) ⟨v49, rfl, rfl, rfl, rfl, rfl, rfl, rfl, (by have kv1 : v1 = (1 : Int32) := Int32.toInt_inj.mp ((show v1.toInt = 1 by omega).trans rfl); have kv5 : v5 = (1431655765 : Int32) := Int32.toInt_inj.mp ((show v5.toInt = 1431655765 by omega).trans rfl); have kv11 : v11 = (858993459 : Int32) := Int32.toInt_inj.mp ((show v11.toInt = 858993459 by omega).trans rfl); have kv15 : v15 = (2 : Int32) := Int32.toInt_inj.mp ((show v15.toInt = 2 by omega).trans rfl); have kv19 : v19 = (858993459 : Int32) := Int32.toInt_inj.mp ((show v19.toInt = 858993459 by omega).trans rfl); have kv25 : v25 = (4 : Int32) := Int32.toInt_inj.mp ((show v25.toInt = 4 by omega).trans rfl); have kv31 : v31 = (252645135 : Int32) := Int32.toInt_inj.mp ((show v31.toInt = 252645135 by omega).trans rfl); have kv35 : v35 = (8 : Int32) := Int32.toInt_inj.mp ((show v35.toInt = 8 by omega).trans rfl); have kv41 : v41 = (16 : Int32) := Int32.toInt_inj.mp ((show v41.toInt = 16 by omega).trans rfl); have kv47 : v47 = (63 : Int32) := Int32.toInt_inj.mp ((show v47.toInt = 63 by omega).trans rfl); rw [lx50, lx46, lx44, lx40, lx38, lx34, lx30, lx28, lx24, lx22, lx18, lx14, lx10, lx8, lx4, kv1, kv5, kv11, kv15, kv19, kv25, kv31, kv35, kv41, kv47]; exact bc_X (by omega)), trivial⟩
def wik_X10_bestCalls : List Nat := [73, 768, 769, 778, 834, 2303, 2367, 2431, 2495, 2559, 2623, 2687, 2751, 2815, 2879, 2943, 3007, 3071, 3135, 3199, 3263, 3327, 3391]
def wrk_X10_bestCalls : List Nat := [832, 833]
def Cs_X10_bestCalls (T : Nat → Nat) (I0 : cz_I) (R0 : cz_R) (a0 : Nat) (gX : Nat → Nat → Int) (gE : Nat → Nat → Int) (gc : Nat → Int) (v : Int32) (I' : cz_I) (R' : cz_R) : Prop :=
  ((0 ≤ v.toInt) ∧ (v.toInt ≤ 63) ∧ (∀ al nw, R0 a0 2 = some al → R0 a0 6 = some nw → v.toInt = (bsP (wkF gX gE gc ((I0 al 3).toInt.toNat + (I0 nw 2).toInt.toNat)) (pw (gc 5)).toNat).1) ∧ True)
set_option maxHeartbeats 4000000 in
theorem fk_X10_bestCalls {l : Launch} {T : Nat → Nat} {cn : Nat} {K N : Nat → Nat} {I0 : cz_I} {R0 : cz_R} {L0 : cz_L} {d : Int} (hW0 : Wf T cn K N I0 R0 d) (gX : Nat → Nat → Int) (gE : Nat → Nat → Int) (gc : Nat → Int) {a0 : Nat} (ta0 : T a0 = 1) (hX : EvQ I0 R0 a0 gX) (hK : SkQ I0 R0 a0 gX) (hD : DjS R0 a0) (hEa : ∀ al, R0 a0 2 = some al → CVa I0 R0 al gc gE) (hGd : GdE gc gE) (hMs : ∀ nw, R0 a0 6 = some nw → 0 ≤ (I0 nw 0).toInt ∧ (I0 nw 0).toInt ≤ 63) (hNg : NgQ I0 R0 a0 gX gE gc) (hDn : DjN R0 a0) (h1 : 1 ≤ gc 0 ∨ ∀ i, gc i = 0) : ConE l mX10_bestCalls [.ref a0] cn K N I0 R0 L0 (ca_i (fun v cn' K' N' I' R' L' => cn = cn' ∧ K = K' ∧ N = N' ∧ L0 = L' ∧ St T cn K N d wik_X10_bestCalls wrk_X10_bestCalls I0 R0 I' R' ∧ (0 ≤ v.toInt ∧ v.toInt ≤ 63) ∧ (((I0 a0 9).toInt = 1 → (I' a0 9).toInt = 1)) ∧ (SkQ I' R0 a0 gX) ∧ (NgQ I' R' a0 gX gE gc) ∧ Cs_X10_bestCalls T I0 R0 a0 gX gE gc v I' R' ∧ True)) := by
  refine ConE.of (by decide +kernel) rfl (Nat.le_of_ble_eq_true rfl) rfl (fun X hX hZ hE => ?_)
  subst hX
  have hS0 : St T cn K N d wik_X10_bestCalls wrk_X10_bestCalls I0 R0 I0 R0 := St.rf0 hW0
  obtain ⟨v1, c2⟩ : ∃ v, I0 a0 9 = v := ⟨_, rfl⟩
  have b3 := iv1_9 hS0.1 ta0 c2
  obtain ⟨a4, d5, ta4⟩ := rf1_2 hW0 ta0
  obtain ⟨a6, d7, ta6⟩ := rf1_6 hW0 ta0
  obtain ⟨a8, d9, ta8⟩ := rf1_8 hW0 ta0
  obtain ⟨a10, d11, ta10⟩ := rf1_10 hW0 ta0
  obtain ⟨a12, d13, ta12⟩ := rf1_13 hW0 ta0
  obtain ⟨a14, d15, ta14⟩ := rf1_14 hW0 ta0
  obtain ⟨v16, c17⟩ : ∃ v, I0 a4 0 = v := ⟨_, rfl⟩
  have b18 := iv2_0 hW0 ta4 c17
  obtain ⟨v19, c20⟩ : ∃ v, I0 a4 1 = v := ⟨_, rfl⟩
  have b21 := iv2_1 hW0 ta4 c20
  obtain ⟨v22, c23⟩ : ∃ v, I0 a4 3 = v := ⟨_, rfl⟩
  have b24 := iv2_3 hW0 ta4 c23
  obtain ⟨v25, c26⟩ : ∃ v, I0 a4 5 = v := ⟨_, rfl⟩
  have b27 := iv2_5 hW0 ta4 c26
  obtain ⟨v28, c29⟩ : ∃ v, I0 a4 9 = v := ⟨_, rfl⟩
  have b30 := iv2_9 hW0 ta4 c29
  obtain ⟨v31, c32⟩ : ∃ v, I0 a4 11 = v := ⟨_, rfl⟩
  have b33 := iv2_11 hW0 ta4 c32
  obtain ⟨v34, c35⟩ : ∃ v, I0 a6 0 = v := ⟨_, rfl⟩
  obtain ⟨v36, c37⟩ : ∃ v, I0 a6 2 = v := ⟨_, rfl⟩
  have b38 := iv8_2 hW0 ta6 c37
  have hc39 := (hEa _ d5).ct
  rw [c17, c20, c26, c29, c32] at hc39
  have hc39m := hMs _ d7
  have hc39g := hGd.own hc39m gX (-1) ((I0 a4 3).toInt.toNat + (I0 a6 2).toInt.toNat)
  rw [c35] at hc39m
  have hc39z0 : nzc ((NgZ I0 a4 a6 gX gE gc)) 0 = gc 0 := rfl
  have hc39z1 : nzc ((NgZ I0 a4 a6 gX gE gc)) 1 = gc 1 := rfl
  have hc39z3 : nzc ((NgZ I0 a4 a6 gX gE gc)) 3 = gc 3 := rfl
  have hc39z4 : nzc ((NgZ I0 a4 a6 gX gE gc)) 4 = gc 4 := rfl
  have hc39z5 : nzc ((NgZ I0 a4 a6 gX gE gc)) 5 = gc 5 := rfl
  have hpc := pw_c (c := gc 5) (by omega) (by omega)
  refine q_iconst dX10_bestCalls_0 (by decide) ?_
  intro v40 h41
  refine tr_istore_n dX10_bestCalls_1 (by decide) (by decide) ?_
  refine q_ldcw (-100000) dX10_bestCalls_2 ld10_356 (by decide +kernel) ?_
  intro v42 h43
  refine tr_istore_n dX10_bestCalls_5 (by decide) (by decide) ?_
  refine q_iconst dX10_bestCalls_6 (by decide) ?_
  intro v44 h45
  refine tr_istore_n dX10_bestCalls_7 (by decide) (by decide) ?_
  have lp68 : ∀ (fu : Nat) (ls : Nat → Option Value) (v46 : Int32) (v47 : Int32) (v48 : Int32) (I53 : cz_I) (R54 : cz_R) (v56 : Int32), ls 0 = some (.ref a0) → ls 1 = some (.int v46) → ls 2 = some (.int v47) → ls 3 = some (.int v48) → St T cn K N d wik_X10_bestCalls wrk_X10_bestCalls I0 R0 I53 R54 → I53 a0 9 = v56 → (v1.toInt = 1 → v56.toInt = 1) → 0 ≤ v48.toInt → v48.toInt ≤ 64 → v48.toInt ≤ (pw (gc 5)) → 0 ≤ v46.toInt → v46.toInt ≤ 63 → v46.toInt ≤ v48.toInt → (v46.toInt = (bsP (wkF gX gE gc ((I0 a4 3).toInt.toNat + (I0 a6 2).toInt.toNat)) v48.toInt.toNat).1 ∧ v47.toInt = (bsP (wkF gX gE gc ((I0 a4 3).toInt.toNat + (I0 a6 2).toInt.toNat)) v48.toInt.toNat).2) → (SkQ I53 R0 a0 gX) → (NgQ I53 R54 a0 gX gE gc) → (-v48.toInt + 2147483647).toNat < fu → Tr X mX10_bestCalls 8 ls [] cn K N I53 R54 L0 0 0 := by
    intro fu
    induction fu with
    | zero => intros; rename_i hz; exact absurd hz (Nat.not_lt_zero _)
    | succ fu ih68 =>
      intro ls v46 v47 v48 I53 R54 v56 hl49 hl50 hl51 hl52 hS55 c57 g58 g59 g60 g61 g62 g63 g64 rw65 rw66 rw67 hm68
      have b70 := iv1_9 hS55.1 ta0 c57
      refine tr_iload_n dX10_bestCalls_8 hl52 ?_
      refine tr_aload_n dX10_bestCalls_9 hl49 ?_
      refine q_callVi hE (M' := mX10_allCalls) (as := []) dX10_bestCalls_10 lk10_263 inX10_allCalls seX10_allCalls myX10_allCalls (by decide) ⟨by decide, by decide⟩ rfl (kR1 hS55.1 ta0) (Nat.le_of_ble_eq_true rfl) rfl rfl (by decide) (by decide) (fk_X10_allCalls hS55.1  ta0) ?_
      rintro v76 cn' K' N' I71 R72 L73 ⟨rfl, rfl, rfl, rfl, rfl, rfl, rp77, -⟩
      have ht78 := rp77 _ ((hS55.rcell ta0 (by decide +kernel)).trans d5)
      rw [((hS55.cell ta4 (by decide +kernel)).trans c32)] at ht78
      have ht78b := pw_c (c := v31.toInt) (by omega) (by omega)
      rw [show v31.toInt = gc 5 by omega] at ht78 ht78b
      refine q_icmp_gt 91 dX10_bestCalls_13 (by decide) (fun h79 => ?_) (fun h79 => ?_)
      · skip
        refine tr_iload_n dX10_bestCalls_91 hl50 ?_
        exact tr_iret hZ dX10_bestCalls_92 rfl (by decide) (by decide) ⟨v46, rfl, rfl, rfl, rfl, rfl, hS55, (by omega), (by (try rw [c2]); (try rw [c57]); first | done | with_reducible assumption | omega), rw66, rw67, (⟨(by first | done | with_reducible assumption | omega), (by first | done | with_reducible assumption | omega), (fun al nw h2 h6 => by obtain rfl := Option.some.inj (d5.symm.trans h2); obtain rfl := Option.some.inj (d7.symm.trans h6); have e := rw65.1; rw [show (pw (gc 5)).toNat = v48.toInt.toNat from congrArg Int.toNat (by omega)]; omega), trivial⟩), trivial⟩
      · skip
        refine tr_aload_n dX10_bestCalls_16 hl49 ?_
        refine tr_getR dX10_bestCalls_17 fl10_68 (kR1 hS55.1 ta0) ((hS55.rcell ta0 (by decide +kernel)).trans d15) ?_
        refine tr_aload_n dX10_bestCalls_20 hl49 ?_
        refine tr_getR dX10_bestCalls_21 fl10_16 (kR1 hS55.1 ta0) ((hS55.rcell ta0 (by decide +kernel)).trans d5) ?_
        refine tr_aload_n dX10_bestCalls_24 hl49 ?_
        refine q_callVr hE (M' := mX10_presentSky) (as := []) dX10_bestCalls_25 lk10_119 inX10_presentSky seX10_presentSky myX10_presentSky (by decide) ⟨by decide, by decide⟩ rfl (kR1 hS55.1 ta0) (Nat.le_of_ble_eq_true rfl) rfl rfl (by decide) (by decide) (fk_X10_presentSky hS55.1 (gX) (gE) (gc) ta0 (EvQ.rc (EvQ.st hX hW0 ta0 hS55 (by decide +kernel)) hW0 ta0 (R13 hS55 (by decide +kernel))) (SkQ.rc rw66 hW0 ta0 (R13 hS55 (by decide +kernel))) (DjS.rc hD hW0 ta0 (R13 hS55 (by decide +kernel))) (fun al ha => by have h0 := (R13 hS55 (by decide +kernel) a0 2 (by rw [ta0]; decide)).symm.trans ha; exact (hEa al h0).gs hW0 (hW0.rs ta0 rfl rfl h0) hS55 (by decide +kernel) (by decide +kernel)) hGd (fun nw hn => by have h0 := (R13 hS55 (by decide +kernel) a0 6 (by rw [ta0]; decide)).symm.trans hn; rw [hS55.cell (hW0.rs ta0 rfl rfl h0 : T nw = 8) (by decide +kernel)]; exact hMs nw h0) rw67 (DjN.st hDn hW0 ta0 hS55 (by decide +kernel) (by decide +kernel)) h1) ?_
        rintro a85 cn' K' N' I80 R81 L82 ⟨rfl, rfl, rfl, rfl, rfl, g83, ta85, p86, rp87, rp88, rp89, rp90, rp91, -⟩
        have hS92 := hS55.tr g83 (by decide +kernel) (by decide +kernel)
        obtain ⟨v93, c94⟩ : ∃ v, I80 a0 9 = v := ⟨_, rfl⟩
        have b95 := iv1_9 hS92.1 ta0 c94
        rw [c94] at p86
        refine tr_iload_n dX10_bestCalls_28 hl52 ?_
        refine tr_aload_n dX10_bestCalls_29 hl49 ?_
        refine q_callVi hE (M' := mX10_allTurners) (as := []) dX10_bestCalls_30 lk10_184 inX10_allTurners seX10_allTurners myX10_allTurners (by decide) ⟨by decide, by decide⟩ rfl (kR1 hS92.1 ta0) (Nat.le_of_ble_eq_true rfl) rfl rfl (by decide) (by decide) (fk_X10_allTurners hS92.1  ta0) ?_
        rintro v101 cn' K' N' I96 R97 L98 ⟨rfl, rfl, rfl, rfl, rfl, rfl, rp102, -⟩
        have ht103 := rp102 _ ((hS92.rcell ta0 (by decide +kernel)).trans d5)
        rw [((hS92.cell ta4 (by decide +kernel)).trans c29)] at ht103
        have ht103b := pw_all (c := v28.toInt) (by omega) (by omega)
        obtain rfl : a8 = a85 := Option.some.inj (((hS55.rcell ta0 (by decide +kernel)).trans d9).symm.trans rp87)
        have hz104m : nzM (mkZ gX (-1) ((I0 a4 3).toInt.toNat + (I0 a6 2).toInt.toNat) gE gc v48.toInt v101.toInt) = v48.toInt := rfl
        have hz104w : nzW (mkZ gX (-1) ((I0 a4 3).toInt.toNat + (I0 a6 2).toInt.toNat) gE gc v48.toInt v101.toInt) = v101.toInt := rfl
        have kw105k : SkW I80 R54 a0 gX := (SkQ.rc (SkQ.of (SkW.rc rp88 hS55.1 ta0 (fun a j q => (R13 hS55 (by decide +kernel) a j q).symm))) hW0 ta0 (R13 hS92 (by decide +kernel))) (by rw [c94]; omega)
        have kw105t : StW I80 R54 a0 gX gE gc := rp91.1 (by rw [c94]; omega)
        have kw105 : SkZ I80 R54 a8 (mkZ gX (-1) ((I80 a4 3).toInt.toNat + (I80 a6 2).toInt.toNat) gE gc v48.toInt v101.toInt) := SkZ.cl (SkZ.own kw105k kw105t ((hS92.rcell ta0 (by decide +kernel)).trans d9) ((hS92.rcell ta0 (by decide +kernel)).trans d5) ((hS92.rcell ta0 (by decide +kernel)).trans d7) ((hEa _ d5).gs hW0 ta4 hS92 (by decide +kernel) (by decide +kernel)) hGd)
        rw [hS92.cell ta4 (by decide +kernel), hS92.cell ta6 (by decide +kernel)] at kw105
        refine q_callVv hE (M' := mX5_play) (as := [_, _, _, _]) dX10_bestCalls_33 lk10_188 inX5_play seX5_play myX5_play (by decide) ⟨by decide, by decide⟩ rfl (kR13 hS92.1 ta14) (Nat.le_of_ble_eq_true rfl) rfl rfl (by decide) (by decide) (fk_X5_play hS92.1 ((mkZ gX (-1) ((I0 a4 3).toInt.toNat + (I0 a6 2).toInt.toNat) gE gc v48.toInt v101.toInt)) ta14 ta4 ta8 (by omega) (by omega) ((hEa _ d5).gs hW0 ta4 hS92 (by decide +kernel) (by decide +kernel)) kw105 (hGd _ _ _ _ _ (by omega) (by omega)) (by first | done | with_reducible assumption | omega) (by first | done | with_reducible assumption | omega)) ?_
        rintro cn' K' N' I106 R107 L108 ⟨rfl, rfl, rfl, rfl, g109, rp112, rp113, rp114, rp115, rp116, rp117, -⟩
        have hS118 := hS92.tr g109 (by decide +kernel) (by decide +kernel)
        have c119 : I106 a0 9 = v93 := (g109.cell ta0 (by decide +kernel)).trans c94
        have hp120P : NgP I106 R107 a14 (mkZ gX (-1) ((I0 a4 3).toInt.toNat + (I0 a6 2).toInt.toNat) gE gc v48.toInt v101.toInt) := NgP.mk ((hEa _ d5).gs hW0 ta4 hS92 (by decide +kernel) (by decide +kernel)) kw105 g109 hS92.1 ta14 ta4 ta8 rp112 rp113 (congrArg Int32.toInt rp114) (by decide +kernel) (by decide +kernel)
        have hp120R : NgR I106 R107 a14 (mkZ gX (-1) ((I0 a4 3).toInt.toNat + (I0 a6 2).toInt.toNat) gE gc v48.toInt v101.toInt) (gc 0).toNat := rp115.rc (fun k k1 k2 => R13w g109 (by decide +kernel) ta14 k1 k2)
        have hp120G : GdN (mkZ gX (-1) ((I0 a4 3).toInt.toNat + (I0 a6 2).toInt.toNat) gE gc v48.toInt v101.toInt) := hGd _ _ _ _ _ (by omega) (by omega)
        refine tr_aload_n dX10_bestCalls_36 hl49 ?_
        refine tr_getR dX10_bestCalls_37 fl10_68 (kR1 hS118.1 ta0) ((hS118.rcell ta0 (by decide +kernel)).trans d15) ?_
        refine q_callVi hE (M' := mX5_sum) (as := []) dX10_bestCalls_40 lk10_192 inX5_sum seX5_sum myX5_sum (by decide) ⟨by decide, by decide⟩ rfl (kR13 hS118.1 ta14) (Nat.le_of_ble_eq_true rfl) rfl rfl (by decide) (by decide) (fk_X5_sum hS118.1 ((mkZ gX (-1) ((I0 a4 3).toInt.toNat + (I0 a6 2).toInt.toNat) gE gc v48.toInt v101.toInt)) ta14 hp120P hp120G hp120R h1) ?_
        rintro v126 cn' K' N' I121 R122 L123 ⟨rfl, rfl, rfl, rfl, rfl, rfl, h127, rp128, -⟩
        refine tr_istore dX10_bestCalls_43 (by decide) (by decide) ?_
        refine tr_iload_n dX10_bestCalls_45 hl52 ?_
        refine q_callSi hE (M' := mJ6_bitCount_0f7a4) (as := [_]) dX10_bestCalls_46 lk10_247 inJ6_bitCount_0f7a4 myJ6_bitCount_0f7a4 ⟨by decide, by decide⟩ rfl (Nat.le_of_ble_eq_true rfl) rfl rfl (by decide) (by decide) (fk_J6_bitCount_0f7a4 hS118.1  (by omega)) ?_
        rintro v134 cn' K' N' I129 R130 L131 ⟨rfl, rfl, rfl, rfl, rfl, rfl, rp135, -⟩
        have pcv134 := pcI_b (x := v48.toInt)
        rw [← rp135] at pcv134
        refine tr_iload_n dX10_bestCalls_49 hl50 ?_
        refine q_callSi hE (M' := mJ6_bitCount_0f7a4) (as := [_]) dX10_bestCalls_50 lk10_247 inJ6_bitCount_0f7a4 myJ6_bitCount_0f7a4 ⟨by decide, by decide⟩ rfl (Nat.le_of_ble_eq_true rfl) rfl rfl (by decide) (by decide) (fk_J6_bitCount_0f7a4 hS118.1  (by omega)) ?_
        rintro v141 cn' K' N' I136 R137 L138 ⟨rfl, rfl, rfl, rfl, rfl, rfl, rp142, -⟩
        have pcv141 := pcI_b (x := v46.toInt)
        rw [← rp142] at pcv141
        refine q_icmp_ge 60 dX10_bestCalls_53 (by decide) (fun h143 => ?_) (fun h143 => ?_)
        · skip
          refine q_iconst dX10_bestCalls_60 (by decide) ?_
          intro v144 h145
          refine tr_istore dX10_bestCalls_61 (by decide) (by decide) ?_
          refine tr_iload dX10_bestCalls_63 rfl ?_
          refine tr_iload_n dX10_bestCalls_65 hl51 ?_
          refine q_icmp_gt 80 dX10_bestCalls_66 (by decide) (fun h146 => ?_) (fun h146 => ?_)
          · skip
            refine tr_iload dX10_bestCalls_80 rfl ?_
            refine tr_istore_n dX10_bestCalls_82 (by decide) (by decide) ?_
            refine tr_iload_n dX10_bestCalls_83 hl52 ?_
            refine tr_istore_n dX10_bestCalls_84 (by decide) (by decide) ?_
            refine q_iincE dX10_bestCalls_85 hl52 (by decide) (by decide) (by intros; omega) ?_
            intro v147 h148
            refine tr_goto 8 dX10_bestCalls_88 (by decide) ?_
            exact ih68 _ v48 v126 v147 I106 R107 v93 hl49 rfl rfl rfl hS118 c119 (by omega) (by omega) (by omega) (by omega) (by omega) (by omega) (by omega) (by have e : v126.toInt = (wkF gX gE gc ((I0 a4 3).toInt.toNat + (I0 a6 2).toInt.toNat)) v48.toInt.toNat := (by show _ = toZ (mkZ gX (-1) ((I0 a4 3).toInt.toNat + (I0 a6 2).toInt.toNat) gE gc ((v48.toInt.toNat : Nat) : Int) (pw (gc 4) - 1)); rw [show ((v48.toInt.toNat : Nat) : Int) = v48.toInt by omega, ← hc39.2.2.2.1, ← ht103]; exact rp128); rw [show v147.toInt.toNat = v48.toInt.toNat + 1 by omega]; exact bsP.up rw65.1 rw65.2 e (by rw [show ((v48.toInt.toNat : Nat) : Int) = v48.toInt by omega]; have p1 := rp135; have p2 := rp142; omega) (by omega) (by omega)) (SkQ.st (SkQ.of (SkW.rc rp88 hS55.1 ta0 (fun a j q => (R13 hS55 (by decide +kernel) a j q).symm))) hW0 ta0 g109 (by decide +kernel) (by decide +kernel)) (NgQ.fn rp91 hS55.1 ta0 g109 (DjN.st hDn hW0 ta0 hS92 (by decide +kernel) (by decide +kernel)) ((R13 hS92 (by decide +kernel) a0 14 (by rw [ta0]; decide)).trans d15) rp116 rp117 (by decide +kernel) (by decide +kernel) (by decide +kernel)) (by omega)
          · skip
            refine tr_iload dX10_bestCalls_69 rfl ?_
            refine tr_iload_n dX10_bestCalls_71 hl51 ?_
            refine q_icmp_ne 85 dX10_bestCalls_72 (by decide) (fun h149 => ?_) (fun h149 => ?_)
            · skip
              refine q_iincE dX10_bestCalls_85 hl52 (by decide) (by decide) (by intros; omega) ?_
              intro v150 h151
              refine tr_goto 8 dX10_bestCalls_88 (by decide) ?_
              exact ih68 _ v46 v47 v150 I106 R107 v93 hl49 hl50 hl51 rfl hS118 c119 (by omega) (by omega) (by omega) (by omega) (by omega) (by omega) (by omega) (by have e : v126.toInt = (wkF gX gE gc ((I0 a4 3).toInt.toNat + (I0 a6 2).toInt.toNat)) v48.toInt.toNat := (by show _ = toZ (mkZ gX (-1) ((I0 a4 3).toInt.toNat + (I0 a6 2).toInt.toNat) gE gc ((v48.toInt.toNat : Nat) : Int) (pw (gc 4) - 1)); rw [show ((v48.toInt.toNat : Nat) : Int) = v48.toInt by omega, ← hc39.2.2.2.1, ← ht103]; exact rp128); rw [show v150.toInt.toNat = v48.toInt.toNat + 1 by omega]; exact bsP.no rw65.1 rw65.2 e (by rw [show ((v48.toInt.toNat : Nat) : Int) = v48.toInt by omega]; have p1 := rp135; have p2 := rp142; omega) (by omega) (by omega)) (SkQ.st (SkQ.of (SkW.rc rp88 hS55.1 ta0 (fun a j q => (R13 hS55 (by decide +kernel) a j q).symm))) hW0 ta0 g109 (by decide +kernel) (by decide +kernel)) (NgQ.fn rp91 hS55.1 ta0 g109 (DjN.st hDn hW0 ta0 hS92 (by decide +kernel) (by decide +kernel)) ((R13 hS92 (by decide +kernel) a0 14 (by rw [ta0]; decide)).trans d15) rp116 rp117 (by decide +kernel) (by decide +kernel) (by decide +kernel)) (by omega)
            · skip
              refine tr_iload dX10_bestCalls_75 rfl ?_
              refine q_if_eq 85 dX10_bestCalls_77 (by decide) (fun h152 => ?_) (fun h152 => ?_)
              · skip
                refine q_iincE dX10_bestCalls_85 hl52 (by decide) (by decide) (by intros; omega) ?_
                intro v153 h154
                refine tr_goto 8 dX10_bestCalls_88 (by decide) ?_
                exact ih68 _ v46 v47 v153 I106 R107 v93 hl49 hl50 hl51 rfl hS118 c119 (by omega) (by omega) (by omega) (by omega) (by omega) (by omega) (by omega) (by have e : v126.toInt = (wkF gX gE gc ((I0 a4 3).toInt.toNat + (I0 a6 2).toInt.toNat)) v48.toInt.toNat := (by show _ = toZ (mkZ gX (-1) ((I0 a4 3).toInt.toNat + (I0 a6 2).toInt.toNat) gE gc ((v48.toInt.toNat : Nat) : Int) (pw (gc 4) - 1)); rw [show ((v48.toInt.toNat : Nat) : Int) = v48.toInt by omega, ← hc39.2.2.2.1, ← ht103]; exact rp128); rw [show v153.toInt.toNat = v48.toInt.toNat + 1 by omega]; exact bsP.no rw65.1 rw65.2 e (by rw [show ((v48.toInt.toNat : Nat) : Int) = v48.toInt by omega]; have p1 := rp135; have p2 := rp142; omega) (by omega) (by omega)) (SkQ.st (SkQ.of (SkW.rc rp88 hS55.1 ta0 (fun a j q => (R13 hS55 (by decide +kernel) a j q).symm))) hW0 ta0 g109 (by decide +kernel) (by decide +kernel)) (NgQ.fn rp91 hS55.1 ta0 g109 (DjN.st hDn hW0 ta0 hS92 (by decide +kernel) (by decide +kernel)) ((R13 hS92 (by decide +kernel) a0 14 (by rw [ta0]; decide)).trans d15) rp116 rp117 (by decide +kernel) (by decide +kernel) (by decide +kernel)) (by omega)
              · skip
                exfalso; omega
        · skip
          refine q_iconst dX10_bestCalls_56 (by decide) ?_
          intro v155 h156
          refine tr_goto 61 dX10_bestCalls_57 (by decide) ?_
          refine tr_istore dX10_bestCalls_61 (by decide) (by decide) ?_
          refine tr_iload dX10_bestCalls_63 rfl ?_
          refine tr_iload_n dX10_bestCalls_65 hl51 ?_
          refine q_icmp_gt 80 dX10_bestCalls_66 (by decide) (fun h157 => ?_) (fun h157 => ?_)
          · skip
            refine tr_iload dX10_bestCalls_80 rfl ?_
            refine tr_istore_n dX10_bestCalls_82 (by decide) (by decide) ?_
            refine tr_iload_n dX10_bestCalls_83 hl52 ?_
            refine tr_istore_n dX10_bestCalls_84 (by decide) (by decide) ?_
            refine q_iincE dX10_bestCalls_85 hl52 (by decide) (by decide) (by intros; omega) ?_
            intro v158 h159
            refine tr_goto 8 dX10_bestCalls_88 (by decide) ?_
            exact ih68 _ v48 v126 v158 I106 R107 v93 hl49 rfl rfl rfl hS118 c119 (by omega) (by omega) (by omega) (by omega) (by omega) (by omega) (by omega) (by have e : v126.toInt = (wkF gX gE gc ((I0 a4 3).toInt.toNat + (I0 a6 2).toInt.toNat)) v48.toInt.toNat := (by show _ = toZ (mkZ gX (-1) ((I0 a4 3).toInt.toNat + (I0 a6 2).toInt.toNat) gE gc ((v48.toInt.toNat : Nat) : Int) (pw (gc 4) - 1)); rw [show ((v48.toInt.toNat : Nat) : Int) = v48.toInt by omega, ← hc39.2.2.2.1, ← ht103]; exact rp128); rw [show v158.toInt.toNat = v48.toInt.toNat + 1 by omega]; exact bsP.up rw65.1 rw65.2 e (by rw [show ((v48.toInt.toNat : Nat) : Int) = v48.toInt by omega]; have p1 := rp135; have p2 := rp142; omega) (by omega) (by omega)) (SkQ.st (SkQ.of (SkW.rc rp88 hS55.1 ta0 (fun a j q => (R13 hS55 (by decide +kernel) a j q).symm))) hW0 ta0 g109 (by decide +kernel) (by decide +kernel)) (NgQ.fn rp91 hS55.1 ta0 g109 (DjN.st hDn hW0 ta0 hS92 (by decide +kernel) (by decide +kernel)) ((R13 hS92 (by decide +kernel) a0 14 (by rw [ta0]; decide)).trans d15) rp116 rp117 (by decide +kernel) (by decide +kernel) (by decide +kernel)) (by omega)
          · skip
            refine tr_iload dX10_bestCalls_69 rfl ?_
            refine tr_iload_n dX10_bestCalls_71 hl51 ?_
            refine q_icmp_ne 85 dX10_bestCalls_72 (by decide) (fun h160 => ?_) (fun h160 => ?_)
            · skip
              refine q_iincE dX10_bestCalls_85 hl52 (by decide) (by decide) (by intros; omega) ?_
              intro v161 h162
              refine tr_goto 8 dX10_bestCalls_88 (by decide) ?_
              exact ih68 _ v46 v47 v161 I106 R107 v93 hl49 hl50 hl51 rfl hS118 c119 (by omega) (by omega) (by omega) (by omega) (by omega) (by omega) (by omega) (by have e : v126.toInt = (wkF gX gE gc ((I0 a4 3).toInt.toNat + (I0 a6 2).toInt.toNat)) v48.toInt.toNat := (by show _ = toZ (mkZ gX (-1) ((I0 a4 3).toInt.toNat + (I0 a6 2).toInt.toNat) gE gc ((v48.toInt.toNat : Nat) : Int) (pw (gc 4) - 1)); rw [show ((v48.toInt.toNat : Nat) : Int) = v48.toInt by omega, ← hc39.2.2.2.1, ← ht103]; exact rp128); rw [show v161.toInt.toNat = v48.toInt.toNat + 1 by omega]; exact bsP.no rw65.1 rw65.2 e (by rw [show ((v48.toInt.toNat : Nat) : Int) = v48.toInt by omega]; have p1 := rp135; have p2 := rp142; omega) (by omega) (by omega)) (SkQ.st (SkQ.of (SkW.rc rp88 hS55.1 ta0 (fun a j q => (R13 hS55 (by decide +kernel) a j q).symm))) hW0 ta0 g109 (by decide +kernel) (by decide +kernel)) (NgQ.fn rp91 hS55.1 ta0 g109 (DjN.st hDn hW0 ta0 hS92 (by decide +kernel) (by decide +kernel)) ((R13 hS92 (by decide +kernel) a0 14 (by rw [ta0]; decide)).trans d15) rp116 rp117 (by decide +kernel) (by decide +kernel) (by decide +kernel)) (by omega)
            · skip
              refine tr_iload dX10_bestCalls_75 rfl ?_
              refine q_if_eq 85 dX10_bestCalls_77 (by decide) (fun h163 => ?_) (fun h163 => ?_)
              · skip
                exfalso; omega
              · skip
                refine tr_iload dX10_bestCalls_80 rfl ?_
                refine tr_istore_n dX10_bestCalls_82 (by decide) (by decide) ?_
                refine tr_iload_n dX10_bestCalls_83 hl52 ?_
                refine tr_istore_n dX10_bestCalls_84 (by decide) (by decide) ?_
                refine q_iincE dX10_bestCalls_85 hl52 (by decide) (by decide) (by intros; omega) ?_
                intro v164 h165
                refine tr_goto 8 dX10_bestCalls_88 (by decide) ?_
                exact ih68 _ v48 v126 v164 I106 R107 v93 hl49 rfl rfl rfl hS118 c119 (by omega) (by omega) (by omega) (by omega) (by omega) (by omega) (by omega) (by have e : v126.toInt = (wkF gX gE gc ((I0 a4 3).toInt.toNat + (I0 a6 2).toInt.toNat)) v48.toInt.toNat := (by show _ = toZ (mkZ gX (-1) ((I0 a4 3).toInt.toNat + (I0 a6 2).toInt.toNat) gE gc ((v48.toInt.toNat : Nat) : Int) (pw (gc 4) - 1)); rw [show ((v48.toInt.toNat : Nat) : Int) = v48.toInt by omega, ← hc39.2.2.2.1, ← ht103]; exact rp128); rw [show v164.toInt.toNat = v48.toInt.toNat + 1 by omega]; exact bsP.up rw65.1 rw65.2 e (by rw [show ((v48.toInt.toNat : Nat) : Int) = v48.toInt by omega]; have p1 := rp135; have p2 := rp142; omega) (by omega) (by omega)) (SkQ.st (SkQ.of (SkW.rc rp88 hS55.1 ta0 (fun a j q => (R13 hS55 (by decide +kernel) a j q).symm))) hW0 ta0 g109 (by decide +kernel) (by decide +kernel)) (NgQ.fn rp91 hS55.1 ta0 g109 (DjN.st hDn hW0 ta0 hS92 (by decide +kernel) (by decide +kernel)) ((R13 hS92 (by decide +kernel) a0 14 (by rw [ta0]; decide)).trans d15) rp116 rp117 (by decide +kernel) (by decide +kernel) (by decide +kernel)) (by omega)
  exact lp68 _ _ v40 v42 v44 I0 R0 v1 rfl rfl rfl rfl hS0 c2 (by omega) (by omega) (by omega) (by omega) (by omega) (by omega) (by omega) ⟨by rw [show v44.toInt.toNat = 0 by omega]; show _ = (0 : Int); omega, by rw [show v44.toInt.toNat = 0 by omega]; show _ = (-100000 : Int); omega⟩ hK hNg (Nat.lt_succ_self _)
def wik_X10_fewestTurners : List Nat := [73, 75, 768, 769, 778, 834, 2303, 2367, 2431, 2495, 2559, 2623, 2687, 2751, 2815, 2879, 2943, 3007, 3071, 3135, 3199, 3263, 3327, 3391]
def wrk_X10_fewestTurners : List Nat := [832, 833]
def Cs_X10_fewestTurners (T : Nat → Nat) (I0 : cz_I) (R0 : cz_R) (a0 : Nat) (gX : Nat → Nat → Int) (gE : Nat → Nat → Int) (gc : Nat → Int) (v : Int32) (I' : cz_I) (R' : cz_R) : Prop :=
  ((-2 ≤ v.toInt) ∧ (v.toInt ≤ 31) ∧ ((v.toInt = -2 ∨ 0 ≤ v.toInt)) ∧ True)
set_option maxHeartbeats 4000000 in
theorem fk_X10_fewestTurners {l : Launch} {T : Nat → Nat} {cn : Nat} {K N : Nat → Nat} {I0 : cz_I} {R0 : cz_R} {L0 : cz_L} {d : Int} (hW0 : Wf T cn K N I0 R0 d) (gX : Nat → Nat → Int) (gE : Nat → Nat → Int) (gc : Nat → Int) {a0 : Nat} (ta0 : T a0 = 1) (hX : EvQ I0 R0 a0 gX) (hK : SkQ I0 R0 a0 gX) (hD : DjS R0 a0) (hEa : ∀ al, R0 a0 2 = some al → CVa I0 R0 al gc gE) (hGd : GdE gc gE) (hMs : ∀ nw, R0 a0 6 = some nw → 0 ≤ (I0 nw 0).toInt ∧ (I0 nw 0).toInt ≤ 63) (hNg : NgQ I0 R0 a0 gX gE gc) (hDn : DjN R0 a0) (h1 : 1 ≤ gc 0 ∨ ∀ i, gc i = 0) : ConE l mX10_fewestTurners [.ref a0] cn K N I0 R0 L0 (ca_i (fun v cn' K' N' I' R' L' => cn = cn' ∧ K = K' ∧ N = N' ∧ L0 = L' ∧ St T cn K N d wik_X10_fewestTurners wrk_X10_fewestTurners I0 R0 I' R' ∧ ((-2) ≤ v.toInt ∧ v.toInt ≤ 31) ∧ (SkQ I' R0 a0 gX) ∧ (NgQ I' R' a0 gX gE gc) ∧ Cs_X10_fewestTurners T I0 R0 a0 gX gE gc v I' R' ∧ True)) := by
  refine ConE.of (by decide +kernel) rfl (Nat.le_of_ble_eq_true rfl) rfl (fun X hX hZ hE => ?_)
  subst hX
  have hS0 : St T cn K N d wik_X10_fewestTurners wrk_X10_fewestTurners I0 R0 I0 R0 := St.rf0 hW0
  obtain ⟨a1, d2, ta1⟩ := rf1_2 hW0 ta0
  obtain ⟨a3, d4, ta3⟩ := rf1_6 hW0 ta0
  obtain ⟨a5, d6, ta5⟩ := rf1_8 hW0 ta0
  obtain ⟨a7, d8, ta7⟩ := rf1_10 hW0 ta0
  obtain ⟨a9, d10, ta9⟩ := rf1_13 hW0 ta0
  obtain ⟨a11, d12, ta11⟩ := rf1_14 hW0 ta0
  obtain ⟨v13, c14⟩ : ∃ v, I0 a1 0 = v := ⟨_, rfl⟩
  have b15 := iv2_0 hW0 ta1 c14
  obtain ⟨v16, c17⟩ : ∃ v, I0 a1 1 = v := ⟨_, rfl⟩
  have b18 := iv2_1 hW0 ta1 c17
  obtain ⟨v19, c20⟩ : ∃ v, I0 a1 3 = v := ⟨_, rfl⟩
  have b21 := iv2_3 hW0 ta1 c20
  obtain ⟨v22, c23⟩ : ∃ v, I0 a1 5 = v := ⟨_, rfl⟩
  have b24 := iv2_5 hW0 ta1 c23
  obtain ⟨v25, c26⟩ : ∃ v, I0 a1 9 = v := ⟨_, rfl⟩
  have b27 := iv2_9 hW0 ta1 c26
  obtain ⟨v28, c29⟩ : ∃ v, I0 a1 11 = v := ⟨_, rfl⟩
  have b30 := iv2_11 hW0 ta1 c29
  obtain ⟨v31, c32⟩ : ∃ v, I0 a3 0 = v := ⟨_, rfl⟩
  obtain ⟨v33, c34⟩ : ∃ v, I0 a3 2 = v := ⟨_, rfl⟩
  have b35 := iv8_2 hW0 ta3 c34
  have hc36 := (hEa _ d2).ct
  rw [c14, c17, c23, c26, c29] at hc36
  have hc36m := hMs _ d4
  have hc36g := hGd.own hc36m gX (-1) ((I0 a1 3).toInt.toNat + (I0 a3 2).toInt.toNat)
  rw [c32] at hc36m
  have hc36z0 : nzc ((NgZ I0 a1 a3 gX gE gc)) 0 = gc 0 := rfl
  have hc36z1 : nzc ((NgZ I0 a1 a3 gX gE gc)) 1 = gc 1 := rfl
  have hc36z3 : nzc ((NgZ I0 a1 a3 gX gE gc)) 3 = gc 3 := rfl
  have hc36z4 : nzc ((NgZ I0 a1 a3 gX gE gc)) 4 = gc 4 := rfl
  have hc36z5 : nzc ((NgZ I0 a1 a3 gX gE gc)) 5 = gc 5 := rfl
  refine tr_aload_n dX10_fewestTurners_0 rfl ?_
  refine q_callVr hE (M' := mX10_presentNight) (as := []) dX10_fewestTurners_1 lk10_155 inX10_presentNight seX10_presentNight myX10_presentNight (by decide) ⟨by decide, by decide⟩ rfl (kR1 hS0.1 ta0) (Nat.le_of_ble_eq_true rfl) rfl rfl (by decide) (by decide) (fk_X10_presentNight hS0.1 (gX) (gE) (gc) ta0 hX hK hD (fun al ha => hEa al ha) hGd hMs hNg hDn h1) ?_
  rintro a42 cn' K' N' I37 R38 L39 ⟨rfl, rfl, rfl, rfl, g40, ta42, p43, rp44, rp45, rp46, rp47, rp48, -⟩
  have hS49 := hS0.tr g40 (by decide +kernel) (by decide +kernel)
  obtain ⟨v50, c51⟩ : ∃ v, I37 a0 11 = v := ⟨_, rfl⟩
  have b52 := iv1_11 hS49.1 ta0 c51
  rw [c51] at p43
  have hq53 := NgP.own (n := a42) rp45 (SkQ.rc rp44 hW0 ta0 (R13 hS49 (by decide +kernel))) (by rw [c51]; omega) ((g40.rcell ta0 (by decide +kernel)).trans rp46) ((hS49.rcell ta0 (by decide +kernel)).trans d6) ((hS49.rcell ta0 (by decide +kernel)).trans d2) ((hS49.rcell ta0 (by decide +kernel)).trans d4) ((hEa _ d2).gs hW0 ta1 hS49 (by decide +kernel) (by decide +kernel)) hGd
  have hq53z : NgZ I37 a1 a3 gX gE gc = (NgZ I0 a1 a3 gX gE gc) := by unfold NgZ; rw [hS49.cell ta1 (by decide +kernel), hS49.cell ta3 (by decide +kernel), hS49.cell ta3 (by decide +kernel)]
  rw [hq53z] at hq53
  refine q_callVi hE (M' := mX5_missesAny) (as := []) dX10_fewestTurners_4 lk10_374 inX5_missesAny seX5_missesAny myX5_missesAny (by decide) ⟨by decide, by decide⟩ rfl (kR13 hS49.1 ta42) (Nat.le_of_ble_eq_true rfl) rfl rfl (by decide) (by decide) (k_X5_missesAny hS49.1 ta42) ?_
  rintro v58 cn' K' N' I54 R55 L56 ⟨rfl, rfl, rfl, rfl, rfl, rfl, h59, -⟩
  refine q_if_eq 13 dX10_fewestTurners_7 (by decide) (fun h60 => ?_) (fun h60 => ?_)
  · skip
    refine tr_aload_n dX10_fewestTurners_13 rfl ?_
    refine q_callVi hE (M' := mX10_allTurners) (as := []) dX10_fewestTurners_14 lk10_184 inX10_allTurners seX10_allTurners myX10_allTurners (by decide) ⟨by decide, by decide⟩ rfl (kR1 hS49.1 ta0) (Nat.le_of_ble_eq_true rfl) rfl rfl (by decide) (by decide) (fk_X10_allTurners hS49.1  ta0) ?_
    rintro v66 cn' K' N' I61 R62 L63 ⟨rfl, rfl, rfl, rfl, rfl, rfl, rp67, -⟩
    have ht68 := rp67 _ ((hS49.rcell ta0 (by decide +kernel)).trans d2)
    rw [((hS49.cell ta1 (by decide +kernel)).trans c26)] at ht68
    have ht68b := pw_all (c := v25.toInt) (by omega) (by omega)
    refine tr_istore_n dX10_fewestTurners_17 (by decide) (by decide) ?_
    refine q_iconst dX10_fewestTurners_18 (by decide) ?_
    intro v69 h70
    refine tr_istore_n dX10_fewestTurners_19 (by decide) (by decide) ?_
    have lp85 : ∀ (fu : Nat) (ls : Nat → Option Value) (v71 : Int32) (v72 : Int32) (I76 : cz_I) (R77 : cz_R), ls 0 = some (.ref a0) → ls 1 = some (.int v71) → ls 2 = some (.int v72) → St T cn K N d wik_X10_fewestTurners wrk_X10_fewestTurners I0 R0 I76 R77 → 0 ≤ v72.toInt → v72.toInt ≤ 31 → 0 ≤ v71.toInt → v71.toInt ≤ 31 → (SkQ I76 R0 a0 gX) → (NgQ I76 R77 a0 gX gE gc) → (-v72.toInt + 2147483647).toNat < fu → Tr X mX10_fewestTurners 20 ls [] cn K N I76 R77 L0 0 0 := by
      intro fu
      induction fu with
      | zero => intros; rename_i hz; exact absurd hz (Nat.not_lt_zero _)
      | succ fu ih85 =>
        intro ls v71 v72 I76 R77 hl73 hl74 hl75 hS78 g79 g80 g81 g82 rw83 rw84 hm85
        refine tr_iload_n dX10_fewestTurners_20 hl75 ?_
        refine tr_aload_n dX10_fewestTurners_21 hl73 ?_
        refine q_callVi hE (M' := mX10_allTurners) (as := []) dX10_fewestTurners_22 lk10_184 inX10_allTurners seX10_allTurners myX10_allTurners (by decide) ⟨by decide, by decide⟩ rfl (kR1 hS78.1 ta0) (Nat.le_of_ble_eq_true rfl) rfl rfl (by decide) (by decide) (fk_X10_allTurners hS78.1  ta0) ?_
        rintro v92 cn' K' N' I87 R88 L89 ⟨rfl, rfl, rfl, rfl, rfl, rfl, rp93, -⟩
        have ht94 := rp93 _ ((hS78.rcell ta0 (by decide +kernel)).trans d2)
        rw [((hS78.cell ta1 (by decide +kernel)).trans c26)] at ht94
        have ht94b := pw_all (c := v25.toInt) (by omega) (by omega)
        refine q_icmp_ge 80 dX10_fewestTurners_25 (by decide) (fun h95 => ?_) (fun h95 => ?_)
        · skip
          refine tr_iload_n dX10_fewestTurners_80 hl74 ?_
          exact tr_iret hZ dX10_fewestTurners_81 rfl (by decide) (by decide) ⟨v71, rfl, rfl, rfl, rfl, rfl, hS78, (by omega), rw83, rw84, (⟨(by first | done | with_reducible assumption | omega), (by first | done | with_reducible assumption | omega), (by first | done | with_reducible assumption | omega), trivial⟩), trivial⟩
        · skip
          refine tr_iload_n dX10_fewestTurners_28 hl75 ?_
          refine q_callSi hE (M' := mJ6_bitCount_0f7a4) (as := [_]) dX10_fewestTurners_29 lk10_247 inJ6_bitCount_0f7a4 myJ6_bitCount_0f7a4 ⟨by decide, by decide⟩ rfl (Nat.le_of_ble_eq_true rfl) rfl rfl (by decide) (by decide) (fk_J6_bitCount_0f7a4 hS78.1  (by omega)) ?_
          rintro v101 cn' K' N' I96 R97 L98 ⟨rfl, rfl, rfl, rfl, rfl, rfl, rp102, -⟩
          have pcv101 := pcI_b (x := v72.toInt)
          rw [← rp102] at pcv101
          refine tr_iload_n dX10_fewestTurners_32 hl74 ?_
          refine q_callSi hE (M' := mJ6_bitCount_0f7a4) (as := [_]) dX10_fewestTurners_33 lk10_247 inJ6_bitCount_0f7a4 myJ6_bitCount_0f7a4 ⟨by decide, by decide⟩ rfl (Nat.le_of_ble_eq_true rfl) rfl rfl (by decide) (by decide) (fk_J6_bitCount_0f7a4 hS78.1  (by omega)) ?_
          rintro v108 cn' K' N' I103 R104 L105 ⟨rfl, rfl, rfl, rfl, rfl, rfl, rp109, -⟩
          have pcv108 := pcI_b (x := v71.toInt)
          rw [← rp109] at pcv108
          refine q_icmp_ge 74 dX10_fewestTurners_36 (by decide) (fun h110 => ?_) (fun h110 => ?_)
          · skip
            refine q_iincE dX10_fewestTurners_74 hl75 (by decide) (by decide) (by intros; omega) ?_
            intro v111 h112
            refine tr_goto 20 dX10_fewestTurners_77 (by decide) ?_
            exact ih85 _ v71 v111 I76 R77 hl73 hl74 rfl hS78 (by omega) (by omega) (by omega) (by omega) rw83 rw84 (by omega)
          · skip
            refine tr_aload_n dX10_fewestTurners_39 hl73 ?_
            refine tr_getR dX10_fewestTurners_40 fl10_68 (kR1 hS78.1 ta0) ((hS78.rcell ta0 (by decide +kernel)).trans d12) ?_
            refine tr_aload_n dX10_fewestTurners_43 hl73 ?_
            refine tr_getR dX10_fewestTurners_44 fl10_16 (kR1 hS78.1 ta0) ((hS78.rcell ta0 (by decide +kernel)).trans d2) ?_
            refine tr_aload_n dX10_fewestTurners_47 hl73 ?_
            refine q_callVr hE (M' := mX10_presentSky) (as := []) dX10_fewestTurners_48 lk10_119 inX10_presentSky seX10_presentSky myX10_presentSky (by decide) ⟨by decide, by decide⟩ rfl (kR1 hS78.1 ta0) (Nat.le_of_ble_eq_true rfl) rfl rfl (by decide) (by decide) (fk_X10_presentSky hS78.1 (gX) (gE) (gc) ta0 (EvQ.rc (EvQ.st hX hW0 ta0 hS78 (by decide +kernel)) hW0 ta0 (R13 hS78 (by decide +kernel))) (SkQ.rc rw83 hW0 ta0 (R13 hS78 (by decide +kernel))) (DjS.rc hD hW0 ta0 (R13 hS78 (by decide +kernel))) (fun al ha => by have h0 := (R13 hS78 (by decide +kernel) a0 2 (by rw [ta0]; decide)).symm.trans ha; exact (hEa al h0).gs hW0 (hW0.rs ta0 rfl rfl h0) hS78 (by decide +kernel) (by decide +kernel)) hGd (fun nw hn => by have h0 := (R13 hS78 (by decide +kernel) a0 6 (by rw [ta0]; decide)).symm.trans hn; rw [hS78.cell (hW0.rs ta0 rfl rfl h0 : T nw = 8) (by decide +kernel)]; exact hMs nw h0) rw84 (DjN.st hDn hW0 ta0 hS78 (by decide +kernel) (by decide +kernel)) h1) ?_
            rintro a118 cn' K' N' I113 R114 L115 ⟨rfl, rfl, rfl, rfl, rfl, g116, ta118, p119, rp120, rp121, rp122, rp123, rp124, -⟩
            have hS125 := hS78.tr g116 (by decide +kernel) (by decide +kernel)
            obtain ⟨v126, c127⟩ : ∃ v, I113 a0 9 = v := ⟨_, rfl⟩
            have b128 := iv1_9 hS125.1 ta0 c127
            rw [c127] at p119
            refine tr_aload_n dX10_fewestTurners_51 hl73 ?_
            refine tr_getR dX10_fewestTurners_52 fl10_35 (kR1 hS125.1 ta0) ((hS125.rcell ta0 (by decide +kernel)).trans d4) ?_
            refine q_getI dX10_fewestTurners_55 fl10_181 (kR8 hS125.1 ta3) ((hS125.cell ta3 (by decide +kernel)).trans c32) ?_
            have hm129 : 0 ≤ (I113 a3 0).toInt ∧ (I113 a3 0).toInt ≤ 63 := by rw [hS125.cell ta3 (by decide +kernel)]; exact hMs _ d4
            rw [((hS125.cell ta3 (by decide +kernel)).trans c32)] at hm129
            refine tr_iload_n dX10_fewestTurners_58 hl75 ?_
            obtain rfl : a5 = a118 := Option.some.inj (((hS78.rcell ta0 (by decide +kernel)).trans d6).symm.trans rp120)
            have hz130m : nzM (mkZ gX (-1) ((I0 a1 3).toInt.toNat + (I0 a3 2).toInt.toNat) gE gc v31.toInt v72.toInt) = v31.toInt := rfl
            have hz130w : nzW (mkZ gX (-1) ((I0 a1 3).toInt.toNat + (I0 a3 2).toInt.toNat) gE gc v31.toInt v72.toInt) = v72.toInt := rfl
            have kw131k : SkW I113 R77 a0 gX := (SkQ.rc (SkQ.of (SkW.rc rp121 hS78.1 ta0 (fun a j q => (R13 hS78 (by decide +kernel) a j q).symm))) hW0 ta0 (R13 hS125 (by decide +kernel))) (by rw [c127]; omega)
            have kw131t : StW I113 R77 a0 gX gE gc := rp124.1 (by rw [c127]; omega)
            have kw131 : SkZ I113 R77 a5 (mkZ gX (-1) ((I113 a1 3).toInt.toNat + (I113 a3 2).toInt.toNat) gE gc v31.toInt v72.toInt) := SkZ.cl (SkZ.own kw131k kw131t ((hS125.rcell ta0 (by decide +kernel)).trans d6) ((hS125.rcell ta0 (by decide +kernel)).trans d2) ((hS125.rcell ta0 (by decide +kernel)).trans d4) ((hEa _ d2).gs hW0 ta1 hS125 (by decide +kernel) (by decide +kernel)) hGd)
            rw [hS125.cell ta1 (by decide +kernel), hS125.cell ta3 (by decide +kernel)] at kw131
            refine q_callVv hE (M' := mX5_play) (as := [_, _, _, _]) dX10_fewestTurners_59 lk10_188 inX5_play seX5_play myX5_play (by decide) ⟨by decide, by decide⟩ rfl (kR13 hS125.1 ta11) (Nat.le_of_ble_eq_true rfl) rfl rfl (by decide) (by decide) (fk_X5_play hS125.1 ((mkZ gX (-1) ((I0 a1 3).toInt.toNat + (I0 a3 2).toInt.toNat) gE gc v31.toInt v72.toInt)) ta11 ta1 ta5 (by omega) (by omega) ((hEa _ d2).gs hW0 ta1 hS125 (by decide +kernel) (by decide +kernel)) kw131 (hGd _ _ _ _ _ (by omega) (by omega)) (by first | done | with_reducible assumption | omega) (by first | done | with_reducible assumption | omega)) ?_
            rintro cn' K' N' I132 R133 L134 ⟨rfl, rfl, rfl, rfl, g135, rp138, rp139, rp140, rp141, rp142, rp143, -⟩
            have hS144 := hS125.tr g135 (by decide +kernel) (by decide +kernel)
            have c145 : I132 a0 9 = v126 := (g135.cell ta0 (by decide +kernel)).trans c127
            have hp146P : NgP I132 R133 a11 (mkZ gX (-1) ((I0 a1 3).toInt.toNat + (I0 a3 2).toInt.toNat) gE gc v31.toInt v72.toInt) := NgP.mk ((hEa _ d2).gs hW0 ta1 hS125 (by decide +kernel) (by decide +kernel)) kw131 g135 hS125.1 ta11 ta1 ta5 rp138 rp139 (congrArg Int32.toInt rp140) (by decide +kernel) (by decide +kernel)
            have hp146R : NgR I132 R133 a11 (mkZ gX (-1) ((I0 a1 3).toInt.toNat + (I0 a3 2).toInt.toNat) gE gc v31.toInt v72.toInt) (gc 0).toNat := rp141.rc (fun k k1 k2 => R13w g135 (by decide +kernel) ta11 k1 k2)
            have hp146G : GdN (mkZ gX (-1) ((I0 a1 3).toInt.toNat + (I0 a3 2).toInt.toNat) gE gc v31.toInt v72.toInt) := hGd _ _ _ _ _ (by omega) (by omega)
            refine tr_aload_n dX10_fewestTurners_62 hl73 ?_
            refine tr_getR dX10_fewestTurners_63 fl10_68 (kR1 hS144.1 ta0) ((hS144.rcell ta0 (by decide +kernel)).trans d12) ?_
            refine q_callVi hE (M' := mX5_missesAny) (as := []) dX10_fewestTurners_66 lk10_374 inX5_missesAny seX5_missesAny myX5_missesAny (by decide) ⟨by decide, by decide⟩ rfl (kR13 hS144.1 ta11) (Nat.le_of_ble_eq_true rfl) rfl rfl (by decide) (by decide) (k_X5_missesAny hS144.1 ta11) ?_
            rintro v151 cn' K' N' I147 R148 L149 ⟨rfl, rfl, rfl, rfl, rfl, rfl, h152, -⟩
            refine q_if_ne 74 dX10_fewestTurners_69 (by decide) (fun h153 => ?_) (fun h153 => ?_)
            · skip
              refine q_iincE dX10_fewestTurners_74 hl75 (by decide) (by decide) (by intros; omega) ?_
              intro v154 h155
              refine tr_goto 20 dX10_fewestTurners_77 (by decide) ?_
              exact ih85 _ v71 v154 I132 R133 hl73 hl74 rfl hS144 (by omega) (by omega) (by omega) (by omega) (SkQ.st (SkQ.of (SkW.rc rp121 hS78.1 ta0 (fun a j q => (R13 hS78 (by decide +kernel) a j q).symm))) hW0 ta0 g135 (by decide +kernel) (by decide +kernel)) (NgQ.fn rp124 hS78.1 ta0 g135 (DjN.st hDn hW0 ta0 hS125 (by decide +kernel) (by decide +kernel)) ((R13 hS125 (by decide +kernel) a0 14 (by rw [ta0]; decide)).trans d12) rp142 rp143 (by decide +kernel) (by decide +kernel) (by decide +kernel)) (by omega)
            · skip
              refine tr_iload_n dX10_fewestTurners_72 hl75 ?_
              refine tr_istore_n dX10_fewestTurners_73 (by decide) (by decide) ?_
              refine q_iincE dX10_fewestTurners_74 hl75 (by decide) (by decide) (by intros; omega) ?_
              intro v156 h157
              refine tr_goto 20 dX10_fewestTurners_77 (by decide) ?_
              exact ih85 _ v72 v156 I132 R133 hl73 rfl rfl hS144 (by omega) (by omega) (by omega) (by omega) (SkQ.st (SkQ.of (SkW.rc rp121 hS78.1 ta0 (fun a j q => (R13 hS78 (by decide +kernel) a j q).symm))) hW0 ta0 g135 (by decide +kernel) (by decide +kernel)) (NgQ.fn rp124 hS78.1 ta0 g135 (DjN.st hDn hW0 ta0 hS125 (by decide +kernel) (by decide +kernel)) ((R13 hS125 (by decide +kernel) a0 14 (by rw [ta0]; decide)).trans d12) rp142 rp143 (by decide +kernel) (by decide +kernel) (by decide +kernel)) (by omega)
    exact lp85 _ _ v66 v69 I37 R38 rfl rfl rfl hS49 (by omega) (by omega) (by omega) (by omega) rp44 rp45 (Nat.lt_succ_self _)
  · skip
    refine q_bipush dX10_fewestTurners_10 (by decide +kernel) ?_
    intro v158 h159
    exact tr_iret hZ dX10_fewestTurners_12 rfl (by decide) (by decide) ⟨v158, rfl, rfl, rfl, rfl, rfl, hS49, (by omega), rp44, rp45, (⟨(by first | done | with_reducible assumption | omega), (by first | done | with_reducible assumption | omega), (by first | done | with_reducible assumption | omega), trivial⟩), trivial⟩
def wik_X10_sky : List Nat := [73, 81, 768, 769, 778, 2303, 2367, 2431, 2495, 2559, 2623, 2687, 2751, 2815]
def wrk_X10_sky : List Nat := []
def Cs_X10_sky (T : Nat → Nat) (I0 : cz_I) (R0 : cz_R) (a0 : Nat) (gX : Nat → Nat → Int) (gE : Nat → Nat → Int) (gc : Nat → Int) (x1 : Int32) (v : Int32) (I' : cz_I) (R' : cz_R) : Prop :=
  (((I0 a0 5).toInt = 0) ∧ (v.toInt = -1) ∧ True) ∨
  (((I0 a0 5).toInt = 1) ∧ (∀ b1, R0 a0 2 = some b1 → (x1.toInt < 0 ∨ x1.toInt ≥ (I0 b1 0).toInt)) ∧ (v.toInt = -1) ∧ True) ∨
  (((I0 a0 5).toInt = 1) ∧ (0 ≤ x1.toInt) ∧ (∀ b1, R0 a0 2 = some b1 → x1.toInt < (I0 b1 0).toInt) ∧ (∀ al nw, R0 a0 2 = some al → R0 a0 6 = some nw → v.toInt = skB gX (-1) ((I0 al 3).toInt.toNat + (I0 nw 2).toInt.toNat) x1.toInt) ∧ True)
set_option maxHeartbeats 4000000 in
theorem fk_X10_sky {l : Launch} {T : Nat → Nat} {cn : Nat} {K N : Nat → Nat} {I0 : cz_I} {R0 : cz_R} {L0 : cz_L} {d : Int} (hW0 : Wf T cn K N I0 R0 d) (gX : Nat → Nat → Int) (gE : Nat → Nat → Int) (gc : Nat → Int) {a0 : Nat} (ta0 : T a0 = 1) {x1 : Int32} (hX : EvQ I0 R0 a0 gX) (hK : SkQ I0 R0 a0 gX) (hD : DjS R0 a0) (hEa : ∀ al, R0 a0 2 = some al → CVa I0 R0 al gc gE) (hGd : GdE gc gE) (hMs : ∀ nw, R0 a0 6 = some nw → 0 ≤ (I0 nw 0).toInt ∧ (I0 nw 0).toInt ≤ 63) (hNg : NgQ I0 R0 a0 gX gE gc) (hDn : DjN R0 a0) (h1 : 1 ≤ gc 0 ∨ ∀ i, gc i = 0) : ConE l mX10_sky [.ref a0, .int x1] cn K N I0 R0 L0 (ca_i (fun v cn' K' N' I' R' L' => cn = cn' ∧ K = K' ∧ N = N' ∧ R0 = R' ∧ L0 = L' ∧ St T cn K N d wik_X10_sky wrk_X10_sky I0 R0 I' R0 ∧ (SkQ I' R0 a0 gX) ∧ (NgQ I' R0 a0 gX gE gc) ∧ Cs_X10_sky T I0 R0 a0 gX gE gc x1 v I' R0 ∧ True)) := by
  refine ConE.of (by decide +kernel) rfl (Nat.le_of_ble_eq_true rfl) rfl (fun X hX hZ hE => ?_)
  subst hX
  have hS0 : St T cn K N d wik_X10_sky wrk_X10_sky I0 R0 I0 R0 := St.rf0 hW0
  obtain ⟨v1, c2⟩ : ∃ v, I0 a0 5 = v := ⟨_, rfl⟩
  have b3 := iv1_5 hW0 ta0 c2
  obtain ⟨a4, d5, ta4⟩ := rf1_2 hW0 ta0
  obtain ⟨v6, c7⟩ : ∃ v, I0 a4 0 = v := ⟨_, rfl⟩
  have b8 := iv2_0 hW0 ta4 c7
  obtain ⟨a9, d10, ta9⟩ := rf1_6 hW0 ta0
  obtain ⟨a11, d12, ta11⟩ := rf1_8 hW0 ta0
  obtain ⟨a13, d14, ta13⟩ := rf1_10 hW0 ta0
  obtain ⟨a15, d16, ta15⟩ := rf1_13 hW0 ta0
  obtain ⟨a17, d18, ta17⟩ := rf1_14 hW0 ta0
  obtain ⟨v19, c20⟩ : ∃ v, I0 a4 1 = v := ⟨_, rfl⟩
  have b21 := iv2_1 hW0 ta4 c20
  obtain ⟨v22, c23⟩ : ∃ v, I0 a4 3 = v := ⟨_, rfl⟩
  have b24 := iv2_3 hW0 ta4 c23
  refine tr_aload_n dX10_sky_0 rfl ?_
  refine q_getZ dX10_sky_1 fl10_95 (kR1 hS0.1 ta0) c2 ?_
  refine q_if_ne 13 dX10_sky_4 (by decide) (fun h25 => ?_) (fun h25 => ?_)
  · skip
    refine tr_aload_n dX10_sky_13 rfl ?_
    refine tr_iload_n dX10_sky_14 rfl ?_
    refine q_callVi hE (M' := mX10_isMinute) (as := [_]) dX10_sky_15 lk10_115 inX10_isMinute seX10_isMinute myX10_isMinute (by decide) ⟨by decide, by decide⟩ rfl (kR1 hS0.1 ta0) (Nat.le_of_ble_eq_true rfl) rfl rfl (by decide) (by decide) (fk_X10_isMinute hS0.1  ta0) ?_
    rintro v31 cn' K' N' I26 R27 L28 ⟨rfl, rfl, rfl, rfl, rfl, rfl, h32, p33, p34, -⟩
    have p35 := p33 _ d5
    clear p33
    rw [c7] at p35
    have p36 := p34 _ d5
    clear p34
    rw [c7] at p36
    refine q_if_ne 27 dX10_sky_18 (by decide) (fun h37 => ?_) (fun h37 => ?_)
    · skip
      refine tr_aload_n dX10_sky_27 rfl ?_
      refine tr_aload_n dX10_sky_28 rfl ?_
      refine q_callVr hE (M' := mX10_presentSky) (as := []) dX10_sky_29 lk10_119 inX10_presentSky seX10_presentSky myX10_presentSky (by decide) ⟨by decide, by decide⟩ rfl (kR1 hS0.1 ta0) (Nat.le_of_ble_eq_true rfl) rfl rfl (by decide) (by decide) (fk_X10_presentSky hS0.1 (gX) (gE) (gc) ta0 hX hK hD (fun al ha => hEa al ha) hGd hMs hNg hDn h1) ?_
      rintro a43 cn' K' N' I38 R39 L40 ⟨rfl, rfl, rfl, rfl, rfl, g41, ta43, p44, rp45, rp46, rp47, rp48, rp49, -⟩
      have hS50 := hS0.tr g41 (by decide +kernel) (by decide +kernel)
      obtain ⟨v51, c52⟩ : ∃ v, I38 a0 9 = v := ⟨_, rfl⟩
      have b53 := iv1_9 hS50.1 ta0 c52
      rw [c52] at p44
      have hz54 := rp47 _ _ _ rp45 d5 d10
      refine tr_iload_n dX10_sky_32 rfl ?_
      refine q_callVi hE (M' := mX8_isBright) (as := [_]) dX10_sky_33 lk10_123 inX8_isBright seX8_isBright myX8_isBright (by decide) ⟨by decide, by decide⟩ rfl (kR12 hS50.1 ta43) (Nat.le_of_ble_eq_true rfl) rfl rfl (by decide) (by decide) (fk_X8_isBright hS50.1  ta43 (by omega)) ?_
      rintro v60 cn' K' N' I55 R56 L57 ⟨rfl, rfl, rfl, rfl, rfl, rfl, h61, rp62, -⟩
      refine q_if_eq 43 dX10_sky_36 (by decide) (fun h63 => ?_) (fun h63 => ?_)
      · skip
        refine q_iconst dX10_sky_43 (by decide) ?_
        intro v64 h65
        refine q_callVi hE (M' := mX10_answered) (as := [_]) dX10_sky_44 lk10_109 inX10_answered seX10_answered myX10_answered (by decide) ⟨by decide, by decide⟩ rfl (kR1 hS50.1 ta0) (Nat.le_of_ble_eq_true rfl) rfl rfl (by decide) (by decide) (fk_X10_answered hS50.1  ta0) ?_
        rintro v71 cn' K' N' I66 R67 L68 ⟨rfl, rfl, rfl, rfl, rfl, g69, p72, p73, -⟩
        have hS74 := hS50.tr g69 (by decide +kernel) (by decide +kernel)
        have c75 : I66 a0 9 = v51 := (g69.cell ta0 (by decide +kernel)).trans c52
        obtain ⟨v76, c77⟩ : ∃ v, I66 a0 17 = v := ⟨_, rfl⟩
        rw [c77] at p73
        obtain ⟨a78, d79, ta78⟩ := rf12_2 hW0 ta43
        obtain ⟨a80, d81, ta80⟩ := rf12_3 hW0 ta43
        obtain ⟨a82, d83, ta82⟩ := rf12_4 hW0 ta43
        exact tr_iret hZ dX10_sky_47 rfl (by decide) (by decide) ⟨v71, rfl, rfl, rfl, rfl, rfl, rfl, hS74, (SkQ.st (SkQ.of rp46) hW0 ta0 g69 (by decide +kernel) (by decide +kernel)), (NgQ.st rp49 hW0 ta0 g69 (by decide +kernel) (by decide +kernel) (by decide +kernel)), (Or.inr (Or.inr (⟨(by (try rw [c2]); first | done | with_reducible assumption | omega), (by first | done | with_reducible assumption | omega), (fun q0 z0 => by obtain rfl := Option.some.inj ((d5).symm.trans z0); (try rw [c7]); first | done | with_reducible assumption | omega), (fun al nw h2 h6 => by obtain rfl := Option.some.inj (d5.symm.trans h2); obtain rfl := Option.some.inj (d10.symm.trans h6); have e := SkF.br (ix := x1.toInt.toNat) hz54 d79 d81 d83 (by rw [c7]; omega) (rp62 _ _ _ d79 d81 d83); rw [show ((x1.toInt.toNat : Nat) : Int) = x1.toInt by omega] at e; omega), trivial⟩))), trivial⟩
      · skip
        refine q_iconst dX10_sky_39 (by decide) ?_
        intro v84 h85
        refine tr_goto 44 dX10_sky_40 (by decide) ?_
        refine q_callVi hE (M' := mX10_answered) (as := [_]) dX10_sky_44 lk10_109 inX10_answered seX10_answered myX10_answered (by decide) ⟨by decide, by decide⟩ rfl (kR1 hS50.1 ta0) (Nat.le_of_ble_eq_true rfl) rfl rfl (by decide) (by decide) (fk_X10_answered hS50.1  ta0) ?_
        rintro v91 cn' K' N' I86 R87 L88 ⟨rfl, rfl, rfl, rfl, rfl, g89, p92, p93, -⟩
        have hS94 := hS50.tr g89 (by decide +kernel) (by decide +kernel)
        have c95 : I86 a0 9 = v51 := (g89.cell ta0 (by decide +kernel)).trans c52
        obtain ⟨v96, c97⟩ : ∃ v, I86 a0 17 = v := ⟨_, rfl⟩
        rw [c97] at p93
        obtain ⟨a98, d99, ta98⟩ := rf12_2 hW0 ta43
        obtain ⟨a100, d101, ta100⟩ := rf12_3 hW0 ta43
        obtain ⟨a102, d103, ta102⟩ := rf12_4 hW0 ta43
        exact tr_iret hZ dX10_sky_47 rfl (by decide) (by decide) ⟨v91, rfl, rfl, rfl, rfl, rfl, rfl, hS94, (SkQ.st (SkQ.of rp46) hW0 ta0 g89 (by decide +kernel) (by decide +kernel)), (NgQ.st rp49 hW0 ta0 g89 (by decide +kernel) (by decide +kernel) (by decide +kernel)), (Or.inr (Or.inr (⟨(by (try rw [c2]); first | done | with_reducible assumption | omega), (by first | done | with_reducible assumption | omega), (fun q0 z0 => by obtain rfl := Option.some.inj ((d5).symm.trans z0); (try rw [c7]); first | done | with_reducible assumption | omega), (fun al nw h2 h6 => by obtain rfl := Option.some.inj (d5.symm.trans h2); obtain rfl := Option.some.inj (d10.symm.trans h6); have e := SkF.br (ix := x1.toInt.toNat) hz54 d99 d101 d103 (by rw [c7]; omega) (rp62 _ _ _ d99 d101 d103); rw [show ((x1.toInt.toNat : Nat) : Int) = x1.toInt by omega] at e; omega), trivial⟩))), trivial⟩
    · skip
      refine tr_aload_n dX10_sky_21 rfl ?_
      refine q_iconst dX10_sky_22 (by decide) ?_
      intro v104 h105
      refine q_callVi hE (M' := mX10_refused) (as := [_]) dX10_sky_23 lk10_79 inX10_refused seX10_refused myX10_refused (by decide) ⟨by decide, by decide⟩ rfl (kR1 hS0.1 ta0) (Nat.le_of_ble_eq_true rfl) rfl rfl (by decide) (by decide) (fk_X10_refused hS0.1  ta0) ?_
      rintro v111 cn' K' N' I106 R107 L108 ⟨rfl, rfl, rfl, rfl, rfl, g109, p112, p113, -⟩
      have hS114 := hS0.tr g109 (by decide +kernel) (by decide +kernel)
      obtain ⟨v115, c116⟩ : ∃ v, I106 a0 17 = v := ⟨_, rfl⟩
      rw [c116] at p113
      exact tr_iret hZ dX10_sky_26 rfl (by decide) (by decide) ⟨v111, rfl, rfl, rfl, rfl, rfl, rfl, hS114, (SkQ.st hK hW0 ta0 g109 (by decide +kernel) (by decide +kernel)), (NgQ.st hNg hW0 ta0 g109 (by decide +kernel) (by decide +kernel) (by decide +kernel)), (by first | exact Or.inr (Or.inl ⟨(by (try rw [c2]); first | done | with_reducible assumption | omega), (fun q0 z0 => by obtain rfl := Option.some.inj ((d5).symm.trans z0); (try rw [c7]); first | done | with_reducible assumption | omega), (by first | done | with_reducible assumption | omega), trivial⟩) | exact Or.inr (Or.inr (⟨(by (try rw [c2]); first | done | with_reducible assumption | omega), (by first | done | with_reducible assumption | omega), (fun q0 z0 => by obtain rfl := Option.some.inj ((d5).symm.trans z0); (try rw [c7]); first | done | with_reducible assumption | omega), (by exfalso; omega), trivial⟩))), trivial⟩
  · skip
    refine tr_aload_n dX10_sky_7 rfl ?_
    refine q_iconst dX10_sky_8 (by decide) ?_
    intro v117 h118
    refine q_callVi hE (M' := mX10_refused) (as := [_]) dX10_sky_9 lk10_79 inX10_refused seX10_refused myX10_refused (by decide) ⟨by decide, by decide⟩ rfl (kR1 hS0.1 ta0) (Nat.le_of_ble_eq_true rfl) rfl rfl (by decide) (by decide) (fk_X10_refused hS0.1  ta0) ?_
    rintro v124 cn' K' N' I119 R120 L121 ⟨rfl, rfl, rfl, rfl, rfl, g122, p125, p126, -⟩
    have hS127 := hS0.tr g122 (by decide +kernel) (by decide +kernel)
    obtain ⟨v128, c129⟩ : ∃ v, I119 a0 17 = v := ⟨_, rfl⟩
    rw [c129] at p126
    exact tr_iret hZ dX10_sky_12 rfl (by decide) (by decide) ⟨v124, rfl, rfl, rfl, rfl, rfl, rfl, hS127, (SkQ.st hK hW0 ta0 g122 (by decide +kernel) (by decide +kernel)), (NgQ.st hNg hW0 ta0 g122 (by decide +kernel) (by decide +kernel) (by decide +kernel)), (Or.inl ⟨(by (try rw [c2]); first | done | with_reducible assumption | omega), (by first | done | with_reducible assumption | omega), trivial⟩), trivial⟩
set_option maxHeartbeats 4000000 in
theorem fk_X10_isHut {l : Launch} {T : Nat → Nat} {cn : Nat} {K N : Nat → Nat} {I0 : cz_I} {R0 : cz_R} {L0 : cz_L} {d : Int} (hW0 : Wf T cn K N I0 R0 d)  {a0 : Nat} (ta0 : T a0 = 1) {x1 : Int32} : ConE l mX10_isHut [.ref a0, .int x1] cn K N I0 R0 L0 (ca_i (fun v cn' K' N' I' R' L' => cn = cn' ∧ K = K' ∧ N = N' ∧ I0 = I' ∧ R0 = R' ∧ L0 = L' ∧ (0 ≤ v.toInt ∧ v.toInt ≤ 1) ∧ (∀ b1, R0 a0 2 = some b1 → (v.toInt = 1 → (0 ≤ x1.toInt ∧ x1.toInt < (I0 b1 1).toInt))) ∧ (∀ b1, R0 a0 2 = some b1 → (v.toInt = 0 → (x1.toInt < 0 ∨ x1.toInt ≥ (I0 b1 1).toInt))) ∧ True)) := by
  refine ConE.of (by decide +kernel) rfl (Nat.le_of_ble_eq_true rfl) rfl (fun X hX hZ hE => ?_)
  subst hX
  obtain ⟨a1, d2, ta1⟩ := rf1_2 hW0 ta0
  obtain ⟨v3, c4⟩ : ∃ v, I0 a1 1 = v := ⟨_, rfl⟩
  have b5 := iv2_1 hW0 ta1 c4
  refine tr_iload_n dX10_isHut_0 rfl ?_
  refine q_if_lt 19 dX10_isHut_1 (by decide) (fun h6 => ?_) (fun h6 => ?_)
  · skip
    refine q_iconst dX10_isHut_19 (by decide) ?_
    intro v7 h8
    exact tr_zret hZ dX10_isHut_20 rfl (ti_b01 (by omega) (by omega)) (by decide) (by decide) ⟨v7, rfl, rfl, rfl, rfl, rfl, rfl, rfl, (by omega), (fun q0 z0 => by obtain rfl := Option.some.inj ((d2).symm.trans z0); (try rw [c4]); first | done | with_reducible assumption | omega), (fun q0 z0 => by obtain rfl := Option.some.inj ((d2).symm.trans z0); (try rw [c4]); first | done | with_reducible assumption | omega), trivial⟩
  · skip
    refine tr_iload_n dX10_isHut_4 rfl ?_
    refine tr_aload_n dX10_isHut_5 rfl ?_
    refine tr_getR dX10_isHut_6 fl10_16 (kR1 hW0 ta0) d2 ?_
    refine q_getI dX10_isHut_9 fl10_332 (kR2 hW0 ta1) c4 ?_
    refine q_icmp_ge 19 dX10_isHut_12 (by decide) (fun h9 => ?_) (fun h9 => ?_)
    · skip
      refine q_iconst dX10_isHut_19 (by decide) ?_
      intro v10 h11
      exact tr_zret hZ dX10_isHut_20 rfl (ti_b01 (by omega) (by omega)) (by decide) (by decide) ⟨v10, rfl, rfl, rfl, rfl, rfl, rfl, rfl, (by omega), (fun q0 z0 => by obtain rfl := Option.some.inj ((d2).symm.trans z0); (try rw [c4]); first | done | with_reducible assumption | omega), (fun q0 z0 => by obtain rfl := Option.some.inj ((d2).symm.trans z0); (try rw [c4]); first | done | with_reducible assumption | omega), trivial⟩
    · skip
      refine q_iconst dX10_isHut_15 (by decide) ?_
      intro v12 h13
      refine tr_goto 20 dX10_isHut_16 (by decide) ?_
      exact tr_zret hZ dX10_isHut_20 rfl (ti_b01 (by omega) (by omega)) (by decide) (by decide) ⟨v12, rfl, rfl, rfl, rfl, rfl, rfl, rfl, (by omega), (fun q0 z0 => by obtain rfl := Option.some.inj ((d2).symm.trans z0); (try rw [c4]); first | done | with_reducible assumption | omega), (fun q0 z0 => by obtain rfl := Option.some.inj ((d2).symm.trans z0); (try rw [c4]); first | done | with_reducible assumption | omega), trivial⟩
def wik_X10_light : List Nat := [73, 81, 768, 769, 778, 2303, 2367, 2431, 2495, 2559, 2623, 2687, 2751, 2815]
def wrk_X10_light : List Nat := []
def Cs_X10_light (T : Nat → Nat) (I0 : cz_I) (R0 : cz_R) (a0 : Nat) (gX : Nat → Nat → Int) (gE : Nat → Nat → Int) (gc : Nat → Int) (x1 : Int32) (x2 : Int32) (x3 : Int32) (v : Int32) (I' : cz_I) (R' : cz_R) : Prop :=
  ((∀ b1, R0 a0 2 = some b1 → (x1.toInt < 0 ∨ x1.toInt ≥ (I0 b1 1).toInt)) ∧ (v.toInt = -1) ∧ True) ∨
  ((0 ≤ x1.toInt) ∧ (∀ b1, R0 a0 2 = some b1 → x1.toInt < (I0 b1 1).toInt) ∧ (∀ b1, R0 a0 2 = some b1 → (x2.toInt < 0 ∨ x2.toInt ≥ (I0 b1 0).toInt)) ∧ (v.toInt = -1) ∧ True) ∨
  ((0 ≤ x1.toInt) ∧ (∀ b1, R0 a0 2 = some b1 → x1.toInt < (I0 b1 1).toInt) ∧ (0 ≤ x2.toInt) ∧ (∀ b1, R0 a0 2 = some b1 → x2.toInt < (I0 b1 0).toInt) ∧ (∀ al nw, R0 a0 2 = some al → R0 a0 6 = some nw → v.toInt = if x3.toInt = 1 then skS gX (-1) ((I0 al 3).toInt.toNat + (I0 nw 2).toInt.toNat) (I0 al 1).toInt x1.toInt x2.toInt else skL gX (-1) ((I0 al 3).toInt.toNat + (I0 nw 2).toInt.toNat) (I0 al 1).toInt x1.toInt x2.toInt) ∧ True)
set_option maxHeartbeats 4000000 in
theorem fk_X10_light {l : Launch} {T : Nat → Nat} {cn : Nat} {K N : Nat → Nat} {I0 : cz_I} {R0 : cz_R} {L0 : cz_L} {d : Int} (hW0 : Wf T cn K N I0 R0 d) (gX : Nat → Nat → Int) (gE : Nat → Nat → Int) (gc : Nat → Int) {a0 : Nat} (ta0 : T a0 = 1) {x1 : Int32} {x2 : Int32} {x3 : Int32} (hx3 : 0 ≤ x3.toInt ∧ x3.toInt ≤ 1) (hX : EvQ I0 R0 a0 gX) (hK : SkQ I0 R0 a0 gX) (hD : DjS R0 a0) (hEa : ∀ al, R0 a0 2 = some al → CVa I0 R0 al gc gE) (hGd : GdE gc gE) (hMs : ∀ nw, R0 a0 6 = some nw → 0 ≤ (I0 nw 0).toInt ∧ (I0 nw 0).toInt ≤ 63) (hNg : NgQ I0 R0 a0 gX gE gc) (hDn : DjN R0 a0) (h1 : 1 ≤ gc 0 ∨ ∀ i, gc i = 0) : ConE l mX10_light [.ref a0, .int x1, .int x2, .int x3] cn K N I0 R0 L0 (ca_i (fun v cn' K' N' I' R' L' => cn = cn' ∧ K = K' ∧ N = N' ∧ R0 = R' ∧ L0 = L' ∧ St T cn K N d wik_X10_light wrk_X10_light I0 R0 I' R0 ∧ (SkQ I' R0 a0 gX) ∧ (NgQ I' R0 a0 gX gE gc) ∧ Cs_X10_light T I0 R0 a0 gX gE gc x1 x2 x3 v I' R0 ∧ True)) := by
  refine ConE.of (by decide +kernel) rfl (Nat.le_of_ble_eq_true rfl) rfl (fun X hX hZ hE => ?_)
  subst hX
  have hS0 : St T cn K N d wik_X10_light wrk_X10_light I0 R0 I0 R0 := St.rf0 hW0
  obtain ⟨a1, d2, ta1⟩ := rf1_2 hW0 ta0
  obtain ⟨v3, c4⟩ : ∃ v, I0 a1 1 = v := ⟨_, rfl⟩
  have b5 := iv2_1 hW0 ta1 c4
  obtain ⟨v6, c7⟩ : ∃ v, I0 a1 0 = v := ⟨_, rfl⟩
  have b8 := iv2_0 hW0 ta1 c7
  obtain ⟨a9, d10, ta9⟩ := rf1_6 hW0 ta0
  obtain ⟨a11, d12, ta11⟩ := rf1_8 hW0 ta0
  obtain ⟨a13, d14, ta13⟩ := rf1_10 hW0 ta0
  obtain ⟨a15, d16, ta15⟩ := rf1_13 hW0 ta0
  obtain ⟨a17, d18, ta17⟩ := rf1_14 hW0 ta0
  obtain ⟨v19, c20⟩ : ∃ v, I0 a1 3 = v := ⟨_, rfl⟩
  have b21 := iv2_3 hW0 ta1 c20
  refine tr_aload_n dX10_light_0 rfl ?_
  refine tr_iload_n dX10_light_1 rfl ?_
  refine q_callVi hE (M' := mX10_isHut) (as := [_]) dX10_light_2 lk10_126 inX10_isHut seX10_isHut myX10_isHut (by decide) ⟨by decide, by decide⟩ rfl (kR1 hS0.1 ta0) (Nat.le_of_ble_eq_true rfl) rfl rfl (by decide) (by decide) (fk_X10_isHut hS0.1  ta0) ?_
  rintro v27 cn' K' N' I22 R23 L24 ⟨rfl, rfl, rfl, rfl, rfl, rfl, h28, p29, p30, -⟩
  have p31 := p29 _ d2
  clear p29
  rw [c4] at p31
  have p32 := p30 _ d2
  clear p30
  rw [c4] at p32
  refine q_if_ne 14 dX10_light_5 (by decide) (fun h33 => ?_) (fun h33 => ?_)
  · skip
    refine tr_aload_n dX10_light_14 rfl ?_
    refine tr_iload_n dX10_light_15 rfl ?_
    refine q_callVi hE (M' := mX10_isMinute) (as := [_]) dX10_light_16 lk10_115 inX10_isMinute seX10_isMinute myX10_isMinute (by decide) ⟨by decide, by decide⟩ rfl (kR1 hS0.1 ta0) (Nat.le_of_ble_eq_true rfl) rfl rfl (by decide) (by decide) (fk_X10_isMinute hS0.1  ta0) ?_
    rintro v39 cn' K' N' I34 R35 L36 ⟨rfl, rfl, rfl, rfl, rfl, rfl, h40, p41, p42, -⟩
    have p43 := p41 _ d2
    clear p41
    rw [c7] at p43
    have p44 := p42 _ d2
    clear p42
    rw [c7] at p44
    refine q_if_ne 28 dX10_light_19 (by decide) (fun h45 => ?_) (fun h45 => ?_)
    · skip
      refine tr_aload_n dX10_light_28 rfl ?_
      refine q_callVr hE (M' := mX10_presentSky) (as := []) dX10_light_29 lk10_119 inX10_presentSky seX10_presentSky myX10_presentSky (by decide) ⟨by decide, by decide⟩ rfl (kR1 hS0.1 ta0) (Nat.le_of_ble_eq_true rfl) rfl rfl (by decide) (by decide) (fk_X10_presentSky hS0.1 (gX) (gE) (gc) ta0 hX hK hD (fun al ha => hEa al ha) hGd hMs hNg hDn h1) ?_
      rintro a51 cn' K' N' I46 R47 L48 ⟨rfl, rfl, rfl, rfl, rfl, g49, ta51, p52, rp53, rp54, rp55, rp56, rp57, -⟩
      have hS58 := hS0.tr g49 (by decide +kernel) (by decide +kernel)
      obtain ⟨v59, c60⟩ : ∃ v, I46 a0 9 = v := ⟨_, rfl⟩
      have b61 := iv1_9 hS58.1 ta0 c60
      rw [c60] at p52
      have hz62 := rp55 _ _ _ rp53 d2 d10
      refine tr_astore dX10_light_32 (by decide) (by decide) ?_
      refine tr_iload_n dX10_light_34 rfl ?_
      refine q_if_eq 46 dX10_light_35 (by decide) (fun h63 => ?_) (fun h63 => ?_)
      · skip
        refine tr_aload dX10_light_46 rfl ?_
        obtain ⟨a64, d65, ta64⟩ := rf12_6 hW0 ta51
        refine tr_getR dX10_light_48 fl10_133 (kR12 hS58.1 ta51) d65 ?_
        refine tr_astore dX10_light_51 (by decide) (by decide) ?_
        refine tr_aload_n dX10_light_53 rfl ?_
        refine tr_aload dX10_light_54 rfl ?_
        refine tr_iload_n dX10_light_56 rfl ?_
        refine q_iald dX10_light_57 (kR39 hS58.1 ta64) (ti_in (nR39 hS58.1 ta64) (by omega) (by omega)) ?_
        intro v66 c67
        have hb68 := hz62.2.2.2.2.1 _ d65 x2.toInt.toNat (by rw [c7]; omega)
        rw [show I46 a64 x2.toInt.toNat = v66 from c67] at hb68
        have hb68r := And.intro hb68.1 hb68.2.1
        refine tr_iload_n dX10_light_58 rfl ?_
        refine q_callSi hE (M' := mX10_bit) (as := [_, _]) dX10_light_59 lk10_136 inX10_bit myX10_bit ⟨by decide, by decide⟩ rfl (Nat.le_of_ble_eq_true rfl) rfl rfl (by decide) (by decide) (f_X10_bitX   (by omega) (by omega)) ?_
        rintro v74 cn' K' N' I69 R70 L71 ⟨rfl, rfl, rfl, rfl, rfl, rfl, p75, -⟩
        have btv74 := bt_01 v66.toInt x1.toInt
        refine q_callVi hE (M' := mX10_answered) (as := [_]) dX10_light_62 lk10_109 inX10_answered seX10_answered myX10_answered (by decide) ⟨by decide, by decide⟩ rfl (kR1 hS58.1 ta0) (Nat.le_of_ble_eq_true rfl) rfl rfl (by decide) (by decide) (fk_X10_answered hS58.1  ta0) ?_
        rintro v81 cn' K' N' I76 R77 L78 ⟨rfl, rfl, rfl, rfl, rfl, g79, p82, p83, -⟩
        have hS84 := hS58.tr g79 (by decide +kernel) (by decide +kernel)
        have c85 : I76 a0 9 = v59 := (g79.cell ta0 (by decide +kernel)).trans c60
        obtain ⟨v86, c87⟩ : ∃ v, I76 a0 17 = v := ⟨_, rfl⟩
        rw [c87] at p83
        exact tr_iret hZ dX10_light_65 rfl (by decide) (by decide) ⟨v81, rfl, rfl, rfl, rfl, rfl, rfl, hS84, (SkQ.st (SkQ.of rp54) hW0 ta0 g79 (by decide +kernel) (by decide +kernel)), (NgQ.st rp57 hW0 ta0 g79 (by decide +kernel) (by decide +kernel) (by decide +kernel)), (Or.inr (Or.inr (⟨(by first | done | with_reducible assumption | omega), (fun q0 z0 => by obtain rfl := Option.some.inj ((d2).symm.trans z0); (try rw [c4]); first | done | with_reducible assumption | omega), (by first | done | with_reducible assumption | omega), (fun q0 z0 => by obtain rfl := Option.some.inj ((d2).symm.trans z0); (try rw [c7]); first | done | with_reducible assumption | omega), (fun al nw h2 h6 => by obtain rfl := Option.some.inj (d2.symm.trans h2); obtain rfl := Option.some.inj (d10.symm.trans h6); have e : bt _ _ = skL _ _ _ _ _ _ := hb68.2.2 x1.toInt.toNat (by omega); rw [show ((x1.toInt.toNat : Nat) : Int) = x1.toInt by omega] at e; rw [if_neg (by omega)]; rw [show ((x2.toInt.toNat : Nat) : Int) = x2.toInt by omega] at e; omega), trivial⟩))), trivial⟩
      · skip
        refine tr_aload dX10_light_38 rfl ?_
        obtain ⟨a88, d89, ta88⟩ := rf12_7 hW0 ta51
        refine tr_getR dX10_light_40 fl10_129 (kR12 hS58.1 ta51) d89 ?_
        refine tr_goto 51 dX10_light_43 (by decide) ?_
        refine tr_astore dX10_light_51 (by decide) (by decide) ?_
        refine tr_aload_n dX10_light_53 rfl ?_
        refine tr_aload dX10_light_54 rfl ?_
        refine tr_iload_n dX10_light_56 rfl ?_
        refine q_iald dX10_light_57 (kR40 hS58.1 ta88) (ti_in (nR40 hS58.1 ta88) (by omega) (by omega)) ?_
        intro v90 c91
        have hb92 := hz62.2.2.2.2.2.1 _ d89 x2.toInt.toNat (by rw [c7]; omega)
        rw [show I46 a88 x2.toInt.toNat = v90 from c91] at hb92
        have hb92r := And.intro hb92.1 hb92.2.1
        refine tr_iload_n dX10_light_58 rfl ?_
        refine q_callSi hE (M' := mX10_bit) (as := [_, _]) dX10_light_59 lk10_136 inX10_bit myX10_bit ⟨by decide, by decide⟩ rfl (Nat.le_of_ble_eq_true rfl) rfl rfl (by decide) (by decide) (f_X10_bitX   (by omega) (by omega)) ?_
        rintro v98 cn' K' N' I93 R94 L95 ⟨rfl, rfl, rfl, rfl, rfl, rfl, p99, -⟩
        have btv98 := bt_01 v90.toInt x1.toInt
        refine q_callVi hE (M' := mX10_answered) (as := [_]) dX10_light_62 lk10_109 inX10_answered seX10_answered myX10_answered (by decide) ⟨by decide, by decide⟩ rfl (kR1 hS58.1 ta0) (Nat.le_of_ble_eq_true rfl) rfl rfl (by decide) (by decide) (fk_X10_answered hS58.1  ta0) ?_
        rintro v105 cn' K' N' I100 R101 L102 ⟨rfl, rfl, rfl, rfl, rfl, g103, p106, p107, -⟩
        have hS108 := hS58.tr g103 (by decide +kernel) (by decide +kernel)
        have c109 : I100 a0 9 = v59 := (g103.cell ta0 (by decide +kernel)).trans c60
        obtain ⟨v110, c111⟩ : ∃ v, I100 a0 17 = v := ⟨_, rfl⟩
        rw [c111] at p107
        exact tr_iret hZ dX10_light_65 rfl (by decide) (by decide) ⟨v105, rfl, rfl, rfl, rfl, rfl, rfl, hS108, (SkQ.st (SkQ.of rp54) hW0 ta0 g103 (by decide +kernel) (by decide +kernel)), (NgQ.st rp57 hW0 ta0 g103 (by decide +kernel) (by decide +kernel) (by decide +kernel)), (Or.inr (Or.inr (⟨(by first | done | with_reducible assumption | omega), (fun q0 z0 => by obtain rfl := Option.some.inj ((d2).symm.trans z0); (try rw [c4]); first | done | with_reducible assumption | omega), (by first | done | with_reducible assumption | omega), (fun q0 z0 => by obtain rfl := Option.some.inj ((d2).symm.trans z0); (try rw [c7]); first | done | with_reducible assumption | omega), (fun al nw h2 h6 => by obtain rfl := Option.some.inj (d2.symm.trans h2); obtain rfl := Option.some.inj (d10.symm.trans h6); have e : bt _ _ = (if _ then _ else _) := hb92.2.2 x1.toInt.toNat (by omega); rw [show ((x1.toInt.toNat : Nat) : Int) = x1.toInt by omega] at e; rw [if_pos (show ((x2.toInt.toNat : Nat) : Int) < _ by rw [c7]; omega)] at e; rw [if_pos (by omega)]; rw [show ((x2.toInt.toNat : Nat) : Int) = x2.toInt by omega] at e; omega), trivial⟩))), trivial⟩
    · skip
      refine tr_aload_n dX10_light_22 rfl ?_
      refine q_iconst dX10_light_23 (by decide) ?_
      intro v112 h113
      refine q_callVi hE (M' := mX10_refused) (as := [_]) dX10_light_24 lk10_79 inX10_refused seX10_refused myX10_refused (by decide) ⟨by decide, by decide⟩ rfl (kR1 hS0.1 ta0) (Nat.le_of_ble_eq_true rfl) rfl rfl (by decide) (by decide) (fk_X10_refused hS0.1  ta0) ?_
      rintro v119 cn' K' N' I114 R115 L116 ⟨rfl, rfl, rfl, rfl, rfl, g117, p120, p121, -⟩
      have hS122 := hS0.tr g117 (by decide +kernel) (by decide +kernel)
      obtain ⟨v123, c124⟩ : ∃ v, I114 a0 17 = v := ⟨_, rfl⟩
      rw [c124] at p121
      exact tr_iret hZ dX10_light_27 rfl (by decide) (by decide) ⟨v119, rfl, rfl, rfl, rfl, rfl, rfl, hS122, (SkQ.st hK hW0 ta0 g117 (by decide +kernel) (by decide +kernel)), (NgQ.st hNg hW0 ta0 g117 (by decide +kernel) (by decide +kernel) (by decide +kernel)), (by first | exact Or.inl ⟨(fun q0 z0 => by obtain rfl := Option.some.inj ((d2).symm.trans z0); (try rw [c4]); first | done | with_reducible assumption | omega), (by first | done | with_reducible assumption | omega), trivial⟩ | exact Or.inr (Or.inl ⟨(by first | done | with_reducible assumption | omega), (fun q0 z0 => by obtain rfl := Option.some.inj ((d2).symm.trans z0); (try rw [c4]); first | done | with_reducible assumption | omega), (fun q0 z0 => by obtain rfl := Option.some.inj ((d2).symm.trans z0); (try rw [c7]); first | done | with_reducible assumption | omega), (by first | done | with_reducible assumption | omega), trivial⟩) | exact Or.inr (Or.inr (⟨(by first | done | with_reducible assumption | omega), (fun q0 z0 => by obtain rfl := Option.some.inj ((d2).symm.trans z0); (try rw [c4]); first | done | with_reducible assumption | omega), (by first | done | with_reducible assumption | omega), (fun q0 z0 => by obtain rfl := Option.some.inj ((d2).symm.trans z0); (try rw [c7]); first | done | with_reducible assumption | omega), (by exfalso; omega), trivial⟩))), trivial⟩
  · skip
    refine tr_aload_n dX10_light_8 rfl ?_
    refine q_iconst dX10_light_9 (by decide) ?_
    intro v125 h126
    refine q_callVi hE (M' := mX10_refused) (as := [_]) dX10_light_10 lk10_79 inX10_refused seX10_refused myX10_refused (by decide) ⟨by decide, by decide⟩ rfl (kR1 hS0.1 ta0) (Nat.le_of_ble_eq_true rfl) rfl rfl (by decide) (by decide) (fk_X10_refused hS0.1  ta0) ?_
    rintro v132 cn' K' N' I127 R128 L129 ⟨rfl, rfl, rfl, rfl, rfl, g130, p133, p134, -⟩
    have hS135 := hS0.tr g130 (by decide +kernel) (by decide +kernel)
    obtain ⟨v136, c137⟩ : ∃ v, I127 a0 17 = v := ⟨_, rfl⟩
    rw [c137] at p134
    exact tr_iret hZ dX10_light_13 rfl (by decide) (by decide) ⟨v132, rfl, rfl, rfl, rfl, rfl, rfl, hS135, (SkQ.st hK hW0 ta0 g130 (by decide +kernel) (by decide +kernel)), (NgQ.st hNg hW0 ta0 g130 (by decide +kernel) (by decide +kernel) (by decide +kernel)), (by first | exact Or.inl ⟨(fun q0 z0 => by obtain rfl := Option.some.inj ((d2).symm.trans z0); (try rw [c4]); first | done | with_reducible assumption | omega), (by first | done | with_reducible assumption | omega), trivial⟩ | exact Or.inr (Or.inl ⟨(by first | done | with_reducible assumption | omega), (fun q0 z0 => by obtain rfl := Option.some.inj ((d2).symm.trans z0); (try rw [c4]); first | done | with_reducible assumption | omega), (fun q0 z0 => by obtain rfl := Option.some.inj ((d2).symm.trans z0); (try rw [c7]); first | done | with_reducible assumption | omega), (by first | done | with_reducible assumption | omega), trivial⟩) | exact Or.inr (Or.inr (⟨(by first | done | with_reducible assumption | omega), (fun q0 z0 => by obtain rfl := Option.some.inj ((d2).symm.trans z0); (try rw [c4]); first | done | with_reducible assumption | omega), (by first | done | with_reducible assumption | omega), (fun q0 z0 => by obtain rfl := Option.some.inj ((d2).symm.trans z0); (try rw [c7]); first | done | with_reducible assumption | omega), (by exfalso; omega), trivial⟩))), trivial⟩
def wik_X10_changes : List Nat := [73, 81, 768, 769, 778, 2303, 2367, 2431, 2495, 2559, 2623, 2687, 2751, 2815]
def wrk_X10_changes : List Nat := []
def Cs_X10_changes (T : Nat → Nat) (I0 : cz_I) (R0 : cz_R) (a0 : Nat) (gX : Nat → Nat → Int) (gE : Nat → Nat → Int) (gc : Nat → Int) (x1 : Int32) (x2 : Int32) (v : Int32) (I' : cz_I) (R' : cz_R) : Prop :=
  ((∀ b1, R0 a0 2 = some b1 → (x1.toInt < 0 ∨ x1.toInt ≥ (I0 b1 1).toInt)) ∧ (v.toInt = -1) ∧ True) ∨
  ((0 ≤ x1.toInt) ∧ (∀ b1, R0 a0 2 = some b1 → x1.toInt < (I0 b1 1).toInt) ∧ (∀ al nw, R0 a0 2 = some al → R0 a0 6 = some nw → v.toInt = if x2.toInt = 1 then cnM (fun k => skT gX (-1) ((I0 al 3).toInt.toNat + (I0 nw 2).toInt.toNat) (I0 al 1).toInt x1.toInt (k : Int)) (I0 al 0).toInt.toNat else cnM (fun k => skC gX (-1) ((I0 al 3).toInt.toNat + (I0 nw 2).toInt.toNat) (I0 al 1).toInt x1.toInt (k : Int)) (I0 al 0).toInt.toNat) ∧ True)
set_option maxHeartbeats 4000000 in
theorem fk_X10_changes {l : Launch} {T : Nat → Nat} {cn : Nat} {K N : Nat → Nat} {I0 : cz_I} {R0 : cz_R} {L0 : cz_L} {d : Int} (hW0 : Wf T cn K N I0 R0 d) (gX : Nat → Nat → Int) (gE : Nat → Nat → Int) (gc : Nat → Int) {a0 : Nat} (ta0 : T a0 = 1) {x1 : Int32} {x2 : Int32} (hx2 : 0 ≤ x2.toInt ∧ x2.toInt ≤ 1) (hX : EvQ I0 R0 a0 gX) (hK : SkQ I0 R0 a0 gX) (hD : DjS R0 a0) (hEa : ∀ al, R0 a0 2 = some al → CVa I0 R0 al gc gE) (hGd : GdE gc gE) (hMs : ∀ nw, R0 a0 6 = some nw → 0 ≤ (I0 nw 0).toInt ∧ (I0 nw 0).toInt ≤ 63) (hNg : NgQ I0 R0 a0 gX gE gc) (hDn : DjN R0 a0) (h1 : 1 ≤ gc 0 ∨ ∀ i, gc i = 0) : ConE l mX10_changes [.ref a0, .int x1, .int x2] cn K N I0 R0 L0 (ca_i (fun v cn' K' N' I' R' L' => cn = cn' ∧ K = K' ∧ N = N' ∧ R0 = R' ∧ L0 = L' ∧ St T cn K N d wik_X10_changes wrk_X10_changes I0 R0 I' R0 ∧ (SkQ I' R0 a0 gX) ∧ (NgQ I' R0 a0 gX gE gc) ∧ Cs_X10_changes T I0 R0 a0 gX gE gc x1 x2 v I' R0 ∧ True)) := by
  refine ConE.of (by decide +kernel) rfl (Nat.le_of_ble_eq_true rfl) rfl (fun X hX hZ hE => ?_)
  subst hX
  have hS0 : St T cn K N d wik_X10_changes wrk_X10_changes I0 R0 I0 R0 := St.rf0 hW0
  obtain ⟨a1, d2, ta1⟩ := rf1_2 hW0 ta0
  obtain ⟨v3, c4⟩ : ∃ v, I0 a1 1 = v := ⟨_, rfl⟩
  have b5 := iv2_1 hW0 ta1 c4
  obtain ⟨v6, c7⟩ : ∃ v, I0 a1 0 = v := ⟨_, rfl⟩
  have b8 := iv2_0 hW0 ta1 c7
  obtain ⟨a9, d10, ta9⟩ := rf1_6 hW0 ta0
  obtain ⟨a11, d12, ta11⟩ := rf1_8 hW0 ta0
  obtain ⟨a13, d14, ta13⟩ := rf1_10 hW0 ta0
  obtain ⟨a15, d16, ta15⟩ := rf1_13 hW0 ta0
  obtain ⟨a17, d18, ta17⟩ := rf1_14 hW0 ta0
  obtain ⟨v19, c20⟩ : ∃ v, I0 a1 3 = v := ⟨_, rfl⟩
  have b21 := iv2_3 hW0 ta1 c20
  refine tr_aload_n dX10_changes_0 rfl ?_
  refine tr_iload_n dX10_changes_1 rfl ?_
  refine q_callVi hE (M' := mX10_isHut) (as := [_]) dX10_changes_2 lk10_126 inX10_isHut seX10_isHut myX10_isHut (by decide) ⟨by decide, by decide⟩ rfl (kR1 hS0.1 ta0) (Nat.le_of_ble_eq_true rfl) rfl rfl (by decide) (by decide) (fk_X10_isHut hS0.1  ta0) ?_
  rintro v27 cn' K' N' I22 R23 L24 ⟨rfl, rfl, rfl, rfl, rfl, rfl, h28, p29, p30, -⟩
  have p31 := p29 _ d2
  clear p29
  rw [c4] at p31
  have p32 := p30 _ d2
  clear p30
  rw [c4] at p32
  refine q_if_ne 14 dX10_changes_5 (by decide) (fun h33 => ?_) (fun h33 => ?_)
  · skip
    refine tr_aload_n dX10_changes_14 rfl ?_
    refine q_callVr hE (M' := mX10_presentSky) (as := []) dX10_changes_15 lk10_119 inX10_presentSky seX10_presentSky myX10_presentSky (by decide) ⟨by decide, by decide⟩ rfl (kR1 hS0.1 ta0) (Nat.le_of_ble_eq_true rfl) rfl rfl (by decide) (by decide) (fk_X10_presentSky hS0.1 (gX) (gE) (gc) ta0 hX hK hD (fun al ha => hEa al ha) hGd hMs hNg hDn h1) ?_
    rintro a39 cn' K' N' I34 R35 L36 ⟨rfl, rfl, rfl, rfl, rfl, g37, ta39, p40, rp41, rp42, rp43, rp44, rp45, -⟩
    have hS46 := hS0.tr g37 (by decide +kernel) (by decide +kernel)
    obtain ⟨v47, c48⟩ : ∃ v, I34 a0 9 = v := ⟨_, rfl⟩
    have b49 := iv1_9 hS46.1 ta0 c48
    rw [c48] at p40
    have hz50 := rp43 _ _ _ rp41 d2 d10
    refine tr_astore_n dX10_changes_18 (by decide) (by decide) ?_
    refine tr_iload_n dX10_changes_19 rfl ?_
    refine q_if_eq 30 dX10_changes_20 (by decide) (fun h51 => ?_) (fun h51 => ?_)
    · skip
      refine tr_aload_n dX10_changes_30 rfl ?_
      obtain ⟨a52, d53, ta52⟩ := rf12_8 hW0 ta39
      refine tr_getR dX10_changes_31 fl10_143 (kR12 hS46.1 ta39) d53 ?_
      refine tr_astore dX10_changes_34 (by decide) (by decide) ?_
      refine q_iconst dX10_changes_36 (by decide) ?_
      intro v54 h55
      refine tr_istore dX10_changes_37 (by decide) (by decide) ?_
      refine q_iconst dX10_changes_39 (by decide) ?_
      intro v56 h57
      refine tr_istore dX10_changes_40 (by decide) (by decide) ?_
      have lp77 : ∀ (fu : Nat) (ls : Nat → Option Value) (v58 : Int32) (v59 : Int32) (I67 : cz_I), ls 0 = some (.ref a0) → ls 1 = some (.int x1) → ls 2 = some (.int x2) → ls 3 = some (.ref a39) → ls 4 = some (.ref a52) → ls 5 = some (.int v58) → ls 6 = some (.int v59) → St T cn K N d wik_X10_changes wrk_X10_changes I0 R0 I67 R0 → v59.toInt ≤ v6.toInt → 0 ≤ v58.toInt → v58.toInt ≤ v59.toInt → v58.toInt ≤ 240 → (v58.toInt = cnM (fun k => skC gX (-1) ((I0 a1 3).toInt.toNat + (I0 a9 2).toInt.toNat) (I0 a1 1).toInt x1.toInt (k : Int)) v59.toInt.toNat) → (SkF I67 R0 a39 (I0 a1 0).toInt (I0 a1 1).toInt (-1) gX ((I0 a1 3).toInt.toNat + (I0 a9 2).toInt.toNat) (I0 a1 0).toInt) → (SkQ I67 R0 a0 gX) → (NgQ I67 R0 a0 gX gE gc) → (-v59.toInt + 2147483647).toNat < fu → Tr X mX10_changes 42 ls [] cn K N I67 R0 L0 0 0 := by
        intro fu
        induction fu with
        | zero => intros; rename_i hz; exact absurd hz (Nat.not_lt_zero _)
        | succ fu ih77 =>
          intro ls v58 v59 I67 hl60 hl61 hl62 hl63 hl64 hl65 hl66 hS68 g69 g70 g71 g72 rw73 rw74 rw75 rw76 hm77
          refine tr_iload dX10_changes_42 hl66 ?_
          refine tr_aload_n dX10_changes_44 hl60 ?_
          refine tr_getR dX10_changes_45 fl10_16 (kR1 hS68.1 ta0) d2 ?_
          refine q_getI dX10_changes_48 fl10_146 (kR2 hS68.1 ta1) ((hS68.cell ta1 (by decide +kernel)).trans c7) ?_
          refine q_icmp_ge 74 dX10_changes_51 (by decide) (fun h79 => ?_) (fun h79 => ?_)
          · skip
            refine tr_aload_n dX10_changes_74 hl60 ?_
            refine tr_iload dX10_changes_75 hl65 ?_
            refine q_callVi hE (M' := mX10_answered) (as := [_]) dX10_changes_77 lk10_109 inX10_answered seX10_answered myX10_answered (by decide) ⟨by decide, by decide⟩ rfl (kR1 hS68.1 ta0) (Nat.le_of_ble_eq_true rfl) rfl rfl (by decide) (by decide) (fk_X10_answered hS68.1  ta0) ?_
            rintro v85 cn' K' N' I80 R81 L82 ⟨rfl, rfl, rfl, rfl, rfl, g83, p86, p87, -⟩
            have hS88 := hS68.tr g83 (by decide +kernel) (by decide +kernel)
            obtain ⟨v89, c90⟩ : ∃ v, I80 a0 17 = v := ⟨_, rfl⟩
            rw [c90] at p87
            exact tr_iret hZ dX10_changes_80 rfl (by decide) (by decide) ⟨v85, rfl, rfl, rfl, rfl, rfl, rfl, hS88, (SkQ.st rw75 hW0 ta0 g83 (by decide +kernel) (by decide +kernel)), (NgQ.st rw76 hS68.1 ta0 g83 (by decide +kernel) (by decide +kernel) (by decide +kernel)), (Or.inr (⟨(by first | done | with_reducible assumption | omega), (fun q0 z0 => by obtain rfl := Option.some.inj ((d2).symm.trans z0); (try rw [c4]); first | done | with_reducible assumption | omega), (fun al nw h2 h6 => by obtain rfl := Option.some.inj (d2.symm.trans h2); obtain rfl := Option.some.inj (d10.symm.trans h6); rw [if_neg (by omega)]; have w := rw73; rw [show v59.toInt.toNat = (I0 a1 0).toInt.toNat from congrArg Int.toNat (by rw [c7]; omega)] at w; omega), trivial⟩)), trivial⟩
          · skip
            refine tr_iload dX10_changes_54 hl65 ?_
            refine tr_aload dX10_changes_56 hl64 ?_
            refine tr_iload dX10_changes_58 hl66 ?_
            refine q_iald dX10_changes_60 (kR41 hS68.1 ta52) (ti_in (nR41 hS68.1 ta52) (by omega) (by omega)) ?_
            intro v91 c92
            have hb93 := rw74.2.2.2.2.2.2.1 _ d53 v59.toInt.toNat (by rw [c7]; omega)
            rw [show I67 a52 v59.toInt.toNat = v91 from c92] at hb93
            have hb93r := And.intro hb93.1 hb93.2.1
            refine tr_iload_n dX10_changes_61 hl61 ?_
            refine q_callSi hE (M' := mX10_bit) (as := [_, _]) dX10_changes_62 lk10_136 inX10_bit myX10_bit ⟨by decide, by decide⟩ rfl (Nat.le_of_ble_eq_true rfl) rfl rfl (by decide) (by decide) (f_X10_bitX   (by omega) (by omega)) ?_
            rintro v99 cn' K' N' I94 R95 L96 ⟨rfl, rfl, rfl, rfl, rfl, rfl, p100, -⟩
            have btv99 := bt_01 v91.toInt x1.toInt
            refine q_iaddE dX10_changes_65 (by intros; omega) ?_
            intro v101 h102
            refine tr_istore dX10_changes_66 (by decide) (by decide) ?_
            refine q_iincE dX10_changes_68 hl66 (by decide) (by decide) (by intros; omega) ?_
            intro v103 h104
            refine tr_goto 42 dX10_changes_71 (by decide) ?_
            exact ih77 _ v101 v103 I67 hl60 hl61 hl62 hl63 hl64 rfl rfl hS68 (by omega) (by omega) (by omega) (by omega) (by have e : bt _ _ = skC _ _ _ _ _ _ := hb93.2.2 x1.toInt.toNat (by omega); rw [show ((x1.toInt.toNat : Nat) : Int) = x1.toInt by omega] at e; rw [show v103.toInt.toNat = v59.toInt.toNat + 1 by omega, cnM]; have w := rw73; omega) rw74 rw75 rw76 (by omega)
      exact lp77 _ _ v54 v56 I34 rfl rfl rfl rfl rfl rfl rfl hS46 (by omega) (by omega) (by omega) (by omega) (by rw [show v56.toInt.toNat = 0 by omega]; show _ = (0 : Int); omega) hz50 (SkQ.of rp42) rp45 (Nat.lt_succ_self _)
    · skip
      refine tr_aload_n dX10_changes_23 rfl ?_
      obtain ⟨a105, d106, ta105⟩ := rf12_9 hW0 ta39
      refine tr_getR dX10_changes_24 fl10_140 (kR12 hS46.1 ta39) d106 ?_
      refine tr_goto 34 dX10_changes_27 (by decide) ?_
      refine tr_astore dX10_changes_34 (by decide) (by decide) ?_
      refine q_iconst dX10_changes_36 (by decide) ?_
      intro v107 h108
      refine tr_istore dX10_changes_37 (by decide) (by decide) ?_
      refine q_iconst dX10_changes_39 (by decide) ?_
      intro v109 h110
      refine tr_istore dX10_changes_40 (by decide) (by decide) ?_
      have lp130 : ∀ (fu : Nat) (ls : Nat → Option Value) (v111 : Int32) (v112 : Int32) (I120 : cz_I), ls 0 = some (.ref a0) → ls 1 = some (.int x1) → ls 2 = some (.int x2) → ls 3 = some (.ref a39) → ls 4 = some (.ref a105) → ls 5 = some (.int v111) → ls 6 = some (.int v112) → St T cn K N d wik_X10_changes wrk_X10_changes I0 R0 I120 R0 → v112.toInt ≤ v6.toInt → 0 ≤ v111.toInt → v111.toInt ≤ v112.toInt → v111.toInt ≤ 240 → (v111.toInt = cnM (fun k => skT gX (-1) ((I0 a1 3).toInt.toNat + (I0 a9 2).toInt.toNat) (I0 a1 1).toInt x1.toInt (k : Int)) v112.toInt.toNat) → (SkF I120 R0 a39 (I0 a1 0).toInt (I0 a1 1).toInt (-1) gX ((I0 a1 3).toInt.toNat + (I0 a9 2).toInt.toNat) (I0 a1 0).toInt) → (SkQ I120 R0 a0 gX) → (NgQ I120 R0 a0 gX gE gc) → (-v112.toInt + 2147483647).toNat < fu → Tr X mX10_changes 42 ls [] cn K N I120 R0 L0 0 0 := by
        intro fu
        induction fu with
        | zero => intros; rename_i hz; exact absurd hz (Nat.not_lt_zero _)
        | succ fu ih130 =>
          intro ls v111 v112 I120 hl113 hl114 hl115 hl116 hl117 hl118 hl119 hS121 g122 g123 g124 g125 rw126 rw127 rw128 rw129 hm130
          refine tr_iload dX10_changes_42 hl119 ?_
          refine tr_aload_n dX10_changes_44 hl113 ?_
          refine tr_getR dX10_changes_45 fl10_16 (kR1 hS121.1 ta0) d2 ?_
          refine q_getI dX10_changes_48 fl10_146 (kR2 hS121.1 ta1) ((hS121.cell ta1 (by decide +kernel)).trans c7) ?_
          refine q_icmp_ge 74 dX10_changes_51 (by decide) (fun h132 => ?_) (fun h132 => ?_)
          · skip
            refine tr_aload_n dX10_changes_74 hl113 ?_
            refine tr_iload dX10_changes_75 hl118 ?_
            refine q_callVi hE (M' := mX10_answered) (as := [_]) dX10_changes_77 lk10_109 inX10_answered seX10_answered myX10_answered (by decide) ⟨by decide, by decide⟩ rfl (kR1 hS121.1 ta0) (Nat.le_of_ble_eq_true rfl) rfl rfl (by decide) (by decide) (fk_X10_answered hS121.1  ta0) ?_
            rintro v138 cn' K' N' I133 R134 L135 ⟨rfl, rfl, rfl, rfl, rfl, g136, p139, p140, -⟩
            have hS141 := hS121.tr g136 (by decide +kernel) (by decide +kernel)
            obtain ⟨v142, c143⟩ : ∃ v, I133 a0 17 = v := ⟨_, rfl⟩
            rw [c143] at p140
            exact tr_iret hZ dX10_changes_80 rfl (by decide) (by decide) ⟨v138, rfl, rfl, rfl, rfl, rfl, rfl, hS141, (SkQ.st rw128 hW0 ta0 g136 (by decide +kernel) (by decide +kernel)), (NgQ.st rw129 hS121.1 ta0 g136 (by decide +kernel) (by decide +kernel) (by decide +kernel)), (Or.inr (⟨(by first | done | with_reducible assumption | omega), (fun q0 z0 => by obtain rfl := Option.some.inj ((d2).symm.trans z0); (try rw [c4]); first | done | with_reducible assumption | omega), (fun al nw h2 h6 => by obtain rfl := Option.some.inj (d2.symm.trans h2); obtain rfl := Option.some.inj (d10.symm.trans h6); rw [if_pos (by omega)]; have w := rw126; rw [show v112.toInt.toNat = (I0 a1 0).toInt.toNat from congrArg Int.toNat (by rw [c7]; omega)] at w; omega), trivial⟩)), trivial⟩
          · skip
            refine tr_iload dX10_changes_54 hl118 ?_
            refine tr_aload dX10_changes_56 hl117 ?_
            refine tr_iload dX10_changes_58 hl119 ?_
            refine q_iald dX10_changes_60 (kR42 hS121.1 ta105) (ti_in (nR42 hS121.1 ta105) (by omega) (by omega)) ?_
            intro v144 c145
            have hb146 := rw127.2.2.2.2.2.2.2 _ d106 v112.toInt.toNat (by rw [c7]; omega)
            rw [show I120 a105 v112.toInt.toNat = v144 from c145] at hb146
            have hb146r := And.intro hb146.1 hb146.2.1
            refine tr_iload_n dX10_changes_61 hl114 ?_
            refine q_callSi hE (M' := mX10_bit) (as := [_, _]) dX10_changes_62 lk10_136 inX10_bit myX10_bit ⟨by decide, by decide⟩ rfl (Nat.le_of_ble_eq_true rfl) rfl rfl (by decide) (by decide) (f_X10_bitX   (by omega) (by omega)) ?_
            rintro v152 cn' K' N' I147 R148 L149 ⟨rfl, rfl, rfl, rfl, rfl, rfl, p153, -⟩
            have btv152 := bt_01 v144.toInt x1.toInt
            refine q_iaddE dX10_changes_65 (by intros; omega) ?_
            intro v154 h155
            refine tr_istore dX10_changes_66 (by decide) (by decide) ?_
            refine q_iincE dX10_changes_68 hl119 (by decide) (by decide) (by intros; omega) ?_
            intro v156 h157
            refine tr_goto 42 dX10_changes_71 (by decide) ?_
            exact ih130 _ v154 v156 I120 hl113 hl114 hl115 hl116 hl117 rfl rfl hS121 (by omega) (by omega) (by omega) (by omega) (by have e : bt _ _ = skT _ _ _ _ _ _ := hb146.2.2 x1.toInt.toNat (by omega); rw [show ((x1.toInt.toNat : Nat) : Int) = x1.toInt by omega] at e; rw [show v156.toInt.toNat = v112.toInt.toNat + 1 by omega, cnM]; have w := rw126; omega) rw127 rw128 rw129 (by omega)
      exact lp130 _ _ v107 v109 I34 rfl rfl rfl rfl rfl rfl rfl hS46 (by omega) (by omega) (by omega) (by omega) (by rw [show v109.toInt.toNat = 0 by omega]; show _ = (0 : Int); omega) hz50 (SkQ.of rp42) rp45 (Nat.lt_succ_self _)
  · skip
    refine tr_aload_n dX10_changes_8 rfl ?_
    refine q_iconst dX10_changes_9 (by decide) ?_
    intro v158 h159
    refine q_callVi hE (M' := mX10_refused) (as := [_]) dX10_changes_10 lk10_79 inX10_refused seX10_refused myX10_refused (by decide) ⟨by decide, by decide⟩ rfl (kR1 hS0.1 ta0) (Nat.le_of_ble_eq_true rfl) rfl rfl (by decide) (by decide) (fk_X10_refused hS0.1  ta0) ?_
    rintro v165 cn' K' N' I160 R161 L162 ⟨rfl, rfl, rfl, rfl, rfl, g163, p166, p167, -⟩
    have hS168 := hS0.tr g163 (by decide +kernel) (by decide +kernel)
    obtain ⟨v169, c170⟩ : ∃ v, I160 a0 17 = v := ⟨_, rfl⟩
    rw [c170] at p167
    exact tr_iret hZ dX10_changes_13 rfl (by decide) (by decide) ⟨v165, rfl, rfl, rfl, rfl, rfl, rfl, hS168, (SkQ.st hK hW0 ta0 g163 (by decide +kernel) (by decide +kernel)), (NgQ.st hNg hW0 ta0 g163 (by decide +kernel) (by decide +kernel) (by decide +kernel)), (by first | exact Or.inl ⟨(fun q0 z0 => by obtain rfl := Option.some.inj ((d2).symm.trans z0); (try rw [c4]); first | done | with_reducible assumption | omega), (by first | done | with_reducible assumption | omega), trivial⟩ | exact Or.inr (⟨(by first | done | with_reducible assumption | omega), (fun q0 z0 => by obtain rfl := Option.some.inj ((d2).symm.trans z0); (try rw [c4]); first | done | with_reducible assumption | omega), (by exfalso; omega), trivial⟩)), trivial⟩
