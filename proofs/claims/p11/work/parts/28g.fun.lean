def wik_X8_wipe : List Nat := [2303, 2367, 2431, 2495, 2623]
def wrk_X8_wipe : List Nat := []
set_option maxHeartbeats 4000000 in
theorem fk_X8_wipe {l : Launch} {T : Nat → Nat} {cn : Nat} {K N : Nat → Nat} {I0 : cz_I} {R0 : cz_R} {L0 : cz_L} {d : Int} (hW0 : Wf T cn K N I0 R0 d)  {a0 : Nat} (ta0 : T a0 = 12) : ConE l mX8_wipe [.ref a0] cn K N I0 R0 L0 (ca_v (fun cn' K' N' I' R' L' => cn = cn' ∧ K = K' ∧ N = N' ∧ R0 = R' ∧ L0 = L' ∧ St T cn K N d wik_X8_wipe wrk_X8_wipe I0 R0 I' R0 ∧ (∀ r k : Nat, (R0 a0 2 = some r ∨ R0 a0 3 = some r ∨ R0 a0 4 = some r ∨ R0 a0 5 = some r ∨ R0 a0 7 = some r) → (k : Int) < (I0 a0 0).toInt → I' r k = 0) ∧ (FrS R0 a0 T I0 I') ∧ True)) := by
  refine ConE.of (by decide +kernel) rfl (Nat.le_of_ble_eq_true rfl) rfl (fun X hX hZ hE => ?_)
  subst hX
  have hS0 : St T cn K N d wik_X8_wipe wrk_X8_wipe I0 R0 I0 R0 := St.rf0 hW0
  obtain ⟨a11, d12, ta11⟩ := rf12_2 hW0 ta0
  obtain ⟨a13, d14, ta13⟩ := rf12_3 hW0 ta0
  obtain ⟨a15, d16, ta15⟩ := rf12_4 hW0 ta0
  obtain ⟨a17, d18, ta17⟩ := rf12_5 hW0 ta0
  obtain ⟨a19, d20, ta19⟩ := rf12_6 hW0 ta0
  obtain ⟨a21, d22, ta21⟩ := rf12_7 hW0 ta0
  obtain ⟨a23, d24, ta23⟩ := rf12_8 hW0 ta0
  obtain ⟨a25, d26, ta25⟩ := rf12_9 hW0 ta0
  obtain ⟨a27, d28, ta27⟩ := rf12_11 hW0 ta0
  obtain ⟨v29, c30⟩ : ∃ v, I0 a0 0 = v := ⟨_, rfl⟩
  have b31 := iv12_0 hW0 ta0 c30
  refine q_iconst dX8_wipe_0 (by decide) ?_
  intro v32 h33
  refine tr_istore_n dX8_wipe_1 (by decide) (by decide) ?_
  have lp42 : ∀ (fu : Nat) (ls : Nat → Option Value) (v34 : Int32) (I37 : cz_I), ls 0 = some (.ref a0) → ls 1 = some (.int v34) → St T cn K N d wik_X8_wipe wrk_X8_wipe I0 R0 I37 R0 → 0 ≤ v34.toInt → (∀ r k : Nat, (R0 a0 2 = some r ∨ R0 a0 3 = some r ∨ R0 a0 4 = some r ∨ R0 a0 5 = some r ∨ R0 a0 7 = some r) → (k : Int) < v34.toInt → I37 r k = 0) → (FrS R0 a0 T I0 I37) → (-v34.toInt + 2147483647).toNat < fu → Tr X mX8_wipe 2 ls [] cn K N I37 R0 L0 0 0 := by
    intro fu
    induction fu with
    | zero => intros; rename_i hz; exact absurd hz (Nat.not_lt_zero _)
    | succ fu ih42 =>
      intro ls v34 I37 hl35 hl36 hS38 g39 rw40 rw41 hm42
      refine tr_iload_n dX8_wipe_2 hl36 ?_
      refine tr_aload_n dX8_wipe_3 hl35 ?_
      refine q_getI dX8_wipe_4 fl8_46 (kR12 hS38.1 ta0) ((hS38.cell ta0 (by decide +kernel)).trans c30) ?_
      refine q_icmp_ge 51 dX8_wipe_7 (by decide) (fun h44 => ?_) (fun h44 => ?_)
      · skip
        exact tr_vret hZ dX8_wipe_51 rfl (by decide) (by decide) ⟨rfl, rfl, rfl, rfl, rfl, rfl, hS38, (fun r k h hk => rw40 r k h (by rw [c30] at hk; exact om_a60464d4 h44 hk)), rw41, trivial⟩
      · skip
        refine tr_aload_n dX8_wipe_10 hl35 ?_
        refine tr_getR dX8_wipe_11 fl8_9 (kR12 hS38.1 ta0) d12 ?_
        refine tr_iload_n dX8_wipe_14 hl36 ?_
        refine q_iconst dX8_wipe_15 (by decide) ?_
        intro v45 h46
        refine q_zastE dX8_wipe_16 (kR35 hS38.1 ta11) (ti_in (nR35 hS38.1 ta11) (by exact om_2cfcd5a5 g39) (by exact om_6fd76572 b31.2 b31.1 h44)) hS38 ta11 (by exact om_3b50ecb9 h46) rfl rfl (by rfl) ?_
        intro I47 hS48 e50 f49
        refine tr_aload_n dX8_wipe_17 hl35 ?_
        refine tr_getR dX8_wipe_18 fl8_15 (kR12 hS48.1 ta0) d14 ?_
        refine tr_iload_n dX8_wipe_21 hl36 ?_
        refine q_iconst dX8_wipe_22 (by decide) ?_
        intro v51 h52
        refine q_zastE dX8_wipe_23 (kR36 hS48.1 ta13) (ti_in (nR36 hS48.1 ta13) (by exact om_2cfcd5a5 g39) (by exact om_6fd76572 b31.2 b31.1 h44)) hS48 ta13 (by exact om_3b50ecb9 h52) rfl rfl (by rfl) ?_
        intro I53 hS54 e56 f55
        refine tr_aload_n dX8_wipe_24 hl35 ?_
        refine tr_getR dX8_wipe_25 fl8_18 (kR12 hS54.1 ta0) d16 ?_
        refine tr_iload_n dX8_wipe_28 hl36 ?_
        refine q_iconst dX8_wipe_29 (by decide) ?_
        intro v57 h58
        refine q_zastE dX8_wipe_30 (kR37 hS54.1 ta15) (ti_in (nR37 hS54.1 ta15) (by exact om_2cfcd5a5 g39) (by exact om_6fd76572 b31.2 b31.1 h44)) hS54 ta15 (by exact om_3b50ecb9 h58) rfl rfl (by rfl) ?_
        intro I59 hS60 e62 f61
        refine tr_aload_n dX8_wipe_31 hl35 ?_
        refine tr_getR dX8_wipe_32 fl8_21 (kR12 hS60.1 ta0) d18 ?_
        refine tr_iload_n dX8_wipe_35 hl36 ?_
        refine q_iconst dX8_wipe_36 (by decide) ?_
        intro v63 h64
        refine q_iast dX8_wipe_37 (kR38 hS60.1 ta17) (ti_in (nR38 hS60.1 ta17) (by exact om_2cfcd5a5 g39) (by exact om_6fd76572 b31.2 b31.1 h44)) hS60 ta17 (iokF rfl) rfl (by rfl) ?_
        intro I65 hS66 e68 f67
        refine tr_aload_n dX8_wipe_38 hl35 ?_
        refine tr_getR dX8_wipe_39 fl8_28 (kR12 hS66.1 ta0) d22 ?_
        refine tr_iload_n dX8_wipe_42 hl36 ?_
        refine q_iconst dX8_wipe_43 (by decide) ?_
        intro v69 h70
        refine q_iast dX8_wipe_44 (kR40 hS66.1 ta21) (ti_in (nR40 hS66.1 ta21) (by exact om_2cfcd5a5 g39) (by exact om_6fd76572 b31.2 b31.1 h44)) hS66 ta21 (iokF rfl) rfl (by rfl) ?_
        intro I71 hS72 e74 f73
        refine q_iincE dX8_wipe_45 hl36 (by decide) (by decide) (by intro j1 j2; exact om_c1baff6f b31.2 b31.1 g39 h44 j2) ?_
        intro v75 h76
        refine tr_goto 2 dX8_wipe_48 (by decide) ?_
        exact ih42 _ v75 I71 hl35 rfl hS72 (by exact om_68881c41 g39 h76) (fun r k h hk => by rcases h with h | h | h | h | h; (obtain rfl := Option.some.inj (d12.symm.trans h); by_cases z : (k : Int) < v34.toInt; exact Eq.trans ((f73 _ _ (fun q => by have z := ta11; rw [q.1, ta21] at z; exact absurd z (by decide))).trans ((f67 _ _ (fun q => by have z := ta11; rw [q.1, ta17] at z; exact absurd z (by decide))).trans ((f61 _ _ (fun q => by have z := ta11; rw [q.1, ta15] at z; exact absurd z (by decide))).trans ((f55 _ _ (fun q => by have z := ta11; rw [q.1, ta13] at z; exact absurd z (by decide))).trans (f49 _ _ (fun q => by have z1 := q.2; have z3 := ti_nat (i := v34) (by exact om_2cfcd5a5 g39); exact om_5d58d7f9 h76 z q.2 z3)))))) (rw40 _ k (by simp only [d12, true_or, or_true]) z); have y := ti_nat (i := v34) (by exact om_2cfcd5a5 g39); obtain rfl : k = v34.toNatClampNeg := (by exact om_43b9c6fe h76 hk z y); exact Eq.trans (Eq.trans ((f73 _ _ (fun q => by have z := ta11; rw [q.1, ta21] at z; exact absurd z (by decide))).trans ((f67 _ _ (fun q => by have z := ta11; rw [q.1, ta17] at z; exact absurd z (by decide))).trans ((f61 _ _ (fun q => by have z := ta11; rw [q.1, ta15] at z; exact absurd z (by decide))).trans (f55 _ _ (fun q => by have z := ta11; rw [q.1, ta13] at z; exact absurd z (by decide)))))) e50) (Int32.toInt_inj.mp ((show v45.toInt = 0 by exact om_29f55913 h46).trans rfl))); (obtain rfl := Option.some.inj (d14.symm.trans h); by_cases z : (k : Int) < v34.toInt; exact Eq.trans ((f73 _ _ (fun q => by have z := ta13; rw [q.1, ta21] at z; exact absurd z (by decide))).trans ((f67 _ _ (fun q => by have z := ta13; rw [q.1, ta17] at z; exact absurd z (by decide))).trans ((f61 _ _ (fun q => by have z := ta13; rw [q.1, ta15] at z; exact absurd z (by decide))).trans ((f55 _ _ (fun q => by have z1 := q.2; have z3 := ti_nat (i := v34) (by exact om_2cfcd5a5 g39); exact om_5d58d7f9 h76 z q.2 z3)).trans (f49 _ _ (fun q => by have z := ta13; rw [q.1, ta11] at z; exact absurd z (by decide))))))) (rw40 _ k (by simp only [d14, true_or, or_true]) z); have y := ti_nat (i := v34) (by exact om_2cfcd5a5 g39); obtain rfl : k = v34.toNatClampNeg := (by exact om_43b9c6fe h76 hk z y); exact Eq.trans (Eq.trans ((f73 _ _ (fun q => by have z := ta13; rw [q.1, ta21] at z; exact absurd z (by decide))).trans ((f67 _ _ (fun q => by have z := ta13; rw [q.1, ta17] at z; exact absurd z (by decide))).trans (f61 _ _ (fun q => by have z := ta13; rw [q.1, ta15] at z; exact absurd z (by decide))))) e56) (Int32.toInt_inj.mp ((show v51.toInt = 0 by exact om_29f55913 h52).trans rfl))); (obtain rfl := Option.some.inj (d16.symm.trans h); by_cases z : (k : Int) < v34.toInt; exact Eq.trans ((f73 _ _ (fun q => by have z := ta15; rw [q.1, ta21] at z; exact absurd z (by decide))).trans ((f67 _ _ (fun q => by have z := ta15; rw [q.1, ta17] at z; exact absurd z (by decide))).trans ((f61 _ _ (fun q => by have z1 := q.2; have z3 := ti_nat (i := v34) (by exact om_2cfcd5a5 g39); exact om_5d58d7f9 h76 z q.2 z3)).trans ((f55 _ _ (fun q => by have z := ta15; rw [q.1, ta13] at z; exact absurd z (by decide))).trans (f49 _ _ (fun q => by have z := ta15; rw [q.1, ta11] at z; exact absurd z (by decide))))))) (rw40 _ k (by simp only [d16, true_or, or_true]) z); have y := ti_nat (i := v34) (by exact om_2cfcd5a5 g39); obtain rfl : k = v34.toNatClampNeg := (by exact om_43b9c6fe h76 hk z y); exact Eq.trans (Eq.trans ((f73 _ _ (fun q => by have z := ta15; rw [q.1, ta21] at z; exact absurd z (by decide))).trans (f67 _ _ (fun q => by have z := ta15; rw [q.1, ta17] at z; exact absurd z (by decide)))) e62) (Int32.toInt_inj.mp ((show v57.toInt = 0 by exact om_29f55913 h58).trans rfl))); (obtain rfl := Option.some.inj (d18.symm.trans h); by_cases z : (k : Int) < v34.toInt; exact Eq.trans ((f73 _ _ (fun q => by have z := ta17; rw [q.1, ta21] at z; exact absurd z (by decide))).trans ((f67 _ _ (fun q => by have z1 := q.2; have z3 := ti_nat (i := v34) (by exact om_2cfcd5a5 g39); exact om_5d58d7f9 h76 z q.2 z3)).trans ((f61 _ _ (fun q => by have z := ta17; rw [q.1, ta15] at z; exact absurd z (by decide))).trans ((f55 _ _ (fun q => by have z := ta17; rw [q.1, ta13] at z; exact absurd z (by decide))).trans (f49 _ _ (fun q => by have z := ta17; rw [q.1, ta11] at z; exact absurd z (by decide))))))) (rw40 _ k (by simp only [d18, true_or, or_true]) z); have y := ti_nat (i := v34) (by exact om_2cfcd5a5 g39); obtain rfl : k = v34.toNatClampNeg := (by exact om_43b9c6fe h76 hk z y); exact Eq.trans (Eq.trans (f73 _ _ (fun q => by have z := ta17; rw [q.1, ta21] at z; exact absurd z (by decide))) e68) (Int32.toInt_inj.mp ((show v63.toInt = 0 by exact om_29f55913 h64).trans rfl))); (obtain rfl := Option.some.inj (d22.symm.trans h); by_cases z : (k : Int) < v34.toInt; exact Eq.trans ((f73 _ _ (fun q => by have z1 := q.2; have z3 := ti_nat (i := v34) (by exact om_2cfcd5a5 g39); exact om_5d58d7f9 h76 z q.2 z3)).trans ((f67 _ _ (fun q => by have z := ta21; rw [q.1, ta17] at z; exact absurd z (by decide))).trans ((f61 _ _ (fun q => by have z := ta21; rw [q.1, ta15] at z; exact absurd z (by decide))).trans ((f55 _ _ (fun q => by have z := ta21; rw [q.1, ta13] at z; exact absurd z (by decide))).trans (f49 _ _ (fun q => by have z := ta21; rw [q.1, ta11] at z; exact absurd z (by decide))))))) (rw40 _ k (by simp only [d22, true_or, or_true]) z); have y := ti_nat (i := v34) (by exact om_2cfcd5a5 g39); obtain rfl : k = v34.toNatClampNeg := (by exact om_43b9c6fe h76 hk z y); exact Eq.trans e74 (Int32.toInt_inj.mp ((show v69.toInt = 0 by exact om_29f55913 h70).trans rfl)))) (((((rw41.pu f49 (s := 2) (by exact om_a854ffba) (by exact om_e9ccffab) d12 ta11 (by decide)).pu f55 (s := 3) (by exact om_e1a5e01b) (by exact om_90e3bce7) d14 ta13 (by decide)).pu f61 (s := 4) (by exact om_294eb8fc) (by exact om_1def1b6d) d16 ta15 (by decide)).pu f67 (s := 5) (by exact om_af0c636d) (by exact om_d35c364e) d18 ta17 (by decide)).pu f73 (s := 7) (by exact om_87189927) (by exact om_941b4b89) d22 ta21 (by decide)) (by exact om_2e8c00e6 b31.2 b31.1 g39 hm42 h44 h76)
  exact lp42 _ _ v32 I0 rfl rfl hS0 (by exact om_d99fa9e4 h33) (fun r k _ h => by exfalso; exact om_309783c8 h33 h) (FrS.rf (R := R0) (sk := a0) (T := T)) (Nat.lt_succ_self _)
set_option maxHeartbeats 4000000 in
theorem fk_X8_isBright {l : Launch} {T : Nat → Nat} {cn : Nat} {K N : Nat → Nat} {I0 : cz_I} {R0 : cz_R} {L0 : cz_L} {d : Int} (hW0 : Wf T cn K N I0 R0 d)  {a0 : Nat} (ta0 : T a0 = 12) {x1 : Int32} (hx1 : 0 ≤ x1.toInt ∧ x1.toInt ≤ 239) : ConE l mX8_isBright [.ref a0, .int x1] cn K N I0 R0 L0 (ca_i (fun v cn' K' N' I' R' L' => cn = cn' ∧ K = K' ∧ N = N' ∧ I0 = I' ∧ R0 = R' ∧ L0 = L' ∧ (0 ≤ v.toInt ∧ v.toInt ≤ 1) ∧ (∀ r2 r3 r4, R0 a0 2 = some r2 → R0 a0 3 = some r3 → R0 a0 4 = some r4 → v.toInt = if (I0 r2 x1.toInt.toNat).toInt = 0 ∧ (¬ (I0 r3 x1.toInt.toNat).toInt = 0 ∨ (I0 r4 x1.toInt.toNat).toInt = 0) then 1 else 0) ∧ True)) := by
  refine ConE.of (by decide +kernel) rfl (Nat.le_of_ble_eq_true rfl) rfl (fun X hX hZ hE => ?_)
  subst hX
  obtain ⟨a11, d12, ta11⟩ := rf12_2 hW0 ta0
  obtain ⟨a13, d14, ta13⟩ := rf12_3 hW0 ta0
  obtain ⟨a15, d16, ta15⟩ := rf12_4 hW0 ta0
  obtain ⟨a17, d18, ta17⟩ := rf12_5 hW0 ta0
  obtain ⟨a19, d20, ta19⟩ := rf12_6 hW0 ta0
  obtain ⟨a21, d22, ta21⟩ := rf12_7 hW0 ta0
  obtain ⟨a23, d24, ta23⟩ := rf12_8 hW0 ta0
  obtain ⟨a25, d26, ta25⟩ := rf12_9 hW0 ta0
  obtain ⟨a27, d28, ta27⟩ := rf12_11 hW0 ta0
  refine tr_aload_n dX8_isBright_0 rfl ?_
  refine tr_getR dX8_isBright_1 fl8_9 (kR12 hW0 ta0) d12 ?_
  refine tr_iload_n dX8_isBright_4 rfl ?_
  refine q_zald dX8_isBright_5 (kR35 hW0 ta11) (ti_in (nR35 hW0 ta11) (by exact om_2ab23ca2 hx1.2 hx1.1) (by exact om_c695125b hx1.2 hx1.1)) ?_
  intro v29 c30
  have b31 := iv35 hW0 ta11 c30
  refine q_if_ne 31 dX8_isBright_6 (by decide) (fun h32 => ?_) (fun h32 => ?_)
  · skip
    refine q_iconst dX8_isBright_31 (by decide) ?_
    intro v33 h34
    exact tr_zret hZ dX8_isBright_32 rfl (ti_b01 (by exact om_d99fa9e4 h34) (by exact om_d3de7ec9 h34)) (by decide) (by decide) ⟨v33, rfl, rfl, rfl, rfl, rfl, rfl, rfl, (by exact om_3b50ecb9 h34), (fun r2 r3 r4 h2 h3 h4 => by obtain rfl := Option.some.inj (d12.symm.trans h2); obtain rfl := Option.some.inj (d14.symm.trans h3); obtain rfl := Option.some.inj (d16.symm.trans h4); rw [show I0 a11 x1.toInt.toNat = v29 from c30]; split <;> omega), trivial⟩
  · skip
    refine tr_aload_n dX8_isBright_9 rfl ?_
    refine tr_getR dX8_isBright_10 fl8_15 (kR12 hW0 ta0) d14 ?_
    refine tr_iload_n dX8_isBright_13 rfl ?_
    refine q_zald dX8_isBright_14 (kR36 hW0 ta13) (ti_in (nR36 hW0 ta13) (by exact om_2ab23ca2 hx1.2 hx1.1) (by exact om_c695125b hx1.2 hx1.1)) ?_
    intro v35 c36
    have b37 := iv36 hW0 ta13 c36
    refine q_if_ne 27 dX8_isBright_15 (by decide) (fun h38 => ?_) (fun h38 => ?_)
    · skip
      refine q_iconst dX8_isBright_27 (by decide) ?_
      intro v39 h40
      refine tr_goto 32 dX8_isBright_28 (by decide) ?_
      exact tr_zret hZ dX8_isBright_32 rfl (ti_b01 (by exact om_f9079521 h40) (by exact om_e6632817 h40)) (by decide) (by decide) ⟨v39, rfl, rfl, rfl, rfl, rfl, rfl, rfl, (by exact om_d753bc65 h40), (fun r2 r3 r4 h2 h3 h4 => by obtain rfl := Option.some.inj (d12.symm.trans h2); obtain rfl := Option.some.inj (d14.symm.trans h3); obtain rfl := Option.some.inj (d16.symm.trans h4); rw [show I0 a11 x1.toInt.toNat = v29 from c30]; rw [show I0 a13 x1.toInt.toNat = v35 from c36]; split <;> omega), trivial⟩
    · skip
      refine tr_aload_n dX8_isBright_18 rfl ?_
      refine tr_getR dX8_isBright_19 fl8_18 (kR12 hW0 ta0) d16 ?_
      refine tr_iload_n dX8_isBright_22 rfl ?_
      refine q_zald dX8_isBright_23 (kR37 hW0 ta15) (ti_in (nR37 hW0 ta15) (by exact om_2ab23ca2 hx1.2 hx1.1) (by exact om_c695125b hx1.2 hx1.1)) ?_
      intro v41 c42
      have b43 := iv37 hW0 ta15 c42
      refine q_if_ne 31 dX8_isBright_24 (by decide) (fun h44 => ?_) (fun h44 => ?_)
      · skip
        refine q_iconst dX8_isBright_31 (by decide) ?_
        intro v45 h46
        exact tr_zret hZ dX8_isBright_32 rfl (ti_b01 (by exact om_d99fa9e4 h46) (by exact om_d3de7ec9 h46)) (by decide) (by decide) ⟨v45, rfl, rfl, rfl, rfl, rfl, rfl, rfl, (by exact om_3b50ecb9 h46), (fun r2 r3 r4 h2 h3 h4 => by obtain rfl := Option.some.inj (d12.symm.trans h2); obtain rfl := Option.some.inj (d14.symm.trans h3); obtain rfl := Option.some.inj (d16.symm.trans h4); rw [show I0 a11 x1.toInt.toNat = v29 from c30]; rw [show I0 a13 x1.toInt.toNat = v35 from c36]; rw [show I0 a15 x1.toInt.toNat = v41 from c42]; split <;> omega), trivial⟩
      · skip
        refine q_iconst dX8_isBright_27 (by decide) ?_
        intro v47 h48
        refine tr_goto 32 dX8_isBright_28 (by decide) ?_
        exact tr_zret hZ dX8_isBright_32 rfl (ti_b01 (by exact om_f9079521 h48) (by exact om_e6632817 h48)) (by decide) (by decide) ⟨v47, rfl, rfl, rfl, rfl, rfl, rfl, rfl, (by exact om_d753bc65 h48), (fun r2 r3 r4 h2 h3 h4 => by obtain rfl := Option.some.inj (d12.symm.trans h2); obtain rfl := Option.some.inj (d14.symm.trans h3); obtain rfl := Option.some.inj (d16.symm.trans h4); rw [show I0 a11 x1.toInt.toNat = v29 from c30]; rw [show I0 a13 x1.toInt.toNat = v35 from c36]; rw [show I0 a15 x1.toInt.toNat = v41 from c42]; split <;> omega), trivial⟩
def wik_X8_findLight : List Nat := [2559, 2623, 2687, 2751]
def wrk_X8_findLight : List Nat := []
set_option maxHeartbeats 4000000 in
theorem fk_X8_findLight {l : Launch} {T : Nat → Nat} {cn : Nat} {K N : Nat → Nat} {I0 : cz_I} {R0 : cz_R} {L0 : cz_L} {d : Int} (hW0 : Wf T cn K N I0 R0 d) (gX : Nat → Nat → Int) (gn : Nat) (gl : Int) (gc : Int) {a0 : Nat} (ta0 : T a0 = 12) (hR : SkR I0 R0 a0 (I0 a0 0).toInt gl gX gn) (hA : Bts (I0 a0 1) (fun j => if (j : Int) < gc then 1 else 0)) : ConE l mX8_findLight [.ref a0] cn K N I0 R0 L0 (ca_v (fun cn' K' N' I' R' L' => cn = cn' ∧ K = K' ∧ N = N' ∧ R0 = R' ∧ L0 = L' ∧ St T cn K N d wik_X8_findLight wrk_X8_findLight I0 R0 I' R0 ∧ (SkF I' R0 a0 (I0 a0 0).toInt gc gl gX gn (I0 a0 0).toInt) ∧ (FrS R0 a0 T I0 I') ∧ True)) := by
  refine ConE.of (by decide +kernel) rfl (Nat.le_of_ble_eq_true rfl) rfl (fun X hX hZ hE => ?_)
  subst hX
  have hS0 : St T cn K N d wik_X8_findLight wrk_X8_findLight I0 R0 I0 R0 := St.rf0 hW0
  obtain ⟨v11, c12⟩ : ∃ v, I0 a0 0 = v := ⟨_, rfl⟩
  have b13 := iv12_0 hW0 ta0 c12
  obtain ⟨a14, d15, ta14⟩ := rf12_2 hW0 ta0
  obtain ⟨a16, d17, ta16⟩ := rf12_3 hW0 ta0
  obtain ⟨a18, d19, ta18⟩ := rf12_4 hW0 ta0
  obtain ⟨a20, d21, ta20⟩ := rf12_5 hW0 ta0
  obtain ⟨a22, d23, ta22⟩ := rf12_6 hW0 ta0
  obtain ⟨a24, d25, ta24⟩ := rf12_7 hW0 ta0
  obtain ⟨a26, d27, ta26⟩ := rf12_8 hW0 ta0
  obtain ⟨a28, d29, ta28⟩ := rf12_9 hW0 ta0
  obtain ⟨a30, d31, ta30⟩ := rf12_11 hW0 ta0
  obtain ⟨v32, c33⟩ : ∃ v, I0 a0 1 = v := ⟨_, rfl⟩
  refine q_iconst dX8_findLight_0 (by decide) ?_
  intro v34 h35
  refine tr_istore_n dX8_findLight_1 (by decide) (by decide) ?_
  have lp45 : ∀ (fu : Nat) (ls : Nat → Option Value) (v36 : Int32) (I39 : cz_I), ls 0 = some (.ref a0) → ls 1 = some (.int v36) → St T cn K N d wik_X8_findLight wrk_X8_findLight I0 R0 I39 R0 → 0 ≤ v36.toInt → v36.toInt ≤ v11.toInt → (SkF I39 R0 a0 v11.toInt gc gl gX gn v36.toInt) → (FrS R0 a0 T I0 I39) → (-v36.toInt + 2147483647).toNat < fu → Tr X mX8_findLight 2 ls [] cn K N I39 R0 L0 0 0 := by
    intro fu
    induction fu with
    | zero => intros; rename_i hz; exact absurd hz (Nat.not_lt_zero _)
    | succ fu ih45 =>
      intro ls v36 I39 hl37 hl38 hS40 g41 g42 rw43 rw44 hm45
      refine tr_iload_n dX8_findLight_2 hl38 ?_
      refine tr_aload_n dX8_findLight_3 hl37 ?_
      refine q_getI dX8_findLight_4 fl8_46 (kR12 hS40.1 ta0) ((hS40.cell ta0 (by decide +kernel)).trans c12) ?_
      refine q_icmp_ge 120 dX8_findLight_7 (by decide) (fun h47 => ?_) (fun h47 => ?_)
      · skip
        exact tr_vret hZ dX8_findLight_120 rfl (by decide) (by decide) ⟨rfl, rfl, rfl, rfl, rfl, rfl, hS40, (by rw [c12]; have hq : v36.toInt = v11.toInt := (by exact om_99e6832e g42 h47); have z := rw43; rw [hq] at z; exact z), rw44, trivial⟩
      · skip
        refine tr_aload_n dX8_findLight_10 hl37 ?_
        refine tr_getR dX8_findLight_11 fl8_25 (kR12 hS40.1 ta0) d23 ?_
        refine tr_iload_n dX8_findLight_14 hl38 ?_
        refine tr_aload_n dX8_findLight_15 hl37 ?_
        refine tr_iload_n dX8_findLight_16 hl38 ?_
        refine q_callVi hE (M' := mX8_isBright) (as := [_]) dX8_findLight_17 lk8_105 inX8_isBright seX8_isBright myX8_isBright (by decide) ⟨by decide, by decide⟩ rfl (kR12 hS40.1 ta0) (Nat.le_of_ble_eq_true rfl) rfl rfl (by decide) (by decide) (fk_X8_isBright hS40.1  ta0 (by exact om_a67abe45 b13.2 b13.1 g41 h47)) ?_
        rintro v53 cn' K' N' I48 R49 L50 ⟨rfl, rfl, rfl, rfl, rfl, rfl, h54, rp55, -⟩
        refine q_if_eq 39 dX8_findLight_20 (by decide) (fun h56 => ?_) (fun h56 => ?_)
        · skip
          refine q_iconst dX8_findLight_39 (by decide) ?_
          intro v57 h58
          refine q_iast dX8_findLight_40 (kR39 hS40.1 ta22) (ti_in (nR39 hS40.1 ta22) (by exact om_2cfcd5a5 g41) (by exact om_6fd76572 b13.2 b13.1 h47)) hS40 ta22 (iokF rfl) rfl (by rfl) ?_
          intro I59 hS60 e62 f61
          refine tr_aload_n dX8_findLight_41 hl37 ?_
          refine tr_getR dX8_findLight_42 fl8_28 (kR12 hS60.1 ta0) d25 ?_
          refine tr_iload_n dX8_findLight_45 hl38 ?_
          refine tr_dup2 dX8_findLight_46 rfl rfl ?_
          refine q_iald dX8_findLight_47 (kR40 hS60.1 ta24) (ti_in (nR40 hS60.1 ta24) (by exact om_2cfcd5a5 g41) (by exact om_6fd76572 b13.2 b13.1 h47)) ?_
          intro v63 c64
          refine tr_aload_n dX8_findLight_48 hl37 ?_
          refine tr_getR dX8_findLight_49 fl8_25 (kR12 hS60.1 ta0) d23 ?_
          refine tr_iload_n dX8_findLight_52 hl38 ?_
          refine q_iald dX8_findLight_53 (kR39 hS60.1 ta22) (ti_in (nR39 hS60.1 ta22) (by exact om_2cfcd5a5 g41) (by exact om_6fd76572 b13.2 b13.1 h47)) ?_
          intro v65 c66
          refine tr_ior dX8_findLight_54 ?_
          obtain ⟨v67, lx68⟩ : ∃ z, z = v63 ||| v65 := ⟨_, rfl⟩
          rw [← lx68]
          refine q_iast dX8_findLight_55 (kR40 hS60.1 ta24) (ti_in (nR40 hS60.1 ta24) (by exact om_2cfcd5a5 g41) (by exact om_6fd76572 b13.2 b13.1 h47)) hS60 ta24 (iokF rfl) rfl (by rfl) ?_
          intro I69 hS70 e72 f71
          refine tr_aload_n dX8_findLight_56 hl37 ?_
          refine tr_getR dX8_findLight_57 fl8_31 (kR12 hS70.1 ta0) d27 ?_
          refine tr_iload_n dX8_findLight_60 hl38 ?_
          refine tr_iload_n dX8_findLight_61 hl38 ?_
          refine q_if_ne 69 dX8_findLight_62 (by decide) (fun h73 => ?_) (fun h73 => ?_)
          · skip
            refine tr_aload_n dX8_findLight_69 hl37 ?_
            refine tr_getR dX8_findLight_70 fl8_25 (kR12 hS70.1 ta0) d23 ?_
            refine tr_iload_n dX8_findLight_73 hl38 ?_
            refine q_iald dX8_findLight_74 (kR39 hS70.1 ta22) (ti_in (nR39 hS70.1 ta22) (by exact om_2cfcd5a5 g41) (by exact om_6fd76572 b13.2 b13.1 h47)) ?_
            intro v74 c75
            refine tr_aload_n dX8_findLight_75 hl37 ?_
            refine tr_getR dX8_findLight_76 fl8_25 (kR12 hS70.1 ta0) d23 ?_
            refine tr_iload_n dX8_findLight_79 hl38 ?_
            refine q_iconst dX8_findLight_80 (by decide) ?_
            intro v76 h77
            refine q_isubE dX8_findLight_81 (by intro j1 j2 j3 j4; exact om_7f1c52f7 b13.2 b13.1 g41 h47 h77 j2) ?_
            intro v78 h79
            refine q_iald dX8_findLight_82 (kR39 hS70.1 ta22) (ti_in (nR39 hS70.1 ta22) (by exact om_e044a0f7 g41 h73 h77 h79) (by exact om_3413c1b9 b13.2 b13.1 h47 h77 h79)) ?_
            intro v80 c81
            refine tr_ixor dX8_findLight_83 ?_
            obtain ⟨v82, lx83⟩ : ∃ z, z = v74 ^^^ v80 := ⟨_, rfl⟩
            rw [← lx83]
            refine q_iast dX8_findLight_84 (kR41 hS70.1 ta26) (ti_in (nR41 hS70.1 ta26) (by exact om_2cfcd5a5 g41) (by exact om_8d984ce0 b13.2 b13.1 h47 h77 h79)) hS70 ta26 (iokF rfl) rfl (by rfl) ?_
            intro I84 hS85 e87 f86
            refine tr_aload_n dX8_findLight_85 hl37 ?_
            refine tr_getR dX8_findLight_86 fl8_34 (kR12 hS85.1 ta0) d29 ?_
            refine tr_iload_n dX8_findLight_89 hl38 ?_
            refine tr_iload_n dX8_findLight_90 hl38 ?_
            refine q_if_ne 98 dX8_findLight_91 (by decide) (fun h88 => ?_) (fun h88 => ?_)
            · skip
              refine tr_aload_n dX8_findLight_98 hl37 ?_
              refine tr_getR dX8_findLight_99 fl8_28 (kR12 hS85.1 ta0) d25 ?_
              refine tr_iload_n dX8_findLight_102 hl38 ?_
              refine q_iald dX8_findLight_103 (kR40 hS85.1 ta24) (ti_in (nR40 hS85.1 ta24) (by exact om_2cfcd5a5 g41) (by exact om_8d984ce0 b13.2 b13.1 h47 h77 h79)) ?_
              intro v89 c90
              refine tr_aload_n dX8_findLight_104 hl37 ?_
              refine tr_getR dX8_findLight_105 fl8_28 (kR12 hS85.1 ta0) d25 ?_
              refine tr_iload_n dX8_findLight_108 hl38 ?_
              refine q_iconst dX8_findLight_109 (by decide) ?_
              intro v91 h92
              refine q_isubE dX8_findLight_110 (by intro j1 j2 j3 j4; exact om_3e1c4c20 b13.2 b13.1 g41 h47 h77 h79 h92 j2) ?_
              intro v93 h94
              refine q_iald dX8_findLight_111 (kR40 hS85.1 ta24) (ti_in (nR40 hS85.1 ta24) (by exact om_4100254b g41 h77 h79 h88 h92 h94) (by exact om_afc93394 b13.2 b13.1 h47 h77 h79 h92 h94)) ?_
              intro v95 c96
              refine tr_ixor dX8_findLight_112 ?_
              obtain ⟨v97, lx98⟩ : ∃ z, z = v89 ^^^ v95 := ⟨_, rfl⟩
              rw [← lx98]
              refine q_iast dX8_findLight_113 (kR42 hS85.1 ta28) (ti_in (nR42 hS85.1 ta28) (by exact om_2cfcd5a5 g41) (by exact om_f63f4e7a b13.2 b13.1 h47 h77 h79 h92 h94)) hS85 ta28 (iokF rfl) rfl (by rfl) ?_
              intro I99 hS100 e102 f101
              refine q_iincE dX8_findLight_114 hl38 (by decide) (by decide) (by intro j1 j2; exact om_a03a47e5 b13.2 b13.1 g41 h47 h77 h79 h92 h94 j2) ?_
              intro v103 h104
              refine tr_goto 2 dX8_findLight_117 (by decide) ?_
              exact ih45 _ v103 I99 hl37 rfl hS100 (by exact om_48a1345a g41 h77 h79 h92 h94 h104) (by exact om_6dd87294 h47 h77 h79 h92 h94 h104) (by have hq : v36.toInt + 1 = v103.toInt := (by exact om_fb2681f2 h77 h79 h92 h94 h104); rw [← hq]; exact SkF.stp (ix := v36.toNatClampNeg) rw43 hS40.1 ta0 (by exact om_2cfcd5a5 g41) (by exact om_b6fabb1f h47) (ti_nat (by exact om_2cfcd5a5 g41)) d23 d25 d27 d29 e62 f61 e72 f71 e87 f86 e102 f101 (by have hbr := (SkF.br (ix := v36.toNatClampNeg) rw43 d15 d17 d19 (by have z := ti_nat (i := v36) (by exact om_2cfcd5a5 g41); exact om_24d65638 h47 h77 h79 h92 h94 h104 z) (rp55 _ _ _ d15 d17 d19)); rw [ti_nat (i := v36) (by exact om_2cfcd5a5 g41)] at hbr; exact Bts.b0 (by exact om_29f55913 h58) (by exact om_696d9891 h56 hbr)) (lx68.trans (by rw [show v63 = _ from (c64.symm.trans (f61 _ _ (fun q => by have z := ta24; rw [q.1, ta22] at z; exact absurd z (by decide)))), show v65 = v57 from (c66.symm.trans e62)])) (Or.inr ⟨by exact om_18eb5051 g41 h77 h79 h88 h92 h94 h104, lx83.trans (by rw [show v74 = v57 from (c75.symm.trans (Eq.trans (f71 _ _ (fun q => by have z := ta22; rw [q.1, ta24] at z; exact absurd z (by decide))) e62)), show I39 a22 (v36.toNatClampNeg - 1) = v80 from (by have y1 := ti_nat (i := v78) (by exact om_5fe7de33 g41 h77 h79 h88 h92 h94 h104); have y2 := ti_nat (i := v36) (by exact om_2cfcd5a5 g41); rw [show v36.toNatClampNeg - 1 = v78.toNatClampNeg by exact om_16751778 h77 h79 h92 h94 h104 y1 y2]; exact (c81.symm.trans ((f71 _ _ (fun q => by have z := ta22; rw [q.1, ta24] at z; exact absurd z (by decide))).trans (f61 _ _ (fun q => by have z1 := q.2; have z2 := ti_nat (i := v36) (by exact om_2cfcd5a5 g41); have z3 := ti_nat (i := v78) (by exact om_674992b3 h77 h79 h92 h94 h104 y1 y2 q.2); exact om_e990304f h77 h79 h92 h94 h104 y1 y2 q.2)))).symm)])⟩) (Or.inr ⟨by exact om_18eb5051 g41 h77 h79 h88 h92 h94 h104, lx98.trans (by rw [show v89 = v67 from (c90.symm.trans (Eq.trans (f86 _ _ (fun q => by have z := ta24; rw [q.1, ta26] at z; exact absurd z (by decide))) e72)), show I39 a24 (v36.toNatClampNeg - 1) = v95 from (by have y1 := ti_nat (i := v93) (by exact om_150bc167 g41 h77 h79 h88 h92 h94 h104); have y2 := ti_nat (i := v36) (by exact om_2cfcd5a5 g41); rw [show v36.toNatClampNeg - 1 = v93.toNatClampNeg by exact om_1ed6b558 h77 h79 h92 h94 h104 y1 y2]; exact (c96.symm.trans ((f86 _ _ (fun q => by have z := ta24; rw [q.1, ta26] at z; exact absurd z (by decide))).trans ((f71 _ _ (fun q => by have z1 := q.2; have z2 := ti_nat (i := v36) (by exact om_2cfcd5a5 g41); have z3 := ti_nat (i := v93) (by exact om_8c470913 h77 h79 h92 h94 h104 y1 y2 q.2); exact om_bf86b23e h77 h79 h92 h94 h104 y1 y2 q.2)).trans (f61 _ _ (fun q => by have z := ta24; rw [q.1, ta22] at z; exact absurd z (by decide)))))).symm)])⟩)) ((((rw44.pu f61 (s := 6) (by exact om_b97deab5) (by exact om_d96ab4e4) d23 ta22 (by decide)).pu f71 (s := 7) (by exact om_87189927) (by exact om_941b4b89) d25 ta24 (by decide)).pu f86 (s := 8) (by exact om_a4976729) (by exact om_66003279) d27 ta26 (by decide)).pu f101 (s := 9) (by exact om_5c5c439e) (by exact om_505791c7) d29 ta28 (by decide)) (by exact om_89ccdca5 b13.2 b13.1 g41 hm45 h47 h73 h77 h79 h88 h92 h94 h104)
            · skip
              exfalso; exact om_14a2221f h73 h77 h79 h88
          · skip
            refine q_iconst dX8_findLight_65 (by decide) ?_
            intro v105 h106
            refine tr_goto 84 dX8_findLight_66 (by decide) ?_
            refine q_iast dX8_findLight_84 (kR41 hS70.1 ta26) (ti_in (nR41 hS70.1 ta26) (by exact om_2cfcd5a5 g41) (by exact om_1b13f499 h73)) hS70 ta26 (iokF rfl) rfl (by rfl) ?_
            intro I107 hS108 e110 f109
            refine tr_aload_n dX8_findLight_85 hl37 ?_
            refine tr_getR dX8_findLight_86 fl8_34 (kR12 hS108.1 ta0) d29 ?_
            refine tr_iload_n dX8_findLight_89 hl38 ?_
            refine tr_iload_n dX8_findLight_90 hl38 ?_
            refine q_if_ne 98 dX8_findLight_91 (by decide) (fun h111 => ?_) (fun h111 => ?_)
            · skip
              exfalso; exact om_3a97d4a5 h73 h111
            · skip
              refine q_iconst dX8_findLight_94 (by decide) ?_
              intro v112 h113
              refine tr_goto 113 dX8_findLight_95 (by decide) ?_
              refine q_iast dX8_findLight_113 (kR42 hS108.1 ta28) (ti_in (nR42 hS108.1 ta28) (by exact om_2cfcd5a5 g41) (by exact om_1b13f499 h73)) hS108 ta28 (iokF rfl) rfl (by rfl) ?_
              intro I114 hS115 e117 f116
              refine q_iincE dX8_findLight_114 hl38 (by decide) (by decide) (by intro j1 j2; exact om_502d7b61 h73) ?_
              intro v118 h119
              refine tr_goto 2 dX8_findLight_117 (by decide) ?_
              exact ih45 _ v118 I114 hl37 rfl hS115 (by exact om_402918db h73 h119) (by exact om_017ec837 h47 h73 h119) (by have hq : v36.toInt + 1 = v118.toInt := (by exact om_ad9109a0 h73 h119); rw [← hq]; exact SkF.stp (ix := v36.toNatClampNeg) rw43 hS40.1 ta0 (by exact om_2cfcd5a5 g41) (by exact om_b6fabb1f h47) (ti_nat (by exact om_2cfcd5a5 g41)) d23 d25 d27 d29 e62 f61 e72 f71 e110 f109 e117 f116 (by have hbr := (SkF.br (ix := v36.toNatClampNeg) rw43 d15 d17 d19 (by have z := ti_nat (i := v36) (by exact om_2cfcd5a5 g41); exact om_9d13f480 h47 h73 z) (rp55 _ _ _ d15 d17 d19)); rw [ti_nat (i := v36) (by exact om_2cfcd5a5 g41)] at hbr; exact Bts.b0 (by exact om_29f55913 h58) (by exact om_696d9891 h56 hbr)) (lx68.trans (by rw [show v63 = _ from (c64.symm.trans (f61 _ _ (fun q => by have z := ta24; rw [q.1, ta22] at z; exact absurd z (by decide)))), show v65 = v57 from (c66.symm.trans e62)])) (Or.inl ⟨by exact om_29f55913 h111, by exact om_29f55913 h106⟩) (Or.inl ⟨by exact om_29f55913 h111, by exact om_29f55913 h113⟩)) ((((rw44.pu f61 (s := 6) (by exact om_b97deab5) (by exact om_d96ab4e4) d23 ta22 (by decide)).pu f71 (s := 7) (by exact om_87189927) (by exact om_941b4b89) d25 ta24 (by decide)).pu f109 (s := 8) (by exact om_a4976729) (by exact om_66003279) d27 ta26 (by decide)).pu f116 (s := 9) (by exact om_5c5c439e) (by exact om_505791c7) d29 ta28 (by decide)) (by exact om_a33c9c89 hm45 h73 h119)
        · skip
          refine tr_aload_n dX8_findLight_23 hl37 ?_
          refine q_getI dX8_findLight_24 fl8_50 (kR12 hS40.1 ta0) ((hS40.cell ta0 (by decide +kernel)).trans c33) ?_
          refine tr_aload_n dX8_findLight_27 hl37 ?_
          refine tr_getR dX8_findLight_28 fl8_21 (kR12 hS40.1 ta0) d21 ?_
          refine tr_iload_n dX8_findLight_31 hl38 ?_
          refine q_iald dX8_findLight_32 (kR38 hS40.1 ta20) (ti_in (nR38 hS40.1 ta20) (by exact om_2cfcd5a5 g41) (by exact om_6fd76572 b13.2 b13.1 h47)) ?_
          intro v120 c121
          refine q_iconst dX8_findLight_33 (by decide) ?_
          intro v122 h123
          refine tr_ixor dX8_findLight_34 ?_
          obtain ⟨v124, lx125⟩ : ∃ z, z = v120 ^^^ v122 := ⟨_, rfl⟩
          rw [← lx125]
          refine tr_iand dX8_findLight_35 ?_
          obtain ⟨v126, lx127⟩ : ∃ z, z = v32 &&& v124 := ⟨_, rfl⟩
          rw [← lx127]
          refine tr_goto 40 dX8_findLight_36 (by decide) ?_
          refine q_iast dX8_findLight_40 (kR39 hS40.1 ta22) (ti_in (nR39 hS40.1 ta22) (by exact om_2cfcd5a5 g41) (by exact om_6fd76572 b13.2 b13.1 h47)) hS40 ta22 (iokF rfl) rfl (by rfl) ?_
          intro I128 hS129 e131 f130
          refine tr_aload_n dX8_findLight_41 hl37 ?_
          refine tr_getR dX8_findLight_42 fl8_28 (kR12 hS129.1 ta0) d25 ?_
          refine tr_iload_n dX8_findLight_45 hl38 ?_
          refine tr_dup2 dX8_findLight_46 rfl rfl ?_
          refine q_iald dX8_findLight_47 (kR40 hS129.1 ta24) (ti_in (nR40 hS129.1 ta24) (by exact om_2cfcd5a5 g41) (by exact om_6fd76572 b13.2 b13.1 h47)) ?_
          intro v132 c133
          refine tr_aload_n dX8_findLight_48 hl37 ?_
          refine tr_getR dX8_findLight_49 fl8_25 (kR12 hS129.1 ta0) d23 ?_
          refine tr_iload_n dX8_findLight_52 hl38 ?_
          refine q_iald dX8_findLight_53 (kR39 hS129.1 ta22) (ti_in (nR39 hS129.1 ta22) (by exact om_2cfcd5a5 g41) (by exact om_6fd76572 b13.2 b13.1 h47)) ?_
          intro v134 c135
          refine tr_ior dX8_findLight_54 ?_
          obtain ⟨v136, lx137⟩ : ∃ z, z = v132 ||| v134 := ⟨_, rfl⟩
          rw [← lx137]
          refine q_iast dX8_findLight_55 (kR40 hS129.1 ta24) (ti_in (nR40 hS129.1 ta24) (by exact om_2cfcd5a5 g41) (by exact om_6fd76572 b13.2 b13.1 h47)) hS129 ta24 (iokF rfl) rfl (by rfl) ?_
          intro I138 hS139 e141 f140
          refine tr_aload_n dX8_findLight_56 hl37 ?_
          refine tr_getR dX8_findLight_57 fl8_31 (kR12 hS139.1 ta0) d27 ?_
          refine tr_iload_n dX8_findLight_60 hl38 ?_
          refine tr_iload_n dX8_findLight_61 hl38 ?_
          refine q_if_ne 69 dX8_findLight_62 (by decide) (fun h142 => ?_) (fun h142 => ?_)
          · skip
            refine tr_aload_n dX8_findLight_69 hl37 ?_
            refine tr_getR dX8_findLight_70 fl8_25 (kR12 hS139.1 ta0) d23 ?_
            refine tr_iload_n dX8_findLight_73 hl38 ?_
            refine q_iald dX8_findLight_74 (kR39 hS139.1 ta22) (ti_in (nR39 hS139.1 ta22) (by exact om_2cfcd5a5 g41) (by exact om_6fd76572 b13.2 b13.1 h47)) ?_
            intro v143 c144
            refine tr_aload_n dX8_findLight_75 hl37 ?_
            refine tr_getR dX8_findLight_76 fl8_25 (kR12 hS139.1 ta0) d23 ?_
            refine tr_iload_n dX8_findLight_79 hl38 ?_
            refine q_iconst dX8_findLight_80 (by decide) ?_
            intro v145 h146
            refine q_isubE dX8_findLight_81 (by intro j1 j2 j3 j4; exact om_7f1c52f7 b13.2 b13.1 g41 h47 h146 j2) ?_
            intro v147 h148
            refine q_iald dX8_findLight_82 (kR39 hS139.1 ta22) (ti_in (nR39 hS139.1 ta22) (by exact om_e044a0f7 g41 h142 h146 h148) (by exact om_3413c1b9 b13.2 b13.1 h47 h146 h148)) ?_
            intro v149 c150
            refine tr_ixor dX8_findLight_83 ?_
            obtain ⟨v151, lx152⟩ : ∃ z, z = v143 ^^^ v149 := ⟨_, rfl⟩
            rw [← lx152]
            refine q_iast dX8_findLight_84 (kR41 hS139.1 ta26) (ti_in (nR41 hS139.1 ta26) (by exact om_2cfcd5a5 g41) (by exact om_8d984ce0 b13.2 b13.1 h47 h146 h148)) hS139 ta26 (iokF rfl) rfl (by rfl) ?_
            intro I153 hS154 e156 f155
            refine tr_aload_n dX8_findLight_85 hl37 ?_
            refine tr_getR dX8_findLight_86 fl8_34 (kR12 hS154.1 ta0) d29 ?_
            refine tr_iload_n dX8_findLight_89 hl38 ?_
            refine tr_iload_n dX8_findLight_90 hl38 ?_
            refine q_if_ne 98 dX8_findLight_91 (by decide) (fun h157 => ?_) (fun h157 => ?_)
            · skip
              refine tr_aload_n dX8_findLight_98 hl37 ?_
              refine tr_getR dX8_findLight_99 fl8_28 (kR12 hS154.1 ta0) d25 ?_
              refine tr_iload_n dX8_findLight_102 hl38 ?_
              refine q_iald dX8_findLight_103 (kR40 hS154.1 ta24) (ti_in (nR40 hS154.1 ta24) (by exact om_2cfcd5a5 g41) (by exact om_8d984ce0 b13.2 b13.1 h47 h146 h148)) ?_
              intro v158 c159
              refine tr_aload_n dX8_findLight_104 hl37 ?_
              refine tr_getR dX8_findLight_105 fl8_28 (kR12 hS154.1 ta0) d25 ?_
              refine tr_iload_n dX8_findLight_108 hl38 ?_
              refine q_iconst dX8_findLight_109 (by decide) ?_
              intro v160 h161
              refine q_isubE dX8_findLight_110 (by intro j1 j2 j3 j4; exact om_3e1c4c20 b13.2 b13.1 g41 h47 h146 h148 h161 j2) ?_
              intro v162 h163
              refine q_iald dX8_findLight_111 (kR40 hS154.1 ta24) (ti_in (nR40 hS154.1 ta24) (by exact om_4100254b g41 h146 h148 h157 h161 h163) (by exact om_afc93394 b13.2 b13.1 h47 h146 h148 h161 h163)) ?_
              intro v164 c165
              refine tr_ixor dX8_findLight_112 ?_
              obtain ⟨v166, lx167⟩ : ∃ z, z = v158 ^^^ v164 := ⟨_, rfl⟩
              rw [← lx167]
              refine q_iast dX8_findLight_113 (kR42 hS154.1 ta28) (ti_in (nR42 hS154.1 ta28) (by exact om_2cfcd5a5 g41) (by exact om_f63f4e7a b13.2 b13.1 h47 h146 h148 h161 h163)) hS154 ta28 (iokF rfl) rfl (by rfl) ?_
              intro I168 hS169 e171 f170
              refine q_iincE dX8_findLight_114 hl38 (by decide) (by decide) (by intro j1 j2; exact om_a03a47e5 b13.2 b13.1 g41 h47 h146 h148 h161 h163 j2) ?_
              intro v172 h173
              refine tr_goto 2 dX8_findLight_117 (by decide) ?_
              exact ih45 _ v172 I168 hl37 rfl hS169 (by exact om_48a1345a g41 h146 h148 h161 h163 h173) (by exact om_6dd87294 h47 h146 h148 h161 h163 h173) (by have hq : v36.toInt + 1 = v172.toInt := (by exact om_fb2681f2 h146 h148 h161 h163 h173); rw [← hq]; exact SkF.stp (ix := v36.toNatClampNeg) rw43 hS40.1 ta0 (by exact om_2cfcd5a5 g41) (by exact om_b6fabb1f h47) (ti_nat (by exact om_2cfcd5a5 g41)) d23 d25 d27 d29 e131 f130 e141 f140 e156 f155 e171 f170 (by have hbr := (SkF.br (ix := v36.toNatClampNeg) rw43 d15 d17 d19 (by have z := ti_nat (i := v36) (by exact om_2cfcd5a5 g41); exact om_24d65638 h47 h146 h148 h161 h163 h173 z) (rp55 _ _ _ d15 d17 d19)); rw [ti_nat (i := v36) (by exact om_2cfcd5a5 g41)] at hbr; rw [lx127, lx125]; exact SkF.b1 (ix := v36.toNatClampNeg) rw43 d21 (ti_nat (by exact om_2cfcd5a5 g41)) (by exact om_b6fabb1f h47) (by have z := hA; rw [c33] at z; exact z) c121 (by exact om_dd98535d h123) (by exact om_c8824c47 g41 h54.2 h54.1 h56 h142 h146 h148 h157 h161 h163 h173 hbr)) (lx137.trans (by rw [show v132 = _ from (c133.symm.trans (f130 _ _ (fun q => by have z := ta24; rw [q.1, ta22] at z; exact absurd z (by decide)))), show v134 = v126 from (c135.symm.trans e131)])) (Or.inr ⟨by exact om_18eb5051 g41 h146 h148 h157 h161 h163 h173, lx152.trans (by rw [show v143 = v126 from (c144.symm.trans (Eq.trans (f140 _ _ (fun q => by have z := ta22; rw [q.1, ta24] at z; exact absurd z (by decide))) e131)), show I39 a22 (v36.toNatClampNeg - 1) = v149 from (by have y1 := ti_nat (i := v147) (by exact om_5fe7de33 g41 h146 h148 h157 h161 h163 h173); have y2 := ti_nat (i := v36) (by exact om_2cfcd5a5 g41); rw [show v36.toNatClampNeg - 1 = v147.toNatClampNeg by exact om_16751778 h146 h148 h161 h163 h173 y1 y2]; exact (c150.symm.trans ((f140 _ _ (fun q => by have z := ta22; rw [q.1, ta24] at z; exact absurd z (by decide))).trans (f130 _ _ (fun q => by have z1 := q.2; have z2 := ti_nat (i := v36) (by exact om_2cfcd5a5 g41); have z3 := ti_nat (i := v147) (by exact om_674992b3 h146 h148 h161 h163 h173 y1 y2 q.2); exact om_e990304f h146 h148 h161 h163 h173 y1 y2 q.2)))).symm)])⟩) (Or.inr ⟨by exact om_18eb5051 g41 h146 h148 h157 h161 h163 h173, lx167.trans (by rw [show v158 = v136 from (c159.symm.trans (Eq.trans (f155 _ _ (fun q => by have z := ta24; rw [q.1, ta26] at z; exact absurd z (by decide))) e141)), show I39 a24 (v36.toNatClampNeg - 1) = v164 from (by have y1 := ti_nat (i := v162) (by exact om_150bc167 g41 h146 h148 h157 h161 h163 h173); have y2 := ti_nat (i := v36) (by exact om_2cfcd5a5 g41); rw [show v36.toNatClampNeg - 1 = v162.toNatClampNeg by exact om_1ed6b558 h146 h148 h161 h163 h173 y1 y2]; exact (c165.symm.trans ((f155 _ _ (fun q => by have z := ta24; rw [q.1, ta26] at z; exact absurd z (by decide))).trans ((f140 _ _ (fun q => by have z1 := q.2; have z2 := ti_nat (i := v36) (by exact om_2cfcd5a5 g41); have z3 := ti_nat (i := v162) (by exact om_8c470913 h146 h148 h161 h163 h173 y1 y2 q.2); exact om_bf86b23e h146 h148 h161 h163 h173 y1 y2 q.2)).trans (f130 _ _ (fun q => by have z := ta24; rw [q.1, ta22] at z; exact absurd z (by decide)))))).symm)])⟩)) ((((rw44.pu f130 (s := 6) (by exact om_b97deab5) (by exact om_d96ab4e4) d23 ta22 (by decide)).pu f140 (s := 7) (by exact om_87189927) (by exact om_941b4b89) d25 ta24 (by decide)).pu f155 (s := 8) (by exact om_a4976729) (by exact om_66003279) d27 ta26 (by decide)).pu f170 (s := 9) (by exact om_5c5c439e) (by exact om_505791c7) d29 ta28 (by decide)) (by exact om_2e30a5f6 b13.2 b13.1 g41 hm45 h47 h54.2 h54.1 h56 h142 h146 h148 h157 h161 h163 h173)
            · skip
              exfalso; exact om_14a2221f h142 h146 h148 h157
          · skip
            refine q_iconst dX8_findLight_65 (by decide) ?_
            intro v174 h175
            refine tr_goto 84 dX8_findLight_66 (by decide) ?_
            refine q_iast dX8_findLight_84 (kR41 hS139.1 ta26) (ti_in (nR41 hS139.1 ta26) (by exact om_2cfcd5a5 g41) (by exact om_1b13f499 h142)) hS139 ta26 (iokF rfl) rfl (by rfl) ?_
            intro I176 hS177 e179 f178
            refine tr_aload_n dX8_findLight_85 hl37 ?_
            refine tr_getR dX8_findLight_86 fl8_34 (kR12 hS177.1 ta0) d29 ?_
            refine tr_iload_n dX8_findLight_89 hl38 ?_
            refine tr_iload_n dX8_findLight_90 hl38 ?_
            refine q_if_ne 98 dX8_findLight_91 (by decide) (fun h180 => ?_) (fun h180 => ?_)
            · skip
              exfalso; exact om_3a97d4a5 h142 h180
            · skip
              refine q_iconst dX8_findLight_94 (by decide) ?_
              intro v181 h182
              refine tr_goto 113 dX8_findLight_95 (by decide) ?_
              refine q_iast dX8_findLight_113 (kR42 hS177.1 ta28) (ti_in (nR42 hS177.1 ta28) (by exact om_2cfcd5a5 g41) (by exact om_1b13f499 h142)) hS177 ta28 (iokF rfl) rfl (by rfl) ?_
              intro I183 hS184 e186 f185
              refine q_iincE dX8_findLight_114 hl38 (by decide) (by decide) (by intro j1 j2; exact om_502d7b61 h142) ?_
              intro v187 h188
              refine tr_goto 2 dX8_findLight_117 (by decide) ?_
              exact ih45 _ v187 I183 hl37 rfl hS184 (by exact om_402918db h142 h188) (by exact om_017ec837 h47 h142 h188) (by have hq : v36.toInt + 1 = v187.toInt := (by exact om_ad9109a0 h142 h188); rw [← hq]; exact SkF.stp (ix := v36.toNatClampNeg) rw43 hS40.1 ta0 (by exact om_2cfcd5a5 g41) (by exact om_b6fabb1f h47) (ti_nat (by exact om_2cfcd5a5 g41)) d23 d25 d27 d29 e131 f130 e141 f140 e179 f178 e186 f185 (by have hbr := (SkF.br (ix := v36.toNatClampNeg) rw43 d15 d17 d19 (by have z := ti_nat (i := v36) (by exact om_2cfcd5a5 g41); exact om_9d13f480 h47 h142 z) (rp55 _ _ _ d15 d17 d19)); rw [ti_nat (i := v36) (by exact om_2cfcd5a5 g41)] at hbr; rw [lx127, lx125]; exact SkF.b1 (ix := v36.toNatClampNeg) rw43 d21 (ti_nat (by exact om_2cfcd5a5 g41)) (by exact om_b6fabb1f h47) (by have z := hA; rw [c33] at z; exact z) c121 (by exact om_dd98535d h123) (by exact om_e67e7360 h54.2 h54.1 h56 hbr)) (lx137.trans (by rw [show v132 = _ from (c133.symm.trans (f130 _ _ (fun q => by have z := ta24; rw [q.1, ta22] at z; exact absurd z (by decide)))), show v134 = v126 from (c135.symm.trans e131)])) (Or.inl ⟨by exact om_29f55913 h180, by exact om_29f55913 h175⟩) (Or.inl ⟨by exact om_29f55913 h180, by exact om_29f55913 h182⟩)) ((((rw44.pu f130 (s := 6) (by exact om_b97deab5) (by exact om_d96ab4e4) d23 ta22 (by decide)).pu f140 (s := 7) (by exact om_87189927) (by exact om_941b4b89) d25 ta24 (by decide)).pu f178 (s := 8) (by exact om_a4976729) (by exact om_66003279) d27 ta26 (by decide)).pu f185 (s := 9) (by exact om_5c5c439e) (by exact om_505791c7) d29 ta28 (by decide)) (by exact om_ae35c316 hm45 h54.2 h54.1 h56 h142 h188)
  exact lp45 _ _ v34 I0 rfl rfl hS0 (by exact om_d99fa9e4 h35) (by exact om_a84450f2 b13.2 b13.1 h35) (by rw [show v34.toInt = 0 by exact om_29f55913 h35]; exact SkF.of (by have z := hR; rw [c12] at z; exact z)) (FrS.rf (R := R0) (sk := a0) (T := T)) (Nat.lt_succ_self _)
def wik_X8_findStirs : List Nat := [778, 2815]
def wrk_X8_findStirs : List Nat := []
set_option maxHeartbeats 4000000 in
theorem fk_X8_findStirs {l : Launch} {T : Nat → Nat} {cn : Nat} {K N : Nat → Nat} {I0 : cz_I} {R0 : cz_R} {L0 : cz_L} {d : Int} (hW0 : Wf T cn K N I0 R0 d)  {a0 : Nat} (ta0 : T a0 = 12) {a1 : Nat} (ta1 : T a1 = 6) : ConE l mX8_findStirs [.ref a0, .ref a1] cn K N I0 R0 L0 (ca_v (fun cn' K' N' I' R' L' => cn = cn' ∧ K = K' ∧ N = N' ∧ R0 = R' ∧ L0 = L' ∧ St T cn K N d wik_X8_findStirs wrk_X8_findStirs I0 R0 I' R0 ∧ (FrS R0 a0 T I0 I') ∧ True)) := by
  refine ConE.of (by decide +kernel) rfl (Nat.le_of_ble_eq_true rfl) rfl (fun X hX hZ hE => ?_)
  subst hX
  have hS0 : St T cn K N d wik_X8_findStirs wrk_X8_findStirs I0 R0 I0 R0 := St.rf0 hW0
  obtain ⟨a11, d12, ta11⟩ := rf12_2 hW0 ta0
  obtain ⟨a13, d14, ta13⟩ := rf12_3 hW0 ta0
  obtain ⟨a15, d16, ta15⟩ := rf12_4 hW0 ta0
  obtain ⟨a17, d18, ta17⟩ := rf12_5 hW0 ta0
  obtain ⟨a19, d20, ta19⟩ := rf12_6 hW0 ta0
  obtain ⟨a21, d22, ta21⟩ := rf12_7 hW0 ta0
  obtain ⟨a23, d24, ta23⟩ := rf12_8 hW0 ta0
  obtain ⟨a25, d26, ta25⟩ := rf12_9 hW0 ta0
  obtain ⟨a27, d28, ta27⟩ := rf12_11 hW0 ta0
  obtain ⟨v29, c30⟩ : ∃ v, I0 a0 0 = v := ⟨_, rfl⟩
  have b31 := iv12_0 hW0 ta0 c30
  refine tr_aload_n dX8_findStirs_0 rfl ?_
  refine q_iconst dX8_findStirs_1 (by decide) ?_
  intro v32 h33
  refine q_putI dX8_findStirs_2 fl8_109 (kR12 hS0.1 ta0) (Or.inl rfl) hS0 ta0 (by show (0 : Int) ≤ v32.toInt ∧ v32.toInt ≤ (240 : Int); exact om_9ed8f7f4 h33) rfl (by decide +kernel) ?_
  intro I34 hS35 e36 f37
  refine q_iconst dX8_findStirs_5 (by decide) ?_
  intro v38 h39
  refine tr_istore_n dX8_findStirs_6 (by decide) (by decide) ?_
  have lp52 : ∀ (fu : Nat) (ls : Nat → Option Value) (v40 : Int32) (I44 : cz_I) (v46 : Int32), ls 0 = some (.ref a0) → ls 1 = some (.ref a1) → ls 2 = some (.int v40) → St T cn K N d wik_X8_findStirs wrk_X8_findStirs I0 R0 I44 R0 → I44 a0 10 = v46 → 0 ≤ v40.toInt → 0 ≤ v46.toInt → v46.toInt ≤ v40.toInt → (FrS R0 a0 T I0 I44) → (-v40.toInt + 2147483647).toNat < fu → Tr X mX8_findStirs 7 ls [] cn K N I44 R0 L0 0 0 := by
    intro fu
    induction fu with
    | zero => intros; rename_i hz; exact absurd hz (Nat.not_lt_zero _)
    | succ fu ih52 =>
      intro ls v40 I44 v46 hl41 hl42 hl43 hS45 c47 g48 g49 g50 rw51 hm52
      have b54 := iv12_10 hS45.1 ta0 c47
      refine tr_iload_n dX8_findStirs_7 hl43 ?_
      refine tr_aload_n dX8_findStirs_8 hl41 ?_
      refine q_getI dX8_findStirs_9 fl8_46 (kR12 hS45.1 ta0) ((hS45.cell ta0 (by decide +kernel)).trans c30) ?_
      refine q_icmp_ge 76 dX8_findStirs_12 (by decide) (fun h55 => ?_) (fun h55 => ?_)
      · skip
        exact tr_vret hZ dX8_findStirs_76 rfl (by decide) (by decide) ⟨rfl, rfl, rfl, rfl, rfl, rfl, hS45, rw51, trivial⟩
      · skip
        refine tr_aload_n dX8_findStirs_15 hl41 ?_
        refine tr_getR dX8_findStirs_16 fl8_31 (kR12 hS45.1 ta0) d24 ?_
        refine tr_iload_n dX8_findStirs_19 hl43 ?_
        refine q_iald dX8_findStirs_20 (kR41 hS45.1 ta23) (ti_in (nR41 hS45.1 ta23) (by exact om_2cfcd5a5 g48) (by exact om_6fd76572 b31.2 b31.1 h55)) ?_
        intro v56 c57
        refine q_if_ne 50 dX8_findStirs_21 (by decide) (fun h58 => ?_) (fun h58 => ?_)
        · skip
          refine tr_aload_n dX8_findStirs_50 hl41 ?_
          refine tr_getR dX8_findStirs_51 fl8_37 (kR12 hS45.1 ta0) d28 ?_
          refine tr_aload_n dX8_findStirs_54 hl41 ?_
          refine q_getI dX8_findStirs_55 fl8_109 (kR12 hS45.1 ta0) c47 ?_
          refine tr_iload_n dX8_findStirs_58 hl43 ?_
          refine q_iast dX8_findStirs_59 (kR43 hS45.1 ta27) (ti_in (nR43 hS45.1 ta27) (by exact om_2cfcd5a5 g49) (by exact om_067ad4ec b31.2 b31.1 g48 g49 g50 b54.2 h55)) hS45 ta27 (by show (0 : Int) ≤ v40.toInt ∧ v40.toInt ≤ (239 : Int); exact om_a67abe45 b31.2 b31.1 g48 h55) rfl (by rfl) ?_
          intro I59 hS60 e62 f61
          have c63 : I59 a0 10 = v46 := (f61 _ _ (fun q => by have z := ta0; rw [q.1, ta27] at z; exact absurd z (by decide))).trans c47
          refine tr_aload_n dX8_findStirs_60 hl41 ?_
          refine tr_dup dX8_findStirs_61 rfl ?_
          refine q_getI dX8_findStirs_62 fl8_109 (kR12 hS60.1 ta0) c63 ?_
          refine q_iconst dX8_findStirs_65 (by decide) ?_
          intro v64 h65
          refine q_iaddE dX8_findStirs_66 (by intro j1 j2 j3 j4; exact om_664d34e0 b31.2 b31.1 g48 g49 g50 b54.2 h55 h65) ?_
          intro v66 h67
          refine q_putI dX8_findStirs_67 fl8_109 (kR12 hS60.1 ta0) (Or.inl rfl) hS60 ta0 (by show (0 : Int) ≤ v66.toInt ∧ v66.toInt ≤ (240 : Int); exact om_b80a3fac b31.2 b31.1 g48 g49 g50 b54.2 h55 h65 h67) rfl (by decide +kernel) ?_
          intro I68 hS69 e70 f71
          refine q_iincE dX8_findStirs_70 hl43 (by decide) (by decide) (by intro j1 j2; exact om_c1baff6f b31.2 b31.1 g48 h55 j2) ?_
          intro v72 h73
          refine tr_goto 7 dX8_findStirs_73 (by decide) ?_
          exact ih52 _ v72 I68 v66 hl41 hl42 rfl hS69 e70 (by exact om_68881c41 g48 h73) (by exact om_22576484 g49 b54.2 h65 h67) (by exact om_836ee404 g50 h65 h67 h73) ((rw51.pu f61 (s := 11) (by exact om_e9ccffab) (by exact om_c68099a7) d28 ta27 (by decide)).po f71 rfl ta0) (by exact om_a61dec0f b31.2 b31.1 g48 hm52 h55 h58 h73)
        · skip
          refine tr_aload_n dX8_findStirs_24 hl41 ?_
          refine tr_getR dX8_findStirs_25 fl8_34 (kR12 hS45.1 ta0) d26 ?_
          refine tr_iload_n dX8_findStirs_28 hl43 ?_
          refine q_iald dX8_findStirs_29 (kR42 hS45.1 ta25) (ti_in (nR42 hS45.1 ta25) (by exact om_2cfcd5a5 g48) (by exact om_6fd76572 b31.2 b31.1 h55)) ?_
          intro v74 c75
          refine q_if_ne 50 dX8_findStirs_30 (by decide) (fun h76 => ?_) (fun h76 => ?_)
          · skip
            refine tr_aload_n dX8_findStirs_50 hl41 ?_
            refine tr_getR dX8_findStirs_51 fl8_37 (kR12 hS45.1 ta0) d28 ?_
            refine tr_aload_n dX8_findStirs_54 hl41 ?_
            refine q_getI dX8_findStirs_55 fl8_109 (kR12 hS45.1 ta0) c47 ?_
            refine tr_iload_n dX8_findStirs_58 hl43 ?_
            refine q_iast dX8_findStirs_59 (kR43 hS45.1 ta27) (ti_in (nR43 hS45.1 ta27) (by exact om_2cfcd5a5 g49) (by exact om_067ad4ec b31.2 b31.1 g48 g49 g50 b54.2 h55)) hS45 ta27 (by show (0 : Int) ≤ v40.toInt ∧ v40.toInt ≤ (239 : Int); exact om_a67abe45 b31.2 b31.1 g48 h55) rfl (by rfl) ?_
            intro I77 hS78 e80 f79
            have c81 : I77 a0 10 = v46 := (f79 _ _ (fun q => by have z := ta0; rw [q.1, ta27] at z; exact absurd z (by decide))).trans c47
            refine tr_aload_n dX8_findStirs_60 hl41 ?_
            refine tr_dup dX8_findStirs_61 rfl ?_
            refine q_getI dX8_findStirs_62 fl8_109 (kR12 hS78.1 ta0) c81 ?_
            refine q_iconst dX8_findStirs_65 (by decide) ?_
            intro v82 h83
            refine q_iaddE dX8_findStirs_66 (by intro j1 j2 j3 j4; exact om_664d34e0 b31.2 b31.1 g48 g49 g50 b54.2 h55 h83) ?_
            intro v84 h85
            refine q_putI dX8_findStirs_67 fl8_109 (kR12 hS78.1 ta0) (Or.inl rfl) hS78 ta0 (by show (0 : Int) ≤ v84.toInt ∧ v84.toInt ≤ (240 : Int); exact om_b80a3fac b31.2 b31.1 g48 g49 g50 b54.2 h55 h83 h85) rfl (by decide +kernel) ?_
            intro I86 hS87 e88 f89
            refine q_iincE dX8_findStirs_70 hl43 (by decide) (by decide) (by intro j1 j2; exact om_c1baff6f b31.2 b31.1 g48 h55 j2) ?_
            intro v90 h91
            refine tr_goto 7 dX8_findStirs_73 (by decide) ?_
            exact ih52 _ v90 I86 v84 hl41 hl42 rfl hS87 e88 (by exact om_68881c41 g48 h91) (by exact om_22576484 g49 b54.2 h83 h85) (by exact om_836ee404 g50 h83 h85 h91) ((rw51.pu f79 (s := 11) (by exact om_e9ccffab) (by exact om_c68099a7) d28 ta27 (by decide)).po f89 rfl ta0) (by exact om_a61dec0f b31.2 b31.1 g48 hm52 h55 h76 h91)
          · skip
            refine tr_aload_n dX8_findStirs_33 hl41 ?_
            refine tr_getR dX8_findStirs_34 fl8_15 (kR12 hS45.1 ta0) d14 ?_
            refine tr_iload_n dX8_findStirs_37 hl43 ?_
            refine q_zald dX8_findStirs_38 (kR36 hS45.1 ta13) (ti_in (nR36 hS45.1 ta13) (by exact om_2cfcd5a5 g48) (by exact om_6fd76572 b31.2 b31.1 h55)) ?_
            intro v92 c93
            have b94 := iv36 hS45.1 ta13 c93
            refine q_if_ne 50 dX8_findStirs_39 (by decide) (fun h95 => ?_) (fun h95 => ?_)
            · skip
              refine tr_aload_n dX8_findStirs_50 hl41 ?_
              refine tr_getR dX8_findStirs_51 fl8_37 (kR12 hS45.1 ta0) d28 ?_
              refine tr_aload_n dX8_findStirs_54 hl41 ?_
              refine q_getI dX8_findStirs_55 fl8_109 (kR12 hS45.1 ta0) c47 ?_
              refine tr_iload_n dX8_findStirs_58 hl43 ?_
              refine q_iast dX8_findStirs_59 (kR43 hS45.1 ta27) (ti_in (nR43 hS45.1 ta27) (by exact om_2cfcd5a5 g49) (by exact om_067ad4ec b31.2 b31.1 g48 g49 g50 b54.2 h55)) hS45 ta27 (by show (0 : Int) ≤ v40.toInt ∧ v40.toInt ≤ (239 : Int); exact om_a67abe45 b31.2 b31.1 g48 h55) rfl (by rfl) ?_
              intro I96 hS97 e99 f98
              have c100 : I96 a0 10 = v46 := (f98 _ _ (fun q => by have z := ta0; rw [q.1, ta27] at z; exact absurd z (by decide))).trans c47
              refine tr_aload_n dX8_findStirs_60 hl41 ?_
              refine tr_dup dX8_findStirs_61 rfl ?_
              refine q_getI dX8_findStirs_62 fl8_109 (kR12 hS97.1 ta0) c100 ?_
              refine q_iconst dX8_findStirs_65 (by decide) ?_
              intro v101 h102
              refine q_iaddE dX8_findStirs_66 (by intro j1 j2 j3 j4; exact om_664d34e0 b31.2 b31.1 g48 g49 g50 b54.2 h55 h102) ?_
              intro v103 h104
              refine q_putI dX8_findStirs_67 fl8_109 (kR12 hS97.1 ta0) (Or.inl rfl) hS97 ta0 (by show (0 : Int) ≤ v103.toInt ∧ v103.toInt ≤ (240 : Int); exact om_b80a3fac b31.2 b31.1 g48 g49 g50 b54.2 h55 h102 h104) rfl (by decide +kernel) ?_
              intro I105 hS106 e107 f108
              refine q_iincE dX8_findStirs_70 hl43 (by decide) (by decide) (by intro j1 j2; exact om_c1baff6f b31.2 b31.1 g48 h55 j2) ?_
              intro v109 h110
              refine tr_goto 7 dX8_findStirs_73 (by decide) ?_
              exact ih52 _ v109 I105 v103 hl41 hl42 rfl hS106 e107 (by exact om_68881c41 g48 h110) (by exact om_22576484 g49 b54.2 h102 h104) (by exact om_836ee404 g50 h102 h104 h110) ((rw51.pu f98 (s := 11) (by exact om_e9ccffab) (by exact om_c68099a7) d28 ta27 (by decide)).po f108 rfl ta0) (by exact om_0aaa67ce b31.2 b31.1 g48 hm52 h55 b94.2 b94.1 h95 h110)
            · skip
              refine tr_aload_n dX8_findStirs_42 hl42 ?_
              refine tr_iload_n dX8_findStirs_43 hl43 ?_
              refine q_callVi hE (M' := mX4_holds) (as := [_]) dX8_findStirs_44 lk8_112 inX4_holds seX4_holds myX4_holds (by decide) ⟨by decide, by decide⟩ rfl (kR6 hS45.1 ta1) (Nat.le_of_ble_eq_true rfl) rfl rfl (by decide) (by decide) (k_X4_holds hS45.1 ta1) ?_
              rintro v115 cn' K' N' I111 R112 L113 ⟨rfl, rfl, rfl, rfl, rfl, rfl, h116, -⟩
              refine q_if_eq 70 dX8_findStirs_47 (by decide) (fun h117 => ?_) (fun h117 => ?_)
              · skip
                refine q_iincE dX8_findStirs_70 hl43 (by decide) (by decide) (by intro j1 j2; exact om_c1baff6f b31.2 b31.1 g48 h55 j2) ?_
                intro v118 h119
                refine tr_goto 7 dX8_findStirs_73 (by decide) ?_
                exact ih52 _ v118 I44 v46 hl41 hl42 rfl hS45 c47 (by exact om_68881c41 g48 h119) (by exact om_2cfcd5a5 g49) (by exact om_182c4689 g50 h119) rw51 (by exact om_2e8c00e6 b31.2 b31.1 g48 hm52 h55 h119)
              · skip
                refine tr_aload_n dX8_findStirs_50 hl41 ?_
                refine tr_getR dX8_findStirs_51 fl8_37 (kR12 hS45.1 ta0) d28 ?_
                refine tr_aload_n dX8_findStirs_54 hl41 ?_
                refine q_getI dX8_findStirs_55 fl8_109 (kR12 hS45.1 ta0) c47 ?_
                refine tr_iload_n dX8_findStirs_58 hl43 ?_
                refine q_iast dX8_findStirs_59 (kR43 hS45.1 ta27) (ti_in (nR43 hS45.1 ta27) (by exact om_2cfcd5a5 g49) (by exact om_067ad4ec b31.2 b31.1 g48 g49 g50 b54.2 h55)) hS45 ta27 (by show (0 : Int) ≤ v40.toInt ∧ v40.toInt ≤ (239 : Int); exact om_a67abe45 b31.2 b31.1 g48 h55) rfl (by rfl) ?_
                intro I120 hS121 e123 f122
                have c124 : I120 a0 10 = v46 := (f122 _ _ (fun q => by have z := ta0; rw [q.1, ta27] at z; exact absurd z (by decide))).trans c47
                refine tr_aload_n dX8_findStirs_60 hl41 ?_
                refine tr_dup dX8_findStirs_61 rfl ?_
                refine q_getI dX8_findStirs_62 fl8_109 (kR12 hS121.1 ta0) c124 ?_
                refine q_iconst dX8_findStirs_65 (by decide) ?_
                intro v125 h126
                refine q_iaddE dX8_findStirs_66 (by intro j1 j2 j3 j4; exact om_664d34e0 b31.2 b31.1 g48 g49 g50 b54.2 h55 h126) ?_
                intro v127 h128
                refine q_putI dX8_findStirs_67 fl8_109 (kR12 hS121.1 ta0) (Or.inl rfl) hS121 ta0 (by show (0 : Int) ≤ v127.toInt ∧ v127.toInt ≤ (240 : Int); exact om_b80a3fac b31.2 b31.1 g48 g49 g50 b54.2 h55 h126 h128) rfl (by decide +kernel) ?_
                intro I129 hS130 e131 f132
                refine q_iincE dX8_findStirs_70 hl43 (by decide) (by decide) (by intro j1 j2; exact om_c1baff6f b31.2 b31.1 g48 h55 j2) ?_
                intro v133 h134
                refine tr_goto 7 dX8_findStirs_73 (by decide) ?_
                exact ih52 _ v133 I129 v127 hl41 hl42 rfl hS130 e131 (by exact om_68881c41 g48 h134) (by exact om_22576484 g49 b54.2 h126 h128) (by exact om_836ee404 g50 h126 h128 h134) ((rw51.pu f122 (s := 11) (by exact om_e9ccffab) (by exact om_c68099a7) d28 ta27 (by decide)).po f132 rfl ta0) (by exact om_0aaa67ce b31.2 b31.1 g48 hm52 h55 h116.2 h116.1 h117 h134)
  exact lp52 _ _ v38 I34 v32 rfl rfl rfl hS35 e36 (by exact om_d99fa9e4 h39) (by exact om_d99fa9e4 h33) (by exact om_52c36dab h33 h39) ((FrS.rf (R := R0) (sk := a0) (T := T)).po f37 rfl ta0) (Nat.lt_succ_self _)
def wik_X8_layCloud : List Nat := [2431]
def wrk_X8_layCloud : List Nat := []
set_option maxHeartbeats 4000000 in
theorem fk_X8_layCloud {l : Launch} {T : Nat → Nat} {cn : Nat} {K N : Nat → Nat} {I0 : cz_I} {R0 : cz_R} {L0 : cz_L} {d : Int} (hW0 : Wf T cn K N I0 R0 d)  {a0 : Nat} (ta0 : T a0 = 12) {x1 : Int32} (hx1 : 0 ≤ x1.toInt ∧ x1.toInt ≤ 240) {x2 : Int32} (hx2 : 0 ≤ x2.toInt ∧ x2.toInt ≤ 240) : ConE l mX8_layCloud [.ref a0, .int x1, .int x2] cn K N I0 R0 L0 (ca_v (fun cn' K' N' I' R' L' => cn = cn' ∧ K = K' ∧ N = N' ∧ R0 = R' ∧ L0 = L' ∧ St T cn K N d wik_X8_layCloud wrk_X8_layCloud I0 R0 I' R0 ∧ (∀ r, R0 a0 4 = some r → LyI I0 I' r x1.toInt x2.toInt) ∧ (FrS R0 a0 T I0 I') ∧ True)) := by
  refine ConE.of (by decide +kernel) rfl (Nat.le_of_ble_eq_true rfl) rfl (fun X hX hZ hE => ?_)
  subst hX
  have hS0 : St T cn K N d wik_X8_layCloud wrk_X8_layCloud I0 R0 I0 R0 := St.rf0 hW0
  obtain ⟨a11, d12, ta11⟩ := rf12_2 hW0 ta0
  obtain ⟨a13, d14, ta13⟩ := rf12_3 hW0 ta0
  obtain ⟨a15, d16, ta15⟩ := rf12_4 hW0 ta0
  obtain ⟨a17, d18, ta17⟩ := rf12_5 hW0 ta0
  obtain ⟨a19, d20, ta19⟩ := rf12_6 hW0 ta0
  obtain ⟨a21, d22, ta21⟩ := rf12_7 hW0 ta0
  obtain ⟨a23, d24, ta23⟩ := rf12_8 hW0 ta0
  obtain ⟨a25, d26, ta25⟩ := rf12_9 hW0 ta0
  obtain ⟨a27, d28, ta27⟩ := rf12_11 hW0 ta0
  refine tr_iload_n dX8_layCloud_0 rfl ?_
  refine tr_istore_n dX8_layCloud_1 (by decide) (by decide) ?_
  have lp41 : ∀ (fu : Nat) (ls : Nat → Option Value) (v29 : Int32) (I34 : cz_I), ls 0 = some (.ref a0) → ls 1 = some (.int x1) → ls 2 = some (.int x2) → ls 3 = some (.int v29) → St T cn K N d wik_X8_layCloud wrk_X8_layCloud I0 R0 I34 R0 → 0 ≤ v29.toInt → x1.toInt ≤ v29.toInt → (v29.toInt ≤ x2.toInt ∨ v29.toInt = x1.toInt) → (LyI I0 I34 a15 x1.toInt v29.toInt) → (FrS R0 a0 T I0 I34) → (-v29.toInt + 2147483647).toNat < fu → Tr X mX8_layCloud 2 ls [] cn K N I34 R0 L0 0 0 := by
    intro fu
    induction fu with
    | zero => intros; rename_i hz; exact absurd hz (Nat.not_lt_zero _)
    | succ fu ih41 =>
      intro ls v29 I34 hl30 hl31 hl32 hl33 hS35 g36 g37 g38 rw39 rw40 hm41
      refine tr_iload_n dX8_layCloud_2 hl33 ?_
      refine tr_iload_n dX8_layCloud_3 hl32 ?_
      refine q_icmp_ge 20 dX8_layCloud_4 (by decide) (fun h43 => ?_) (fun h43 => ?_)
      · skip
        exact tr_vret hZ dX8_layCloud_20 rfl (by decide) (by decide) ⟨rfl, rfl, rfl, rfl, rfl, rfl, hS35, (fun r hr => by obtain rfl := Option.some.inj (d16.symm.trans hr); exact LyI.fin rw39 (by exact om_97f5682a h43) (by exact om_fb8a9521 g38)), rw40, trivial⟩
      · skip
        refine tr_aload_n dX8_layCloud_7 hl30 ?_
        refine tr_getR dX8_layCloud_8 fl8_18 (kR12 hS35.1 ta0) d16 ?_
        refine tr_iload_n dX8_layCloud_11 hl33 ?_
        refine q_iconst dX8_layCloud_12 (by decide) ?_
        intro v44 h45
        refine q_zastE dX8_layCloud_13 (kR37 hS35.1 ta15) (ti_in (nR37 hS35.1 ta15) (by exact om_2cfcd5a5 g36) (by exact om_6fd76572 hx2.2 hx2.1 h43)) hS35 ta15 (by exact om_d753bc65 h45) rfl rfl (by rfl) ?_
        intro I46 hS47 e49 f48
        refine q_iincE dX8_layCloud_14 hl33 (by decide) (by decide) (by intro j1 j2; exact om_c1baff6f hx2.2 hx2.1 g36 h43 j2) ?_
        intro v50 h51
        refine tr_goto 2 dX8_layCloud_17 (by decide) ?_
        exact ih41 _ v50 I46 hl30 hl31 hl32 rfl hS47 (by exact om_68881c41 g36 h51) (by exact om_182c4689 g37 h51) (by exact om_66fc939b h43 h51) (LyI.stp (ix := v29.toNatClampNeg) rw39 (ti_nat (by exact om_2cfcd5a5 g36)) (by exact om_97f5682a g37) (by exact om_764ef139 h51) (Eq.trans e49 (Int32.toInt_inj.mp ((show v44.toInt = 1 by exact om_ee8a1e2d h45).trans rfl))) (fun k hk => (f48 _ _ (fun q => hk q.2)))) (rw40.pu f48 (s := 4) (by exact om_294eb8fc) (by exact om_1def1b6d) d16 ta15 (by decide)) (by exact om_2e8c00e6 hx2.2 hx2.1 g36 hm41 h43 h51)
  exact lp41 _ _ x1 I0 rfl rfl rfl rfl hS0 (by exact om_047ac1ac hx1.2 hx1.1) (by exact om_db878e22) (by exact om_ae51ca08) (LyI.z (fun _ => rfl) (by exact om_db878e22)) (FrS.rf (R := R0) (sk := a0) (T := T)) (Nat.lt_succ_self _)
def wik_X8_layEvent : List Nat := [2303, 2367, 2431, 2495, 2623]
def wrk_X8_layEvent : List Nat := []
set_option maxHeartbeats 4000000 in
theorem fk_X8_layEvent {l : Launch} {T : Nat → Nat} {cn : Nat} {K N : Nat → Nat} {I0 : cz_I} {R0 : cz_R} {L0 : cz_L} {d : Int} (hW0 : Wf T cn K N I0 R0 d)  {a0 : Nat} (ta0 : T a0 = 12) {a1 : Nat} (ta1 : T a1 = 3) (pre0 : 0 ≤ (I0 a1 0).toInt) (pre1 : (I0 a1 0).toInt ≤ 4) : ConE l mX8_layEvent [.ref a0, .ref a1] cn K N I0 R0 L0 (ca_v (fun cn' K' N' I' R' L' => cn = cn' ∧ K = K' ∧ N = N' ∧ R0 = R' ∧ L0 = L' ∧ St T cn K N d wik_X8_layEvent wrk_X8_layEvent I0 R0 I' R0 ∧ (∀ r, R0 a0 2 = some r → LyI I0 I' r (I0 a1 2).toInt (if (I0 a1 0).toInt = 1 then (I0 a1 3).toInt else (I0 a1 2).toInt)) ∧ (∀ r, R0 a0 3 = some r → LyI I0 I' r (I0 a1 2).toInt (if (I0 a1 0).toInt = 4 then (I0 a1 3).toInt else (I0 a1 2).toInt)) ∧ (∀ r, R0 a0 4 = some r → LyI I0 I' r (I0 a1 2).toInt (if (I0 a1 0).toInt = 0 then (I0 a1 3).toInt else (I0 a1 2).toInt)) ∧ (∀ r, R0 a0 5 = some r → LyB I0 I' r (I0 a1 2).toInt (if (I0 a1 0).toInt = 3 then (I0 a1 3).toInt else (I0 a1 2).toInt) (I0 a1 1)) ∧ (∀ r, R0 a0 7 = some r → LyB I0 I' r (I0 a1 2).toInt (if (I0 a1 0).toInt = 2 then (I0 a1 3).toInt else (I0 a1 2).toInt) (I0 a1 1)) ∧ (FrS R0 a0 T I0 I') ∧ True)) := by
  refine ConE.of (by decide +kernel) rfl (Nat.le_of_ble_eq_true rfl) rfl (fun X hX hZ hE => ?_)
  subst hX
  have hS0 : St T cn K N d wik_X8_layEvent wrk_X8_layEvent I0 R0 I0 R0 := St.rf0 hW0
  obtain ⟨v11, c12⟩ : ∃ v, I0 a1 0 = v := ⟨_, rfl⟩
  have p13 := pre0
  rw [c12] at p13
  have p14 := pre1
  rw [c12] at p14
  obtain ⟨a15, d16, ta15⟩ := rf12_2 hW0 ta0
  obtain ⟨a17, d18, ta17⟩ := rf12_3 hW0 ta0
  obtain ⟨a19, d20, ta19⟩ := rf12_4 hW0 ta0
  obtain ⟨a21, d22, ta21⟩ := rf12_5 hW0 ta0
  obtain ⟨a23, d24, ta23⟩ := rf12_6 hW0 ta0
  obtain ⟨a25, d26, ta25⟩ := rf12_7 hW0 ta0
  obtain ⟨a27, d28, ta27⟩ := rf12_8 hW0 ta0
  obtain ⟨a29, d30, ta29⟩ := rf12_9 hW0 ta0
  obtain ⟨a31, d32, ta31⟩ := rf12_11 hW0 ta0
  obtain ⟨v33, c34⟩ : ∃ v, I0 a1 1 = v := ⟨_, rfl⟩
  obtain ⟨v35, c36⟩ : ∃ v, I0 a1 2 = v := ⟨_, rfl⟩
  have b37 := iv3_2 hW0 ta1 c36
  obtain ⟨v38, c39⟩ : ∃ v, I0 a1 3 = v := ⟨_, rfl⟩
  have b40 := iv3_3 hW0 ta1 c39
  refine tr_aload_n dX8_layEvent_0 rfl ?_
  refine q_getI dX8_layEvent_1 fl8_93 (kR3 hS0.1 ta1) c36 ?_
  refine tr_istore_n dX8_layEvent_4 (by decide) (by decide) ?_
  have lp55 : ∀ (fu : Nat) (ls : Nat → Option Value) (v41 : Int32) (I45 : cz_I), ls 0 = some (.ref a0) → ls 1 = some (.ref a1) → ls 2 = some (.int v41) → St T cn K N d wik_X8_layEvent wrk_X8_layEvent I0 R0 I45 R0 → 0 ≤ v41.toInt → (LyI I0 I45 a15 v35.toInt (if v11.toInt = 1 then v41.toInt else v35.toInt)) → (LyI I0 I45 a17 v35.toInt (if v11.toInt = 4 then v41.toInt else v35.toInt)) → (LyI I0 I45 a19 v35.toInt (if v11.toInt = 0 then v41.toInt else v35.toInt)) → (LyB I0 I45 a21 v35.toInt (if v11.toInt = 3 then v41.toInt else v35.toInt) v33) → (LyB I0 I45 a25 v35.toInt (if v11.toInt = 2 then v41.toInt else v35.toInt) v33) → (FrS R0 a0 T I0 I45) → (v35.toInt ≤ v41.toInt ∧ (v41.toInt ≤ v38.toInt ∨ v41.toInt = v35.toInt)) → (-v41.toInt + 2147483647).toNat < fu → Tr X mX8_layEvent 5 ls [] cn K N I45 R0 L0 0 0 := by
    intro fu
    induction fu with
    | zero => intros; rename_i hz; exact absurd hz (Nat.not_lt_zero _)
    | succ fu ih55 =>
      intro ls v41 I45 hl42 hl43 hl44 hS46 g47 rw48 rw49 rw50 rw51 rw52 rw53 rw54 hm55
      refine tr_iload_n dX8_layEvent_5 hl44 ?_
      refine tr_aload_n dX8_layEvent_6 hl43 ?_
      refine q_getI dX8_layEvent_7 fl8_97 (kR3 hS46.1 ta1) ((hS46.cell ta1 (by decide +kernel)).trans c39) ?_
      refine q_icmp_ge 117 dX8_layEvent_10 (by decide) (fun h57 => ?_) (fun h57 => ?_)
      · skip
        exact tr_vret hZ dX8_layEvent_117 rfl (by decide) (by decide) ⟨rfl, rfl, rfl, rfl, rfl, rfl, hS46, (fun r hr => by obtain rfl := Option.some.inj (d16.symm.trans hr); rw [c12, c36, c39]; exact LyI.fif rw48 (by exact om_97f5682a h57) (by exact om_251d594c rw54.1 rw54.2)), (fun r hr => by obtain rfl := Option.some.inj (d18.symm.trans hr); rw [c12, c36, c39]; exact LyI.fif rw49 (by exact om_97f5682a h57) (by exact om_251d594c rw54.1 rw54.2)), (fun r hr => by obtain rfl := Option.some.inj (d20.symm.trans hr); rw [c12, c36, c39]; exact LyI.fif rw50 (by exact om_97f5682a h57) (by exact om_251d594c rw54.1 rw54.2)), (fun r hr => by obtain rfl := Option.some.inj (d22.symm.trans hr); rw [c12, c34, c36, c39]; exact LyB.fif rw51 (by exact om_97f5682a h57) (by exact om_251d594c rw54.1 rw54.2)), (fun r hr => by obtain rfl := Option.some.inj (d26.symm.trans hr); rw [c12, c34, c36, c39]; exact LyB.fif rw52 (by exact om_97f5682a h57) (by exact om_251d594c rw54.1 rw54.2)), rw53, trivial⟩
      · skip
        refine tr_aload_n dX8_layEvent_13 hl43 ?_
        refine q_getI dX8_layEvent_14 fl8_99 (kR3 hS46.1 ta1) ((hS46.cell ta1 (by decide +kernel)).trans c12) ?_
        by_cases h58 : v11.toInt = 0
        · skip
          refine tr_tabIn (off := 31) 48 dX8_layEvent_17 (by exact om_7c055b42 h58) (by exact om_0e9741b2 h58) (by rw [h58]; decide +kernel) (by decide) ?_
          refine tr_aload_n dX8_layEvent_48 hl42 ?_
          refine tr_getR dX8_layEvent_49 fl8_18 (kR12 hS46.1 ta0) d20 ?_
          refine tr_iload_n dX8_layEvent_52 hl44 ?_
          refine q_iconst dX8_layEvent_53 (by decide) ?_
          intro v59 h60
          refine q_zastE dX8_layEvent_54 (kR37 hS46.1 ta19) (ti_in (nR37 hS46.1 ta19) (by exact om_2cfcd5a5 g47) (by exact om_6fd76572 b40.2 b40.1 h57)) hS46 ta19 (by exact om_d753bc65 h60) rfl rfl (by rfl) ?_
          intro I61 hS62 e64 f63
          refine tr_goto 111 dX8_layEvent_55 (by decide) ?_
          refine q_iincE dX8_layEvent_111 hl44 (by decide) (by decide) (by intro j1 j2; exact om_c1baff6f b40.2 b40.1 g47 h57 j2) ?_
          intro v65 h66
          refine tr_goto 5 dX8_layEvent_114 (by decide) ?_
          exact ih55 _ v65 I61 hl42 hl43 rfl hS62 (by exact om_68881c41 g47 h66) (by have z := rw48; rw [if_neg (by omega)] at z ⊢; exact z.kp (fun m => (f63 _ _ (fun q => by have z := ta15; rw [q.1, ta19] at z; exact absurd z (by decide))))) (by have z := rw49; rw [if_neg (by omega)] at z ⊢; exact z.kp (fun m => (f63 _ _ (fun q => by have z := ta17; rw [q.1, ta19] at z; exact absurd z (by decide))))) (by have z := rw50; rw [if_pos (by omega)] at z ⊢; exact LyI.stp (ix := v41.toNatClampNeg) z (ti_nat (by exact om_2cfcd5a5 g47)) (by exact om_a42dd386 rw54.1 h66) (by exact om_764ef139 h66) (Eq.trans e64 (Int32.toInt_inj.mp ((show v59.toInt = 1 by exact om_ee8a1e2d h60).trans rfl))) (fun k hk => (f63 _ _ (fun q => hk q.2)))) (by have z := rw51; rw [if_neg (by omega)] at z ⊢; exact z.kp (fun m => (f63 _ _ (fun q => by have z := ta21; rw [q.1, ta19] at z; exact absurd z (by decide))))) (by have z := rw52; rw [if_neg (by omega)] at z ⊢; exact z.kp (fun m => (f63 _ _ (fun q => by have z := ta25; rw [q.1, ta19] at z; exact absurd z (by decide))))) (rw53.pu f63 (s := 4) (by exact om_294eb8fc) (by exact om_1def1b6d) d20 ta19 (by decide)) (by exact om_f57289d9 rw54.1 h57 h66) (by exact om_2e8c00e6 b40.2 b40.1 g47 hm55 h57 h66)
        · skip
          by_cases h67 : v11.toInt = 1
          · skip
            refine tr_tabIn (off := 41) 58 dX8_layEvent_17 (by exact om_6183b2fb h67) (by exact om_abf3c1b2 h67) (by rw [h67]; decide +kernel) (by decide) ?_
            refine tr_aload_n dX8_layEvent_58 hl42 ?_
            refine tr_getR dX8_layEvent_59 fl8_9 (kR12 hS46.1 ta0) d16 ?_
            refine tr_iload_n dX8_layEvent_62 hl44 ?_
            refine q_iconst dX8_layEvent_63 (by decide) ?_
            intro v68 h69
            refine q_zastE dX8_layEvent_64 (kR35 hS46.1 ta15) (ti_in (nR35 hS46.1 ta15) (by exact om_2cfcd5a5 g47) (by exact om_6fd76572 b40.2 b40.1 h57)) hS46 ta15 (by exact om_d753bc65 h69) rfl rfl (by rfl) ?_
            intro I70 hS71 e73 f72
            refine tr_goto 111 dX8_layEvent_65 (by decide) ?_
            refine q_iincE dX8_layEvent_111 hl44 (by decide) (by decide) (by intro j1 j2; exact om_c1baff6f b40.2 b40.1 g47 h57 j2) ?_
            intro v74 h75
            refine tr_goto 5 dX8_layEvent_114 (by decide) ?_
            exact ih55 _ v74 I70 hl42 hl43 rfl hS71 (by exact om_68881c41 g47 h75) (by have z := rw48; rw [if_pos (by omega)] at z ⊢; exact LyI.stp (ix := v41.toNatClampNeg) z (ti_nat (by exact om_2cfcd5a5 g47)) (by exact om_a42dd386 rw54.1 h75) (by exact om_764ef139 h75) (Eq.trans e73 (Int32.toInt_inj.mp ((show v68.toInt = 1 by exact om_ee8a1e2d h69).trans rfl))) (fun k hk => (f72 _ _ (fun q => hk q.2)))) (by have z := rw49; rw [if_neg (by omega)] at z ⊢; exact z.kp (fun m => (f72 _ _ (fun q => by have z := ta17; rw [q.1, ta15] at z; exact absurd z (by decide))))) (by have z := rw50; rw [if_neg (by omega)] at z ⊢; exact z.kp (fun m => (f72 _ _ (fun q => by have z := ta19; rw [q.1, ta15] at z; exact absurd z (by decide))))) (by have z := rw51; rw [if_neg (by omega)] at z ⊢; exact z.kp (fun m => (f72 _ _ (fun q => by have z := ta21; rw [q.1, ta15] at z; exact absurd z (by decide))))) (by have z := rw52; rw [if_neg (by omega)] at z ⊢; exact z.kp (fun m => (f72 _ _ (fun q => by have z := ta25; rw [q.1, ta15] at z; exact absurd z (by decide))))) (rw53.pu f72 (s := 2) (by exact om_a854ffba) (by exact om_e9ccffab) d16 ta15 (by decide)) (by exact om_f57289d9 rw54.1 h57 h75) (by exact om_2a83db2c b40.2 b40.1 g47 hm55 h57 h58 h67 h75)
          · skip
            by_cases h76 : v11.toInt = 2
            · skip
              refine tr_tabIn (off := 51) 68 dX8_layEvent_17 (by exact om_1174f472 h76) (by exact om_1555d2b1 h76) (by rw [h76]; decide +kernel) (by decide) ?_
              refine tr_aload_n dX8_layEvent_68 hl42 ?_
              refine tr_getR dX8_layEvent_69 fl8_28 (kR12 hS46.1 ta0) d26 ?_
              refine tr_iload_n dX8_layEvent_72 hl44 ?_
              refine tr_dup2 dX8_layEvent_73 rfl rfl ?_
              refine q_iald dX8_layEvent_74 (kR40 hS46.1 ta25) (ti_in (nR40 hS46.1 ta25) (by exact om_2cfcd5a5 g47) (by exact om_6fd76572 b40.2 b40.1 h57)) ?_
              intro v77 c78
              refine q_iconst dX8_layEvent_75 (by decide) ?_
              intro v79 h80
              refine tr_aload_n dX8_layEvent_76 hl43 ?_
              refine q_getI dX8_layEvent_77 fl8_102 (kR3 hS46.1 ta1) ((hS46.cell ta1 (by decide +kernel)).trans c34) ?_
              refine tr_ishl dX8_layEvent_80 ?_
              obtain ⟨v81, lx82⟩ : ∃ z, z = v79 <<< (v33 &&& 31) := ⟨_, rfl⟩
              rw [← lx82]
              refine tr_ior dX8_layEvent_81 ?_
              obtain ⟨v83, lx84⟩ : ∃ z, z = v77 ||| v81 := ⟨_, rfl⟩
              rw [← lx84]
              refine q_iast dX8_layEvent_82 (kR40 hS46.1 ta25) (ti_in (nR40 hS46.1 ta25) (by exact om_2cfcd5a5 g47) (by exact om_6fd76572 b40.2 b40.1 h57)) hS46 ta25 (iokF rfl) rfl (by rfl) ?_
              intro I85 hS86 e88 f87
              refine tr_goto 111 dX8_layEvent_83 (by decide) ?_
              refine q_iincE dX8_layEvent_111 hl44 (by decide) (by decide) (by intro j1 j2; exact om_c1baff6f b40.2 b40.1 g47 h57 j2) ?_
              intro v89 h90
              refine tr_goto 5 dX8_layEvent_114 (by decide) ?_
              exact ih55 _ v89 I85 hl42 hl43 rfl hS86 (by exact om_68881c41 g47 h90) (by have z := rw48; rw [if_neg (by omega)] at z ⊢; exact z.kp (fun m => (f87 _ _ (fun q => by have z := ta15; rw [q.1, ta25] at z; exact absurd z (by decide))))) (by have z := rw49; rw [if_neg (by omega)] at z ⊢; exact z.kp (fun m => (f87 _ _ (fun q => by have z := ta17; rw [q.1, ta25] at z; exact absurd z (by decide))))) (by have z := rw50; rw [if_neg (by omega)] at z ⊢; exact z.kp (fun m => (f87 _ _ (fun q => by have z := ta19; rw [q.1, ta25] at z; exact absurd z (by decide))))) (by have z := rw51; rw [if_neg (by omega)] at z ⊢; exact z.kp (fun m => (f87 _ _ (fun q => by have z := ta21; rw [q.1, ta25] at z; exact absurd z (by decide))))) (by have z := rw52; rw [if_pos (by omega)] at z ⊢; exact LyB.stp (ix := v41.toNatClampNeg) (o := v79) z (ti_nat (by exact om_2cfcd5a5 g47)) (by exact om_a42dd386 rw54.1 h90) (by exact om_764ef139 h90) c78 (by exact om_ee8a1e2d h80) (Eq.trans e88 (lx84.trans (by rw [lx82]))) (fun k hk => (f87 _ _ (fun q => hk q.2)))) (rw53.pu f87 (s := 7) (by exact om_87189927) (by exact om_941b4b89) d26 ta25 (by decide)) (by exact om_f57289d9 rw54.1 h57 h90) (by exact om_9def717b b40.2 b40.1 g47 hm55 h57 h58 h67 h76 h90)
            · skip
              by_cases h91 : v11.toInt = 3
              · skip
                refine tr_tabIn (off := 69) 86 dX8_layEvent_17 (by exact om_d4b200a6 h91) (by exact om_52bff43b h91) (by rw [h91]; decide +kernel) (by decide) ?_
                refine tr_aload_n dX8_layEvent_86 hl42 ?_
                refine tr_getR dX8_layEvent_87 fl8_21 (kR12 hS46.1 ta0) d22 ?_
                refine tr_iload_n dX8_layEvent_90 hl44 ?_
                refine tr_dup2 dX8_layEvent_91 rfl rfl ?_
                refine q_iald dX8_layEvent_92 (kR38 hS46.1 ta21) (ti_in (nR38 hS46.1 ta21) (by exact om_2cfcd5a5 g47) (by exact om_6fd76572 b40.2 b40.1 h57)) ?_
                intro v92 c93
                refine q_iconst dX8_layEvent_93 (by decide) ?_
                intro v94 h95
                refine tr_aload_n dX8_layEvent_94 hl43 ?_
                refine q_getI dX8_layEvent_95 fl8_102 (kR3 hS46.1 ta1) ((hS46.cell ta1 (by decide +kernel)).trans c34) ?_
                refine tr_ishl dX8_layEvent_98 ?_
                obtain ⟨v96, lx97⟩ : ∃ z, z = v94 <<< (v33 &&& 31) := ⟨_, rfl⟩
                rw [← lx97]
                refine tr_ior dX8_layEvent_99 ?_
                obtain ⟨v98, lx99⟩ : ∃ z, z = v92 ||| v96 := ⟨_, rfl⟩
                rw [← lx99]
                refine q_iast dX8_layEvent_100 (kR38 hS46.1 ta21) (ti_in (nR38 hS46.1 ta21) (by exact om_2cfcd5a5 g47) (by exact om_6fd76572 b40.2 b40.1 h57)) hS46 ta21 (iokF rfl) rfl (by rfl) ?_
                intro I100 hS101 e103 f102
                refine tr_goto 111 dX8_layEvent_101 (by decide) ?_
                refine q_iincE dX8_layEvent_111 hl44 (by decide) (by decide) (by intro j1 j2; exact om_c1baff6f b40.2 b40.1 g47 h57 j2) ?_
                intro v104 h105
                refine tr_goto 5 dX8_layEvent_114 (by decide) ?_
                exact ih55 _ v104 I100 hl42 hl43 rfl hS101 (by exact om_68881c41 g47 h105) (by have z := rw48; rw [if_neg (by omega)] at z ⊢; exact z.kp (fun m => (f102 _ _ (fun q => by have z := ta15; rw [q.1, ta21] at z; exact absurd z (by decide))))) (by have z := rw49; rw [if_neg (by omega)] at z ⊢; exact z.kp (fun m => (f102 _ _ (fun q => by have z := ta17; rw [q.1, ta21] at z; exact absurd z (by decide))))) (by have z := rw50; rw [if_neg (by omega)] at z ⊢; exact z.kp (fun m => (f102 _ _ (fun q => by have z := ta19; rw [q.1, ta21] at z; exact absurd z (by decide))))) (by have z := rw51; rw [if_pos (by omega)] at z ⊢; exact LyB.stp (ix := v41.toNatClampNeg) (o := v94) z (ti_nat (by exact om_2cfcd5a5 g47)) (by exact om_a42dd386 rw54.1 h105) (by exact om_764ef139 h105) c93 (by exact om_ee8a1e2d h95) (Eq.trans e103 (lx99.trans (by rw [lx97]))) (fun k hk => (f102 _ _ (fun q => hk q.2)))) (by have z := rw52; rw [if_neg (by omega)] at z ⊢; exact z.kp (fun m => (f102 _ _ (fun q => by have z := ta25; rw [q.1, ta21] at z; exact absurd z (by decide))))) (rw53.pu f102 (s := 5) (by exact om_af0c636d) (by exact om_d35c364e) d22 ta21 (by decide)) (by exact om_f57289d9 rw54.1 h57 h105) (by exact om_3100aebe b40.2 b40.1 g47 hm55 h57 h58 h67 h76 h91 h105)
              · skip
                refine tr_tabOut 104 dX8_layEvent_17 (by exact om_8828782f p13 p14 h58 h67 h76 h91) (by decide) ?_
                refine tr_aload_n dX8_layEvent_104 hl42 ?_
                refine tr_getR dX8_layEvent_105 fl8_15 (kR12 hS46.1 ta0) d18 ?_
                refine tr_iload_n dX8_layEvent_108 hl44 ?_
                refine q_iconst dX8_layEvent_109 (by decide) ?_
                intro v106 h107
                refine q_zastE dX8_layEvent_110 (kR36 hS46.1 ta17) (ti_in (nR36 hS46.1 ta17) (by exact om_2cfcd5a5 g47) (by exact om_6fd76572 b40.2 b40.1 h57)) hS46 ta17 (by exact om_d753bc65 h107) rfl rfl (by rfl) ?_
                intro I108 hS109 e111 f110
                refine q_iincE dX8_layEvent_111 hl44 (by decide) (by decide) (by intro j1 j2; exact om_c1baff6f b40.2 b40.1 g47 h57 j2) ?_
                intro v112 h113
                refine tr_goto 5 dX8_layEvent_114 (by decide) ?_
                exact ih55 _ v112 I108 hl42 hl43 rfl hS109 (by exact om_68881c41 g47 h113) (by have z := rw48; rw [if_neg (by omega)] at z ⊢; exact z.kp (fun m => (f110 _ _ (fun q => by have z := ta15; rw [q.1, ta17] at z; exact absurd z (by decide))))) (by have z := rw49; rw [if_pos (by omega)] at z ⊢; exact LyI.stp (ix := v41.toNatClampNeg) z (ti_nat (by exact om_2cfcd5a5 g47)) (by exact om_a42dd386 rw54.1 h113) (by exact om_764ef139 h113) (Eq.trans e111 (Int32.toInt_inj.mp ((show v106.toInt = 1 by exact om_ee8a1e2d h107).trans rfl))) (fun k hk => (f110 _ _ (fun q => hk q.2)))) (by have z := rw50; rw [if_neg (by omega)] at z ⊢; exact z.kp (fun m => (f110 _ _ (fun q => by have z := ta19; rw [q.1, ta17] at z; exact absurd z (by decide))))) (by have z := rw51; rw [if_neg (by omega)] at z ⊢; exact z.kp (fun m => (f110 _ _ (fun q => by have z := ta21; rw [q.1, ta17] at z; exact absurd z (by decide))))) (by have z := rw52; rw [if_neg (by omega)] at z ⊢; exact z.kp (fun m => (f110 _ _ (fun q => by have z := ta25; rw [q.1, ta17] at z; exact absurd z (by decide))))) (rw53.pu f110 (s := 3) (by exact om_e1a5e01b) (by exact om_90e3bce7) d18 ta17 (by decide)) (by exact om_f57289d9 rw54.1 h57 h113) (by exact om_41d1cf28 p13 p14 b40.2 b40.1 g47 hm55 h57 h58 h67 h76 h91 h113)
  exact lp55 _ _ v35 I0 rfl rfl rfl hS0 (by exact om_047ac1ac b37.2 b37.1) (LyI.z (fun _ => rfl) (by split <;> omega)) (LyI.z (fun _ => rfl) (by split <;> omega)) (LyI.z (fun _ => rfl) (by split <;> omega)) (LyB.z (fun _ => rfl) (by split <;> omega)) (LyB.z (fun _ => rfl) (by split <;> omega)) (FrS.rf (R := R0) (sk := a0) (T := T)) (by exact om_764282ae) (Nat.lt_succ_self _)
def wik_X8_build : List Nat := [768, 769, 778, 2303, 2367, 2431, 2495, 2559, 2623, 2687, 2751, 2815]
def wrk_X8_build : List Nat := []
set_option maxHeartbeats 4000000 in
theorem fk_X8_build {l : Launch} {T : Nat → Nat} {cn : Nat} {K N : Nat → Nat} {I0 : cz_I} {R0 : cz_R} {L0 : cz_L} {d : Int} (hW0 : Wf T cn K N I0 R0 d) (gX : Nat → Nat → Int) {a0 : Nat} (ta0 : T a0 = 12) {a1 : Nat} (ta1 : T a1 = 2) {a2 : Nat} (ta2 : T a2 = 8) {x3 : Int32} (hX : EvX I0 R0 a1 a2 gX) : ConE l mX8_build [.ref a0, .ref a1, .ref a2, .int x3] cn K N I0 R0 L0 (ca_v (fun cn' K' N' I' R' L' => cn = cn' ∧ K = K' ∧ N = N' ∧ R0 = R' ∧ L0 = L' ∧ St T cn K N d wik_X8_build wrk_X8_build I0 R0 I' R0 ∧ (SkF I' R0 a0 (I0 a1 0).toInt (I0 a1 1).toInt x3.toInt gX ((I0 a1 3).toInt.toNat + (I0 a2 2).toInt.toNat) (I0 a1 0).toInt) ∧ (FrS R0 a0 T I0 I') ∧ True)) := by
  refine ConE.of (by decide +kernel) rfl (Nat.le_of_ble_eq_true rfl) rfl (fun X hX hZ hE => ?_)
  subst hX
  have hS0 : St T cn K N d wik_X8_build wrk_X8_build I0 R0 I0 R0 := St.rf0 hW0
  obtain ⟨a11, d12, ta11⟩ := rf12_2 hW0 ta0
  obtain ⟨a13, d14, ta13⟩ := rf12_3 hW0 ta0
  obtain ⟨a15, d16, ta15⟩ := rf12_4 hW0 ta0
  obtain ⟨a17, d18, ta17⟩ := rf12_5 hW0 ta0
  obtain ⟨a19, d20, ta19⟩ := rf12_6 hW0 ta0
  obtain ⟨a21, d22, ta21⟩ := rf12_7 hW0 ta0
  obtain ⟨a23, d24, ta23⟩ := rf12_8 hW0 ta0
  obtain ⟨a25, d26, ta25⟩ := rf12_9 hW0 ta0
  obtain ⟨a27, d28, ta27⟩ := rf12_11 hW0 ta0
  obtain ⟨v29, c30⟩ : ∃ v, I0 a1 0 = v := ⟨_, rfl⟩
  have b31 := iv2_0 hW0 ta1 c30
  obtain ⟨v32, c33⟩ : ∃ v, I0 a1 1 = v := ⟨_, rfl⟩
  have b34 := iv2_1 hW0 ta1 c33
  obtain ⟨v35, c36⟩ : ∃ v, I0 a1 3 = v := ⟨_, rfl⟩
  have b37 := iv2_3 hW0 ta1 c36
  obtain ⟨v38, c39⟩ : ∃ v, I0 a2 2 = v := ⟨_, rfl⟩
  have b40 := iv8_2 hW0 ta2 c39
  obtain ⟨a41, d42, ta41⟩ := rf2_4 hW0 ta1
  obtain ⟨a43, d44, ta43⟩ := rf8_3 hW0 ta2
  obtain ⟨a45, d46, ta45⟩ := rf8_4 hW0 ta2
  refine tr_aload_n dX8_build_0 rfl ?_
  refine tr_aload_n dX8_build_1 rfl ?_
  refine q_getI dX8_build_2 fl8_40 (kR2 hS0.1 ta1) c30 ?_
  refine q_putI dX8_build_5 fl8_46 (kR12 hS0.1 ta0) (Or.inl rfl) hS0 ta0 (by show (0 : Int) ≤ v29.toInt ∧ v29.toInt ≤ (240 : Int); exact om_d956ef70 b31) rfl (by decide +kernel) ?_
  intro I47 hS48 e49 f50
  refine tr_aload_n dX8_build_8 rfl ?_
  refine q_iconst dX8_build_9 (by decide) ?_
  intro v51 h52
  refine tr_aload_n dX8_build_10 rfl ?_
  refine q_getI dX8_build_11 fl8_47 (kR2 hS48.1 ta1) ((hS48.cell ta1 (by decide +kernel)).trans c33) ?_
  refine tr_ishl dX8_build_14 ?_
  obtain ⟨v53, lx54⟩ : ∃ z, z = v51 <<< (v32 &&& 31) := ⟨_, rfl⟩
  rw [← lx54]
  refine q_iconst dX8_build_15 (by decide) ?_
  intro v55 h56
  refine tr_isub dX8_build_16 ?_
  obtain ⟨v57, lx58⟩ : ∃ z, z = v53 - v55 := ⟨_, rfl⟩
  rw [← lx58]
  refine q_putI dX8_build_17 fl8_50 (kR12 hS48.1 ta0) (Or.inl rfl) hS48 ta0 (iokF rfl) rfl (by decide +kernel) ?_
  intro I59 hS60 e61 f62
  have c63 : I59 a0 0 = v29 := (f62 _ _ (fun q => absurd q.2 (by decide))).trans e49
  refine tr_aload_n dX8_build_20 rfl ?_
  refine q_callVv hE (M' := mX8_wipe) (as := []) dX8_build_21 lk8_53 inX8_wipe seX8_wipe myX8_wipe (by decide) ⟨by decide, by decide⟩ rfl (kR12 hS60.1 ta0) (Nat.le_of_ble_eq_true rfl) rfl rfl (by decide) (by decide) (fk_X8_wipe hS60.1  ta0) ?_
  rintro cn' K' N' I64 R65 L66 ⟨rfl, rfl, rfl, rfl, rfl, g67, rp70, rp71, -⟩
  have hS72 := hS60.tr g67 (by decide +kernel) (by decide +kernel)
  have c73 : I64 a0 0 = v29 := (g67.cell ta0 (by decide +kernel)).trans c63
  have c74 : I64 a0 1 = v57 := (g67.cell ta0 (by decide +kernel)).trans e61
  refine q_iconst dX8_build_24 (by decide) ?_
  intro v75 h76
  refine tr_istore dX8_build_25 (by decide) (by decide) ?_
  have lp93 : ∀ (fu : Nat) (ls : Nat → Option Value) (v77 : Int32) (I83 : cz_I) (v85 : Int32), ls 0 = some (.ref a0) → ls 1 = some (.ref a1) → ls 2 = some (.ref a2) → ls 3 = some (.int x3) → ls 4 = some (.int v77) → St T cn K N d wik_X8_build wrk_X8_build I0 R0 I83 R0 → I83 a0 0 = v85 → 0 ≤ v77.toInt → v77.toInt ≤ v35.toInt → (SkR I83 R0 a0 v29.toInt x3.toInt gX (v77.toInt.toNat)) → (Bts (I83 a0 1) (fun j => if (j : Int) < v32.toInt then 1 else 0)) → (FrS R0 a0 T I0 I83) → (v85.toInt = v29.toInt) → (-v77.toInt + 2147483647).toNat < fu → Tr X mX8_build 27 ls [] cn K N I83 R0 L0 0 0 := by
    intro fu
    induction fu with
    | zero => intros; rename_i hz; exact absurd hz (Nat.not_lt_zero _)
    | succ fu ih93 =>
      intro ls v77 I83 v85 hl78 hl79 hl80 hl81 hl82 hS84 c86 g87 g88 rw89 rw90 rw91 rw92 hm93
      have b95 := iv12_0 hS84.1 ta0 c86
      refine tr_iload dX8_build_27 hl82 ?_
      refine tr_aload_n dX8_build_29 hl79 ?_
      refine q_getI dX8_build_30 fl8_56 (kR2 hS84.1 ta1) ((hS84.cell ta1 (by decide +kernel)).trans c36) ?_
      refine q_icmp_ge 59 dX8_build_33 (by decide) (fun h96 => ?_) (fun h96 => ?_)
      · skip
        refine q_iconst dX8_build_59 (by decide) ?_
        intro v97 h98
        refine tr_istore dX8_build_60 (by decide) (by decide) ?_
        have lp115 : ∀ (fu : Nat) (ls : Nat → Option Value) (v99 : Int32) (I105 : cz_I) (v107 : Int32), ls 0 = some (.ref a0) → ls 1 = some (.ref a1) → ls 2 = some (.ref a2) → ls 3 = some (.int x3) → ls 4 = some (.int v99) → St T cn K N d wik_X8_build wrk_X8_build I0 R0 I105 R0 → I105 a0 0 = v107 → 0 ≤ v99.toInt → v99.toInt ≤ v38.toInt → (SkR I105 R0 a0 v29.toInt x3.toInt gX (v35.toInt.toNat + v99.toInt.toNat)) → (Bts (I105 a0 1) (fun j => if (j : Int) < v32.toInt then 1 else 0)) → (FrS R0 a0 T I0 I105) → (v107.toInt = v29.toInt) → (-v99.toInt + 2147483647).toNat < fu → Tr X mX8_build 62 ls [] cn K N I105 R0 L0 0 0 := by
          intro fu
          induction fu with
          | zero => intros; rename_i hz; exact absurd hz (Nat.not_lt_zero _)
          | succ fu ih115 =>
            intro ls v99 I105 v107 hl100 hl101 hl102 hl103 hl104 hS106 c108 g109 g110 rw111 rw112 rw113 rw114 hm115
            have b117 := iv12_0 hS106.1 ta0 c108
            refine tr_iload dX8_build_62 hl104 ?_
            refine tr_aload_n dX8_build_64 hl102 ?_
            refine q_getI dX8_build_65 fl8_67 (kR8 hS106.1 ta2) ((hS106.cell ta2 (by decide +kernel)).trans c39) ?_
            refine q_icmp_ge 106 dX8_build_68 (by decide) (fun h118 => ?_) (fun h118 => ?_)
            · skip
              refine tr_aload_n dX8_build_106 hl100 ?_
              refine q_callVv hE (M' := mX8_findLight) (as := []) dX8_build_107 lk8_82 inX8_findLight seX8_findLight myX8_findLight (by decide) ⟨by decide, by decide⟩ rfl (kR12 hS106.1 ta0) (Nat.le_of_ble_eq_true rfl) rfl rfl (by decide) (by decide) (fk_X8_findLight hS106.1 (gX) (v35.toInt.toNat + v38.toInt.toNat) (x3.toInt) (v32.toInt) ta0 (by have z := rw111; rw [show v99.toInt.toNat = v38.toInt.toNat by exact om_b24f5785 b40.2 b40.1 g110 h118, show v29.toInt = v107.toInt by exact om_e0c98d2f rw92 rw114] at z; rw [c108]; exact z) rw112) ?_
              rintro cn' K' N' I119 R120 L121 ⟨rfl, rfl, rfl, rfl, rfl, g122, rp125, rp126, -⟩
              have hS127 := hS106.tr g122 (by decide +kernel) (by decide +kernel)
              have c128 : I119 a0 0 = v107 := (g122.cell ta0 (by decide +kernel)).trans c108
              refine tr_aload_n dX8_build_110 hl100 ?_
              refine tr_aload_n dX8_build_111 hl101 ?_
              obtain ⟨a129, d130, ta129⟩ := rf2_8 hW0 ta1
              refine tr_getR dX8_build_112 fl8_85 (kR2 hS127.1 ta1) d130 ?_
              refine q_callVv hE (M' := mX8_findStirs) (as := [_]) dX8_build_115 lk8_89 inX8_findStirs seX8_findStirs myX8_findStirs (by decide) ⟨by decide, by decide⟩ rfl (kR12 hS127.1 ta0) (Nat.le_of_ble_eq_true rfl) rfl rfl (by decide) (by decide) (fk_X8_findStirs hS127.1  ta0 ta129) ?_
              rintro cn' K' N' I131 R132 L133 ⟨rfl, rfl, rfl, rfl, rfl, g134, rp137, -⟩
              have hS138 := hS127.tr g134 (by decide +kernel) (by decide +kernel)
              have c139 : I131 a0 0 = v107 := (g134.cell ta0 (by decide +kernel)).trans c128
              exact tr_vret hZ dX8_build_118 rfl (by decide) (by decide) ⟨rfl, rfl, rfl, rfl, rfl, rfl, hS138, (by rw [c30, c33, c36, c39]; have z := SkF.kp rp125 (fun r m k h2 h9 hr => by have hk : k = 2 ∨ k = 3 ∨ k = 4 ∨ k = 5 ∨ k = 6 ∨ k = 7 ∨ k = 8 ∨ k = 9 := (by exact om_35773e17 h2 h9); rcases hk with rfl | rfl | rfl | rfl | rfl | rfl | rfl | rfl; exact g134.cell (hS106.1.rs ta0 rfl rfl hr : T r = 35) (wm_no (by decide +kernel)); exact g134.cell (hS106.1.rs ta0 rfl rfl hr : T r = 36) (wm_no (by decide +kernel)); exact g134.cell (hS106.1.rs ta0 rfl rfl hr : T r = 37) (wm_no (by decide +kernel)); exact g134.cell (hS106.1.rs ta0 rfl rfl hr : T r = 38) (wm_no (by decide +kernel)); exact g134.cell (hS106.1.rs ta0 rfl rfl hr : T r = 39) (wm_no (by decide +kernel)); exact g134.cell (hS106.1.rs ta0 rfl rfl hr : T r = 40) (wm_no (by decide +kernel)); exact g134.cell (hS106.1.rs ta0 rfl rfl hr : T r = 41) (wm_no (by decide +kernel)); exact g134.cell (hS106.1.rs ta0 rfl rfl hr : T r = 42) (wm_no (by decide +kernel))); rw [c108, show v107.toInt = v29.toInt by exact om_acd7a85a rw114] at z; exact z), ((rw113.tr rp126).tr rp137), trivial⟩
            · skip
              refine tr_aload_n dX8_build_71 hl101 ?_
              refine q_getI dX8_build_72 fl8_56 (kR2 hS106.1 ta1) ((hS106.cell ta1 (by decide +kernel)).trans c36) ?_
              refine tr_iload dX8_build_75 hl104 ?_
              refine q_iaddE dX8_build_77 (by intro j1 j2 j3 j4; exact om_75112dae b37.2 b37.1 b40.2 b40.1 g88 h96 g109 h118 j4) ?_
              intro v140 h141
              refine tr_iload_n dX8_build_78 hl103 ?_
              refine q_icmp_eq 100 dX8_build_79 (by decide) (fun h142 => ?_) (fun h142 => ?_)
              · skip
                refine q_iincE dX8_build_100 hl104 (by decide) (by decide) (by intro j1 j2; exact om_c595e85a b40.2 b40.1 g109 h118 j2) ?_
                intro v143 h144
                refine tr_goto 62 dX8_build_103 (by decide) ?_
                exact ih115 _ v143 I105 v107 hl100 hl101 hl102 hl103 rfl hS106 c108 (by exact om_68881c41 g109 h144) (by exact om_ed6eac99 h118 h144) (by rw [show v35.toInt.toNat + v143.toInt.toNat = v35.toInt.toNat + v99.toInt.toNat + 1 by exact om_c193f19a g109 h144]; exact SkR.skip rw111 (by exact om_351b2f94 b37.2 b37.1 g88 h96 g109 h141 h142 h144)) (by rw [show (0 : Int) = 0 from rfl]; exact rw112) rw113 (by exact om_acd7a85a rw114) (by exact om_1a7a8c09 b40.2 b40.1 g109 hm115 h118 h144)
              · skip
                refine tr_aload_n dX8_build_82 hl100 ?_
                refine tr_aload_n dX8_build_83 hl102 ?_
                refine tr_getR dX8_build_84 fl8_72 (kR8 hS106.1 ta2) d44 ?_
                refine tr_iload dX8_build_87 hl104 ?_
                refine q_iald dX8_build_89 (kR27 hS106.1 ta43) (ti_in (nR27 hS106.1 ta43) (by exact om_2cfcd5a5 g109) (by exact om_2b874313 b40.2 b40.1 h118)) ?_
                intro v145 c146
                have b147 := iv27 hS106.1 ta43 c146
                refine tr_aload_n dX8_build_90 hl102 ?_
                refine tr_getR dX8_build_91 fl8_75 (kR8 hS106.1 ta2) d46 ?_
                refine tr_iload dX8_build_94 hl104 ?_
                refine q_iald dX8_build_96 (kR28 hS106.1 ta45) (ti_in (nR28 hS106.1 ta45) (by exact om_2cfcd5a5 g109) (by exact om_2b874313 b40.2 b40.1 h118)) ?_
                intro v148 c149
                have b150 := iv28 hS106.1 ta45 c149
                refine q_callVv hE (M' := mX8_layCloud) (as := [_, _]) dX8_build_97 lk8_78 inX8_layCloud seX8_layCloud myX8_layCloud (by decide) ⟨by decide, by decide⟩ rfl (kR12 hS106.1 ta0) (Nat.le_of_ble_eq_true rfl) rfl rfl (by decide) (by decide) (fk_X8_layCloud hS106.1  ta0 (by exact om_d956ef70 b147) (by exact om_d956ef70 b150)) ?_
                rintro cn' K' N' I151 R152 L153 ⟨rfl, rfl, rfl, rfl, rfl, g154, rp157, rp158, -⟩
                have hS159 := hS106.tr g154 (by decide +kernel) (by decide +kernel)
                have c160 : I151 a0 0 = v107 := (g154.cell ta0 (by decide +kernel)).trans c108
                refine q_iincE dX8_build_100 hl104 (by decide) (by decide) (by intro j1 j2; exact om_c595e85a b40.2 b40.1 g109 h118 j2) ?_
                intro v161 h162
                refine tr_goto 62 dX8_build_103 (by decide) ?_
                exact ih115 _ v161 I151 v107 hl100 hl101 hl102 hl103 rfl hS159 c160 (by exact om_68881c41 g109 h162) (by exact om_ed6eac99 h118 h162) (by have hx := (hX.2 _ _ v99.toInt.toNat d44 d46 (by rw [c39]; exact om_e6cc3510 g109 h118 h162)); rw [c36, (show (I0 a43 v99.toInt.toNat) = v145 from (hS106.cell ta43 (wm_no (by decide +kernel))).symm.trans c146), (show (I0 a45 v99.toInt.toNat) = v148 from (hS106.cell ta45 (wm_no (by decide +kernel))).symm.trans c149)] at hx; rw [show v35.toInt.toNat + v161.toInt.toNat = v35.toInt.toNat + v99.toInt.toNat + 1 by exact om_c193f19a g109 h162]; exact SkR.lay (kd := 0) (fr := v145.toInt) (to := v148.toInt) (hut := 0) rw111 (by exact om_9ef9e281 b37.2 b37.1 g88 h96 g109 h141 h142 h162) hx.1 hx.2.1 hx.2.2 (fun w => by exfalso; exact om_10a4a942 w) (fun r hr => LyI.z (fun m => (g154.cell (hS106.1.rs ta0 rfl rfl hr : T r = 35) (wm_no (by decide +kernel)))) (by split <;> omega)) (fun r hr => LyI.z (fun m => (g154.cell (hS106.1.rs ta0 rfl rfl hr : T r = 36) (wm_no (by decide +kernel)))) (by split <;> omega)) (fun r hr => by rw [if_pos rfl]; exact rp157 _ hr) (fun r hr => LyB.z (fun m => (g154.cell (hS106.1.rs ta0 rfl rfl hr : T r = 38) (wm_no (by decide +kernel)))) (by split <;> omega)) (fun r hr => LyB.z (fun m => (g154.cell (hS106.1.rs ta0 rfl rfl hr : T r = 40) (wm_no (by decide +kernel)))) (by split <;> omega))) (by rw [show I151 a0 1 = _ from (g154.cell ta0 (wm_no (by decide +kernel)))]; exact rw112) (rw113.tr rp158) (by exact om_acd7a85a rw114) (by exact om_3727aaeb b40.2 b40.1 g109 hm115 h118 h142 h162)
        exact lp115 _ _ v97 I83 v85 hl78 hl79 hl80 hl81 rfl hS84 c86 (by exact om_d99fa9e4 h98) (by exact om_8dd4330e b40.2 b40.1 h98) (by have z := rw89; rw [show v77.toInt.toNat = v35.toInt.toNat + v97.toInt.toNat by exact om_e991116b b37.2 b37.1 g88 h96 h98] at z; exact z) (by rw [show (0 : Int) = 0 from rfl]; exact rw90) rw91 (by exact om_acd7a85a rw92) (Nat.lt_succ_self _)
      · skip
        refine tr_iload dX8_build_36 hl82 ?_
        refine tr_iload_n dX8_build_38 hl81 ?_
        refine q_icmp_eq 53 dX8_build_39 (by decide) (fun h163 => ?_) (fun h163 => ?_)
        · skip
          refine q_iincE dX8_build_53 hl82 (by decide) (by decide) (by intro j1 j2; exact om_ea605c05 b37.2 b37.1 g87 h96 h163 j2) ?_
          intro v164 h165
          refine tr_goto 27 dX8_build_56 (by decide) ?_
          exact ih93 _ v164 I83 v85 hl78 hl79 hl80 hl81 rfl hS84 c86 (by exact om_075c04dc g87 h163 h165) (by exact om_be2a04d7 h96 h163 h165) (by rw [show v164.toInt.toNat = v77.toInt.toNat + 1 by exact om_a0c7ed41 g87 h163 h165]; exact SkR.skip rw89 (by exact om_6b98728a g87 h163 h165)) (by rw [show (0 : Int) = 0 from rfl]; exact rw90) rw91 (by exact om_acd7a85a rw92) (by exact om_cdf17a06 b37.2 b37.1 g87 hm93 h96 h163 h165)
        · skip
          refine tr_aload_n dX8_build_42 hl78 ?_
          refine tr_aload_n dX8_build_43 hl79 ?_
          refine tr_getR dX8_build_44 fl8_59 (kR2 hS84.1 ta1) d42 ?_
          refine tr_iload dX8_build_47 hl82 ?_
          obtain ⟨a166, d167, ta166⟩ := rf19 hS84.1 ta41 (j := v77.toNatClampNeg) (ti_lt (by exact om_2cfcd5a5 g87) (by exact om_d7ac722a b37.2 b37.1 h96))
          refine tr_aald dX8_build_49 (kR19 hS84.1 ta41) (by decide) (by decide) (ti_in (nR19 hS84.1 ta41) (by exact om_2cfcd5a5 g87) (by exact om_d7ac722a b37.2 b37.1 h96)) d167 ?_
          obtain ⟨v168, c169⟩ : ∃ v, I0 a166 0 = v := ⟨_, rfl⟩
          obtain ⟨v171, c172⟩ : ∃ v, I0 a166 1 = v := ⟨_, rfl⟩
          obtain ⟨v173, c174⟩ : ∃ v, I0 a166 2 = v := ⟨_, rfl⟩
          have b175 := iv3_2 hW0 ta166 c174
          obtain ⟨v176, c177⟩ : ∃ v, I0 a166 3 = v := ⟨_, rfl⟩
          have b178 := iv3_3 hW0 ta166 c177
          have hq170 := hX.1 _ d42 v77.toInt.toNat _ (by rw [c36]; exact om_479568b2 g87 h96) d167
          have hq170k : 0 ≤ v168.toInt ∧ v168.toInt ≤ 4 := by obtain ⟨q0, -, -, -, q4, q5, -⟩ := hq170; rw [c169] at q0; exact om_37240190 q0 q4 q5
          refine q_callVv hE (M' := mX8_layEvent) (as := [_]) dX8_build_50 lk8_63 inX8_layEvent seX8_layEvent myX8_layEvent (by decide) ⟨by decide, by decide⟩ rfl (kR12 hS84.1 ta0) (Nat.le_of_ble_eq_true rfl) rfl rfl (by decide) (by decide) (fk_X8_layEvent hS84.1  ta0 ta166 (by (try rw [((hS84.cell ta166 (by decide +kernel)).trans c169)]); first | done | with_reducible assumption | exact om_e221d927 hq170k.2 hq170k.1) (by (try rw [((hS84.cell ta166 (by decide +kernel)).trans c169)]); first | done | with_reducible assumption | exact om_6205cb58 hq170k.2 hq170k.1)) ?_
          rintro cn' K' N' I179 R180 L181 ⟨rfl, rfl, rfl, rfl, rfl, g182, rp185, rp186, rp187, rp188, rp189, rp190, -⟩
          have hS191 := hS84.tr g182 (by decide +kernel) (by decide +kernel)
          have c192 : I179 a0 0 = v85 := (g182.cell ta0 (by decide +kernel)).trans c86
          refine q_iincE dX8_build_53 hl82 (by decide) (by decide) (by have z0 := x3.toInt_lt; have y0 := x3.le_toInt; intros; omega) ?_
          intro v193 h194
          refine tr_goto 27 dX8_build_56 (by decide) ?_
          exact ih93 _ v193 I179 v85 hl78 hl79 hl80 hl81 rfl hS191 c192 (by exact om_68881c41 g87 h194) (by exact om_ed6eac99 h96 h194) (by rw [show v193.toInt.toNat = v77.toInt.toNat + 1 by exact om_79cef90a g87 h194]; exact SkR.lay rw89 (by exact om_81b3d7ea g87 h163 hq170.2.2.2.2.2.2 hq170.2.2.2.2.2.1 hq170.2.2.2.2.1 h194) (by rw [(hS84.cell ta166 (by decide +kernel))]; exact (hq170.1).symm) (by rw [(hS84.cell ta166 (by decide +kernel))]; exact (hq170.2.2.1).symm) (by rw [(hS84.cell ta166 (by decide +kernel))]; exact (hq170.2.2.2.1).symm) (fun w => by rw [(hS84.cell ta166 (by decide +kernel))] at w; rw [(hS84.cell ta166 (by decide +kernel))]; obtain ⟨q0, q1, -, -, -, -, q6⟩ := hq170; have y := q6 (by exact om_4cd56517 w q0 q6); exact om_4dbe6cd5 q1 y.2 y.1) rp185 rp186 rp187 rp188 rp189) (by rw [show I179 a0 1 = _ from (g182.cell ta0 (wm_no (by decide +kernel)))]; exact rw90) (rw91.tr rp190) (by exact om_acd7a85a rw92) (by exact om_8ed6cffe b37.2 b37.1 g87 hm93 h96 h163 hq170.2.2.2.2.2.2 hq170.2.2.2.2.2.1 hq170.2.2.2.2.1 h194)
  exact lp93 _ _ v75 I64 v29 rfl rfl rfl rfl rfl hS72 c73 (by exact om_d99fa9e4 h76) (by exact om_53c874f4 b37.2 b37.1 h76) (by rw [show v75.toInt.toNat = 0 by exact om_8b46d78f h76]; exact SkR.z (fun r m h hm => rp70 r m h (by rw [c63]; exact om_0880b626 hm))) (by rw [c74, lx58, lx54]; exact Bts.all (by exact om_ee8a1e2d h52) (by exact om_ee8a1e2d h56) (by exact om_e221d927 b34.2 b34.1) (by exact om_6205cb58 b34.2 b34.1)) ((((FrS.rf (R := R0) (sk := a0) (T := T)).po f50 rfl ta0).po f62 rfl ta0).tr rp71) (by exact om_4ee7209a) (Nat.lt_succ_self _)
def wik_X10_presentSky : List Nat := [73, 768, 769, 778, 2303, 2367, 2431, 2495, 2559, 2623, 2687, 2751, 2815]
def wrk_X10_presentSky : List Nat := []
set_option maxHeartbeats 4000000 in
theorem fk_X10_presentSky {l : Launch} {T : Nat → Nat} {cn : Nat} {K N : Nat → Nat} {I0 : cz_I} {R0 : cz_R} {L0 : cz_L} {d : Int} (hW0 : Wf T cn K N I0 R0 d) (gX : Nat → Nat → Int) {a0 : Nat} (ta0 : T a0 = 1) (hX : EvQ I0 R0 a0 gX) (hK : SkQ I0 R0 a0 gX) (hD : DjS R0 a0) : ConE l mX10_presentSky [.ref a0] cn K N I0 R0 L0 (ca_r (fun v cn' K' N' I' R' L' => cn = cn' ∧ K = K' ∧ N = N' ∧ R0 = R' ∧ L0 = L' ∧ St T cn K N d wik_X10_presentSky wrk_X10_presentSky I0 R0 I' R0 ∧ T v = 12 ∧ ((I' a0 9).toInt = 1) ∧ (R0 a0 8 = some v) ∧ (SkW I' R0 a0 gX) ∧ (SkX I0 I' R0 a0 gX) ∧ True)) := by
  refine ConE.of (by decide +kernel) rfl (Nat.le_of_ble_eq_true rfl) rfl (fun X hX hZ hE => ?_)
  subst hX
  have hS0 : St T cn K N d wik_X10_presentSky wrk_X10_presentSky I0 R0 I0 R0 := St.rf0 hW0
  obtain ⟨a1, d2, ta1⟩ := rf1_2 hW0 ta0
  obtain ⟨a3, d4, ta3⟩ := rf1_6 hW0 ta0
  obtain ⟨a5, d6, ta5⟩ := rf1_8 hW0 ta0
  obtain ⟨a7, d8, ta7⟩ := rf1_13 hW0 ta0
  obtain ⟨v9, c10⟩ : ∃ v, I0 a0 9 = v := ⟨_, rfl⟩
  have b11 := iv1_9 hS0.1 ta0 c10
  refine tr_aload_n dX10_presentSky_0 rfl ?_
  refine q_getZ dX10_presentSky_1 fl10_358 (kR1 hS0.1 ta0) c10 ?_
  refine q_if_ne 28 dX10_presentSky_4 (by decide) (fun h12 => ?_) (fun h12 => ?_)
  · skip
    refine tr_aload_n dX10_presentSky_28 rfl ?_
    refine tr_getR dX10_presentSky_29 fl10_49 (kR1 hS0.1 ta0) d6 ?_
    exact tr_aret hZ dX10_presentSky_32 rfl (by decide) (by decide) ⟨a5, rfl, rfl, rfl, rfl, rfl, rfl, hS0, ta5, (by (try rw [c10]); first | done | with_reducible assumption | exact om_eea3e830 b11.2 b11.1 h12), d6, (hK (by rw [c10]; exact om_eea3e830 b11.2 b11.1 h12)), (hK (by rw [c10]; exact om_eea3e830 b11.2 b11.1 h12)), trivial⟩
  · skip
    refine tr_aload_n dX10_presentSky_7 rfl ?_
    refine tr_getR dX10_presentSky_8 fl10_49 (kR1 hS0.1 ta0) d6 ?_
    refine tr_aload_n dX10_presentSky_11 rfl ?_
    refine tr_getR dX10_presentSky_12 fl10_16 (kR1 hS0.1 ta0) d2 ?_
    refine tr_aload_n dX10_presentSky_15 rfl ?_
    refine tr_getR dX10_presentSky_16 fl10_35 (kR1 hS0.1 ta0) d4 ?_
    refine q_iconst dX10_presentSky_19 (by decide) ?_
    intro v13 h14
    refine q_callVv hE (M' := mX8_build) (as := [_, _, _]) dX10_presentSky_20 lk10_237 inX8_build seX8_build myX8_build (by decide) ⟨by decide, by decide⟩ rfl (kR12 hS0.1 ta5) (Nat.le_of_ble_eq_true rfl) rfl rfl (by decide) (by decide) (fk_X8_build hS0.1 (gX) ta5 ta1 ta3 (hX _ _ d2 d4)) ?_
    rintro cn' K' N' I15 R16 L17 ⟨rfl, rfl, rfl, rfl, rfl, g18, rp21, rp22, -⟩
    have hS23 := hS0.tr g18 (by decide +kernel) (by decide +kernel)
    have c24 : I15 a0 9 = v9 := (g18.cell ta0 (by decide +kernel)).trans c10
    refine tr_aload_n dX10_presentSky_23 rfl ?_
    refine q_iconst dX10_presentSky_24 (by decide) ?_
    intro v25 h26
    refine q_putZ dX10_presentSky_25 fl10_358 (kR1 hS23.1 ta0) (Or.inl rfl) hS23 ta0 (by exact om_d753bc65 h26) (by show (0 : Int) ≤ v25.toInt ∧ v25.toInt ≤ (1 : Int); exact om_d753bc65 h26) rfl (by decide +kernel) ?_
    intro I27 hS28 e29 f30
    refine tr_aload_n dX10_presentSky_28 rfl ?_
    refine tr_getR dX10_presentSky_29 fl10_49 (kR1 hS28.1 ta0) d6 ?_
    exact tr_aret hZ dX10_presentSky_32 rfl (by decide) (by decide) ⟨a5, rfl, rfl, rfl, rfl, rfl, rfl, hS28, ta5, (by (try rw [e29]); first | done | with_reducible assumption | omega), d6, (SkW.put (SkW.bld hW0 ta0 g18 (by decide +kernel) d6 d2 d4 (by exact om_dd98535d h14) rp21) hW0 ta0 f30 ta0 (by decide)), (SkX.bld hW0 ta0 d6 d2 d4 (by exact om_dd98535d h14) rp21 f30 ta0 (by decide)), trivial⟩
def wik_X10_presentNight : List Nat := [73, 75, 768, 769, 778, 834, 2303, 2367, 2431, 2495, 2559, 2623, 2687, 2751, 2815, 2879, 2943, 3007, 3071, 3135, 3199, 3263, 3327, 3391]
def wrk_X10_presentNight : List Nat := [832, 833]
set_option maxHeartbeats 4000000 in
theorem fk_X10_presentNight {l : Launch} {T : Nat → Nat} {cn : Nat} {K N : Nat → Nat} {I0 : cz_I} {R0 : cz_R} {L0 : cz_L} {d : Int} (hW0 : Wf T cn K N I0 R0 d) (gX : Nat → Nat → Int) {a0 : Nat} (ta0 : T a0 = 1) (hX : EvQ I0 R0 a0 gX) (hK : SkQ I0 R0 a0 gX) (hD : DjS R0 a0) : ConE l mX10_presentNight [.ref a0] cn K N I0 R0 L0 (ca_r (fun v cn' K' N' I' R' L' => cn = cn' ∧ K = K' ∧ N = N' ∧ L0 = L' ∧ St T cn K N d wik_X10_presentNight wrk_X10_presentNight I0 R0 I' R' ∧ T v = 13 ∧ (SkQ I' R0 a0 gX) ∧ True)) := by
  refine ConE.of (by decide +kernel) rfl (Nat.le_of_ble_eq_true rfl) rfl (fun X hX hZ hE => ?_)
  subst hX
  have hS0 : St T cn K N d wik_X10_presentNight wrk_X10_presentNight I0 R0 I0 R0 := St.rf0 hW0
  obtain ⟨a1, d2, ta1⟩ := rf1_2 hW0 ta0
  obtain ⟨a3, d4, ta3⟩ := rf1_6 hW0 ta0
  obtain ⟨a5, d6, ta5⟩ := rf1_8 hW0 ta0
  obtain ⟨a7, d8, ta7⟩ := rf1_13 hW0 ta0
  refine tr_aload_n dX10_presentNight_0 rfl ?_
  obtain ⟨v9, c10⟩ : ∃ v, I0 a0 11 = v := ⟨_, rfl⟩
  have b11 := iv1_11 hS0.1 ta0 c10
  refine q_getZ dX10_presentNight_1 fl10_288 (kR1 hS0.1 ta0) c10 ?_
  refine q_if_ne 38 dX10_presentNight_4 (by decide) (fun h12 => ?_) (fun h12 => ?_)
  · skip
    refine tr_aload_n dX10_presentNight_38 rfl ?_
    obtain ⟨a13, d14, ta13⟩ := rf1_10 hW0 ta0
    refine tr_getR dX10_presentNight_39 fl10_58 (kR1 hS0.1 ta0) d14 ?_
    exact tr_aret hZ dX10_presentNight_42 rfl (by decide) (by decide) ⟨a13, rfl, rfl, rfl, rfl, rfl, hS0, ta13, hK, trivial⟩
  · skip
    refine tr_aload_n dX10_presentNight_7 rfl ?_
    obtain ⟨a15, d16, ta15⟩ := rf1_10 hW0 ta0
    refine tr_getR dX10_presentNight_8 fl10_58 (kR1 hS0.1 ta0) d16 ?_
    refine tr_aload_n dX10_presentNight_11 rfl ?_
    refine tr_getR dX10_presentNight_12 fl10_16 (kR1 hS0.1 ta0) d2 ?_
    refine tr_aload_n dX10_presentNight_15 rfl ?_
    refine q_callVr hE (M' := mX10_presentSky) (as := []) dX10_presentNight_16 lk10_119 inX10_presentSky seX10_presentSky myX10_presentSky (by decide) ⟨by decide, by decide⟩ rfl (kR1 hS0.1 ta0) (Nat.le_of_ble_eq_true rfl) rfl rfl (by decide) (by decide) (fk_X10_presentSky hS0.1 (gX) ta0 hX hK hD) ?_
    rintro a22 cn' K' N' I17 R18 L19 ⟨rfl, rfl, rfl, rfl, rfl, g20, ta22, p23, rp24, rp25, rp26, -⟩
    have hS27 := hS0.tr g20 (by decide +kernel) (by decide +kernel)
    have c28 : I17 a0 11 = v9 := (g20.cell ta0 (by decide +kernel)).trans c10
    obtain ⟨v29, c30⟩ : ∃ v, I17 a0 9 = v := ⟨_, rfl⟩
    have b31 := iv1_9 hS27.1 ta0 c30
    rw [c30] at p23
    refine tr_aload_n dX10_presentNight_19 rfl ?_
    refine tr_getR dX10_presentNight_20 fl10_35 (kR1 hS27.1 ta0) d4 ?_
    obtain ⟨v32, c33⟩ : ∃ v, I0 a3 0 = v := ⟨_, rfl⟩
    refine q_getI dX10_presentNight_23 fl10_181 (kR8 hS27.1 ta3) ((hS27.cell ta3 (by decide +kernel)).trans c33) ?_
    refine tr_aload_n dX10_presentNight_26 rfl ?_
    refine q_callVi hE (M' := mX10_allTurners) (as := []) dX10_presentNight_27 lk10_184 inX10_allTurners seX10_allTurners myX10_allTurners (by decide) ⟨by decide, by decide⟩ rfl (kR1 hS27.1 ta0) (Nat.le_of_ble_eq_true rfl) rfl rfl (by decide) (by decide) (k_X10_allTurners hS27.1 ta0) ?_
    rintro v38 cn' K' N' I34 R35 L36 ⟨rfl, rfl, rfl, rfl, rfl, rfl, h39, -⟩
    refine q_callVv hE (M' := mX5_play) (as := [_, _, _, _]) dX10_presentNight_30 lk10_188 inX5_play seX5_play myX5_play (by decide) ⟨by decide, by decide⟩ rfl (kR13 hS27.1 ta15) (Nat.le_of_ble_eq_true rfl) rfl rfl (by decide) (by decide) (k_X5_play hS27.1 ta15 ta1 ta22) ?_
    rintro cn' K' N' I40 R41 L42 ⟨rfl, rfl, rfl, rfl, g43, -⟩
    have hS45 := hS27.tr g43 (by decide +kernel) (by decide +kernel)
    have c46 : I40 a0 11 = v9 := (g43.cell ta0 (by decide +kernel)).trans c28
    have c47 : I40 a0 9 = v29 := (g43.cell ta0 (by decide +kernel)).trans c30
    refine tr_aload_n dX10_presentNight_33 rfl ?_
    refine q_iconst dX10_presentNight_34 (by decide) ?_
    intro v48 h49
    refine q_putZ dX10_presentNight_35 fl10_288 (kR1 hS45.1 ta0) (Or.inl rfl) hS45 ta0 (by exact om_d753bc65 h49) (by show (0 : Int) ≤ v48.toInt ∧ v48.toInt ≤ (1 : Int); exact om_d753bc65 h49) rfl (by decide +kernel) ?_
    intro I50 hS51 e52 f53
    have c54 : I50 a0 9 = v29 := (f53 _ _ (fun q => absurd q.2 (by decide))).trans c47
    refine tr_aload_n dX10_presentNight_38 rfl ?_
    refine tr_getR dX10_presentNight_39 fl10_58 (kR1 hS51.1 ta0) ((hS51.rcell ta0 (by decide +kernel)).trans d16) ?_
    exact tr_aret hZ dX10_presentNight_42 rfl (by decide) (by decide) ⟨a15, rfl, rfl, rfl, rfl, rfl, hS51, ta15, (SkQ.put (SkQ.st (SkQ.of rp25) hW0 ta0 g43 (by decide +kernel) (by decide +kernel)) hW0 ta0 f53 ta0 (by decide) (fun q => absurd q.2 (by decide))), trivial⟩
def wik_X10_veinMinute : List Nat := [73, 75, 768, 769, 778, 834, 2303, 2367, 2431, 2495, 2559, 2623, 2687, 2751, 2815, 2879, 2943, 3007, 3071, 3135, 3199, 3263, 3327, 3391]
def wrk_X10_veinMinute : List Nat := [832, 833]
set_option maxHeartbeats 4000000 in
theorem fk_X10_veinMinute {l : Launch} {T : Nat → Nat} {cn : Nat} {K N : Nat → Nat} {I0 : cz_I} {R0 : cz_R} {L0 : cz_L} {d : Int} (hW0 : Wf T cn K N I0 R0 d) (gX : Nat → Nat → Int) {a0 : Nat} (ta0 : T a0 = 1) {x1 : Int32} {x2 : Int32} (hX : EvQ I0 R0 a0 gX) (hK : SkQ I0 R0 a0 gX) (hD : DjS R0 a0) : ConE l mX10_veinMinute [.ref a0, .int x1, .int x2] cn K N I0 R0 L0 (ca_i (fun v cn' K' N' I' R' L' => cn = cn' ∧ K = K' ∧ N = N' ∧ L0 = L' ∧ St T cn K N d wik_X10_veinMinute wrk_X10_veinMinute I0 R0 I' R' ∧ (SkQ I' R0 a0 gX) ∧ True)) := by
  refine ConE.of (by decide +kernel) rfl (Nat.le_of_ble_eq_true rfl) rfl (fun X hX hZ hE => ?_)
  subst hX
  have hS0 : St T cn K N d wik_X10_veinMinute wrk_X10_veinMinute I0 R0 I0 R0 := St.rf0 hW0
  obtain ⟨a1, d2, ta1⟩ := rf1_2 hW0 ta0
  obtain ⟨a3, d4, ta3⟩ := rf1_6 hW0 ta0
  obtain ⟨a5, d6, ta5⟩ := rf1_8 hW0 ta0
  obtain ⟨a7, d8, ta7⟩ := rf1_13 hW0 ta0
  refine tr_aload_n dX10_veinMinute_0 rfl ?_
  refine tr_iload_n dX10_veinMinute_1 rfl ?_
  refine q_callVi hE (M' := mX10_isCheese) (as := [_]) dX10_veinMinute_2 lk10_195 inX10_isCheese seX10_isCheese myX10_isCheese (by decide) ⟨by decide, by decide⟩ rfl (kR1 hS0.1 ta0) (Nat.le_of_ble_eq_true rfl) rfl rfl (by decide) (by decide) (k_X10_isCheese hS0.1 ta0) ?_
  rintro v13 cn' K' N' I9 R10 L11 ⟨rfl, rfl, rfl, rfl, rfl, rfl, h14, p15, -⟩
  refine q_if_eq 20 dX10_veinMinute_5 (by decide) (fun h16 => ?_) (fun h16 => ?_)
  · skip
    refine q_iconst dX10_veinMinute_20 (by decide) ?_
    intro v17 h18
    exact tr_iret hZ dX10_veinMinute_21 rfl (by decide) (by decide) ⟨v17, rfl, rfl, rfl, rfl, rfl, hS0, hK, trivial⟩
  · skip
    refine tr_aload_n dX10_veinMinute_8 rfl ?_
    refine q_callVr hE (M' := mX10_presentNight) (as := []) dX10_veinMinute_9 lk10_155 inX10_presentNight seX10_presentNight myX10_presentNight (by decide) ⟨by decide, by decide⟩ rfl (kR1 hS0.1 ta0) (Nat.le_of_ble_eq_true rfl) rfl rfl (by decide) (by decide) (fk_X10_presentNight hS0.1 (gX) ta0 hX hK hD) ?_
    rintro a24 cn' K' N' I19 R20 L21 ⟨rfl, rfl, rfl, rfl, g22, ta24, rp25, -⟩
    have hS26 := hS0.tr g22 (by decide +kernel) (by decide +kernel)
    refine tr_iload_n dX10_veinMinute_12 rfl ?_
    refine tr_iload_n dX10_veinMinute_13 rfl ?_
    refine q_callVi hE (M' := mX5_minuteOfVein) (as := [_, _]) dX10_veinMinute_14 lk10_371 inX5_minuteOfVein seX5_minuteOfVein myX5_minuteOfVein (by decide) ⟨by decide, by decide⟩ rfl (kR13 hS26.1 ta24) (Nat.le_of_ble_eq_true rfl) rfl rfl (by decide) (by decide) (k_X5_minuteOfVein hS26.1 ta24) ?_
    rintro v31 cn' K' N' I27 R28 L29 ⟨rfl, rfl, rfl, rfl, rfl, rfl, -⟩
    refine tr_goto 21 dX10_veinMinute_17 (by decide) ?_
    exact tr_iret hZ dX10_veinMinute_21 rfl (by decide) (by decide) ⟨v31, rfl, rfl, rfl, rfl, rfl, hS26, rp25, trivial⟩
def wik_X10_bestCalls : List Nat := [73, 768, 769, 778, 834, 2303, 2367, 2431, 2495, 2559, 2623, 2687, 2751, 2815, 2879, 2943, 3007, 3071, 3135, 3199, 3263, 3327, 3391]
def wrk_X10_bestCalls : List Nat := [832, 833]
set_option maxHeartbeats 4000000 in
theorem fk_X10_bestCalls {l : Launch} {T : Nat → Nat} {cn : Nat} {K N : Nat → Nat} {I0 : cz_I} {R0 : cz_R} {L0 : cz_L} {d : Int} (hW0 : Wf T cn K N I0 R0 d) (gX : Nat → Nat → Int) {a0 : Nat} (ta0 : T a0 = 1) (hX : EvQ I0 R0 a0 gX) (hK : SkQ I0 R0 a0 gX) (hD : DjS R0 a0) : ConE l mX10_bestCalls [.ref a0] cn K N I0 R0 L0 (ca_i (fun v cn' K' N' I' R' L' => cn = cn' ∧ K = K' ∧ N = N' ∧ L0 = L' ∧ St T cn K N d wik_X10_bestCalls wrk_X10_bestCalls I0 R0 I' R' ∧ (SkQ I' R0 a0 gX) ∧ True)) := by
  refine ConE.of (by decide +kernel) rfl (Nat.le_of_ble_eq_true rfl) rfl (fun X hX hZ hE => ?_)
  subst hX
  have hS0 : St T cn K N d wik_X10_bestCalls wrk_X10_bestCalls I0 R0 I0 R0 := St.rf0 hW0
  obtain ⟨a1, d2, ta1⟩ := rf1_2 hW0 ta0
  obtain ⟨a3, d4, ta3⟩ := rf1_6 hW0 ta0
  obtain ⟨a5, d6, ta5⟩ := rf1_8 hW0 ta0
  obtain ⟨a7, d8, ta7⟩ := rf1_13 hW0 ta0
  refine q_iconst dX10_bestCalls_0 (by decide) ?_
  intro v9 h10
  refine tr_istore_n dX10_bestCalls_1 (by decide) (by decide) ?_
  refine q_ldcw (-100000) dX10_bestCalls_2 ld10_356 (by decide +kernel) ?_
  intro v11 h12
  refine tr_istore_n dX10_bestCalls_5 (by decide) (by decide) ?_
  refine q_iconst dX10_bestCalls_6 (by decide) ?_
  intro v13 h14
  refine tr_istore_n dX10_bestCalls_7 (by decide) (by decide) ?_
  have lp27 : ∀ (fu : Nat) (ls : Nat → Option Value) (v15 : Int32) (v16 : Int32) (v17 : Int32) (I22 : cz_I) (R23 : cz_R), ls 0 = some (.ref a0) → ls 1 = some (.int v15) → ls 2 = some (.int v16) → ls 3 = some (.int v17) → St T cn K N d wik_X10_bestCalls wrk_X10_bestCalls I0 R0 I22 R23 → 0 ≤ v17.toInt → (SkQ I22 R0 a0 gX) → (-v17.toInt + 2147483647).toNat < fu → Tr X mX10_bestCalls 8 ls [] cn K N I22 R23 L0 0 0 := by
    intro fu
    induction fu with
    | zero => intros; rename_i hz; exact absurd hz (Nat.not_lt_zero _)
    | succ fu ih27 =>
      intro ls v15 v16 v17 I22 R23 hl18 hl19 hl20 hl21 hS24 g25 rw26 hm27
      refine tr_iload_n dX10_bestCalls_8 hl21 ?_
      refine tr_aload_n dX10_bestCalls_9 hl18 ?_
      refine q_callVi hE (M' := mX10_allCalls) (as := []) dX10_bestCalls_10 lk10_263 inX10_allCalls seX10_allCalls myX10_allCalls (by decide) ⟨by decide, by decide⟩ rfl (kR1 hS24.1 ta0) (Nat.le_of_ble_eq_true rfl) rfl rfl (by decide) (by decide) (k_X10_allCalls hS24.1 ta0) ?_
      rintro v33 cn' K' N' I29 R30 L31 ⟨rfl, rfl, rfl, rfl, rfl, rfl, h34, -⟩
      refine q_icmp_gt 91 dX10_bestCalls_13 (by decide) (fun h35 => ?_) (fun h35 => ?_)
      · skip
        refine tr_iload_n dX10_bestCalls_91 hl19 ?_
        exact tr_iret hZ dX10_bestCalls_92 rfl (by decide) (by decide) ⟨v15, rfl, rfl, rfl, rfl, rfl, hS24, rw26, trivial⟩
      · skip
        refine tr_aload_n dX10_bestCalls_16 hl18 ?_
        obtain ⟨a36, d37, ta36⟩ := rf1_14 hW0 ta0
        refine tr_getR dX10_bestCalls_17 fl10_68 (kR1 hS24.1 ta0) ((hS24.rcell ta0 (by decide +kernel)).trans d37) ?_
        refine tr_aload_n dX10_bestCalls_20 hl18 ?_
        refine tr_getR dX10_bestCalls_21 fl10_16 (kR1 hS24.1 ta0) ((hS24.rcell ta0 (by decide +kernel)).trans d2) ?_
        refine tr_aload_n dX10_bestCalls_24 hl18 ?_
        refine q_callVr hE (M' := mX10_presentSky) (as := []) dX10_bestCalls_25 lk10_119 inX10_presentSky seX10_presentSky myX10_presentSky (by decide) ⟨by decide, by decide⟩ rfl (kR1 hS24.1 ta0) (Nat.le_of_ble_eq_true rfl) rfl rfl (by decide) (by decide) (fk_X10_presentSky hS24.1 (gX) ta0 (EvQ.rc (EvQ.st hX hW0 ta0 hS24 (by decide +kernel)) hW0 ta0 (R13 hS24 (by decide +kernel))) (SkQ.rc rw26 hW0 ta0 (R13 hS24 (by decide +kernel))) (DjS.rc hD hW0 ta0 (R13 hS24 (by decide +kernel)))) ?_
        rintro a43 cn' K' N' I38 R39 L40 ⟨rfl, rfl, rfl, rfl, rfl, g41, ta43, p44, rp45, rp46, rp47, -⟩
        have hS48 := hS24.tr g41 (by decide +kernel) (by decide +kernel)
        obtain ⟨v49, c50⟩ : ∃ v, I38 a0 9 = v := ⟨_, rfl⟩
        have b51 := iv1_9 hS48.1 ta0 c50
        rw [c50] at p44
        refine tr_iload_n dX10_bestCalls_28 hl21 ?_
        refine tr_aload_n dX10_bestCalls_29 hl18 ?_
        refine q_callVi hE (M' := mX10_allTurners) (as := []) dX10_bestCalls_30 lk10_184 inX10_allTurners seX10_allTurners myX10_allTurners (by decide) ⟨by decide, by decide⟩ rfl (kR1 hS48.1 ta0) (Nat.le_of_ble_eq_true rfl) rfl rfl (by decide) (by decide) (k_X10_allTurners hS48.1 ta0) ?_
        rintro v56 cn' K' N' I52 R53 L54 ⟨rfl, rfl, rfl, rfl, rfl, rfl, h57, -⟩
        refine q_callVv hE (M' := mX5_play) (as := [_, _, _, _]) dX10_bestCalls_33 lk10_188 inX5_play seX5_play myX5_play (by decide) ⟨by decide, by decide⟩ rfl (kR13 hS48.1 ta36) (Nat.le_of_ble_eq_true rfl) rfl rfl (by decide) (by decide) (k_X5_play hS48.1 ta36 ta1 ta43) ?_
        rintro cn' K' N' I58 R59 L60 ⟨rfl, rfl, rfl, rfl, g61, -⟩
        have hS63 := hS48.tr g61 (by decide +kernel) (by decide +kernel)
        have c64 : I58 a0 9 = v49 := (g61.cell ta0 (by decide +kernel)).trans c50
        refine tr_aload_n dX10_bestCalls_36 hl18 ?_
        refine tr_getR dX10_bestCalls_37 fl10_68 (kR1 hS63.1 ta0) ((hS63.rcell ta0 (by decide +kernel)).trans d37) ?_
        refine q_callVi hE (M' := mX5_sum) (as := []) dX10_bestCalls_40 lk10_192 inX5_sum seX5_sum myX5_sum (by decide) ⟨by decide, by decide⟩ rfl (kR13 hS63.1 ta36) (Nat.le_of_ble_eq_true rfl) rfl rfl (by decide) (by decide) (k_X5_sum hS63.1 ta36) ?_
        rintro v69 cn' K' N' I65 R66 L67 ⟨rfl, rfl, rfl, rfl, rfl, rfl, -⟩
        refine tr_istore dX10_bestCalls_43 (by decide) (by decide) ?_
        refine tr_iload_n dX10_bestCalls_45 hl21 ?_
        refine q_callSi hE (M' := mJ6_bitCount_0f7a4) (as := [_]) dX10_bestCalls_46 lk10_247 inJ6_bitCount_0f7a4 myJ6_bitCount_0f7a4 ⟨by decide, by decide⟩ rfl (Nat.le_of_ble_eq_true rfl) rfl rfl (by decide) (by decide) (k_J6_bitCount_0f7a4 hS63.1 ) ?_
        rintro v74 cn' K' N' I70 R71 L72 ⟨rfl, rfl, rfl, rfl, rfl, rfl, -⟩
        refine tr_iload_n dX10_bestCalls_49 hl19 ?_
        refine q_callSi hE (M' := mJ6_bitCount_0f7a4) (as := [_]) dX10_bestCalls_50 lk10_247 inJ6_bitCount_0f7a4 myJ6_bitCount_0f7a4 ⟨by decide, by decide⟩ rfl (Nat.le_of_ble_eq_true rfl) rfl rfl (by decide) (by decide) (k_J6_bitCount_0f7a4 hS63.1 ) ?_
        rintro v79 cn' K' N' I75 R76 L77 ⟨rfl, rfl, rfl, rfl, rfl, rfl, -⟩
        refine q_icmp_ge 60 dX10_bestCalls_53 (by decide) (fun h80 => ?_) (fun h80 => ?_)
        · skip
          refine q_iconst dX10_bestCalls_60 (by decide) ?_
          intro v81 h82
          refine tr_istore dX10_bestCalls_61 (by decide) (by decide) ?_
          refine tr_iload dX10_bestCalls_63 rfl ?_
          refine tr_iload_n dX10_bestCalls_65 hl20 ?_
          refine q_icmp_gt 80 dX10_bestCalls_66 (by decide) (fun h83 => ?_) (fun h83 => ?_)
          · skip
            refine tr_iload dX10_bestCalls_80 rfl ?_
            refine tr_istore_n dX10_bestCalls_82 (by decide) (by decide) ?_
            refine tr_iload_n dX10_bestCalls_83 hl21 ?_
            refine tr_istore_n dX10_bestCalls_84 (by decide) (by decide) ?_
            refine q_iincE dX10_bestCalls_85 hl21 (by decide) (by decide) (by intro j1 j2; exact om_9c1e56ba g25 h34.2 h34.1 h35 j2) ?_
            intro v84 h85
            refine tr_goto 8 dX10_bestCalls_88 (by decide) ?_
            exact ih27 _ v17 v69 v84 I58 R59 hl18 rfl rfl rfl hS63 (by exact om_68881c41 g25 h85) (SkQ.st (SkQ.of (SkW.rc rp46 hS24.1 ta0 (fun a j q => (R13 hS24 (by decide +kernel) a j q).symm))) hW0 ta0 g61 (by decide +kernel) (by decide +kernel)) (by exact om_3c5c590e g25 hm27 h34.2 h34.1 h35 h85)
          · skip
            refine tr_iload dX10_bestCalls_69 rfl ?_
            refine tr_iload_n dX10_bestCalls_71 hl20 ?_
            refine q_icmp_ne 85 dX10_bestCalls_72 (by decide) (fun h86 => ?_) (fun h86 => ?_)
            · skip
              refine q_iincE dX10_bestCalls_85 hl21 (by decide) (by decide) (by intro j1 j2; exact om_9c1e56ba g25 h34.2 h34.1 h35 j2) ?_
              intro v87 h88
              refine tr_goto 8 dX10_bestCalls_88 (by decide) ?_
              exact ih27 _ v15 v16 v87 I58 R59 hl18 hl19 hl20 rfl hS63 (by exact om_68881c41 g25 h88) (SkQ.st (SkQ.of (SkW.rc rp46 hS24.1 ta0 (fun a j q => (R13 hS24 (by decide +kernel) a j q).symm))) hW0 ta0 g61 (by decide +kernel) (by decide +kernel)) (by exact om_5c9c9b0f g25 hm27 h34.2 h34.1 h35 h83 h86 h88)
            · skip
              refine tr_iload dX10_bestCalls_75 rfl ?_
              refine q_if_eq 85 dX10_bestCalls_77 (by decide) (fun h89 => ?_) (fun h89 => ?_)
              · skip
                refine q_iincE dX10_bestCalls_85 hl21 (by decide) (by decide) (by intro j1 j2; exact om_9c1e56ba g25 h34.2 h34.1 h35 j2) ?_
                intro v90 h91
                refine tr_goto 8 dX10_bestCalls_88 (by decide) ?_
                exact ih27 _ v15 v16 v90 I58 R59 hl18 hl19 hl20 rfl hS63 (by exact om_68881c41 g25 h91) (SkQ.st (SkQ.of (SkW.rc rp46 hS24.1 ta0 (fun a j q => (R13 hS24 (by decide +kernel) a j q).symm))) hW0 ta0 g61 (by decide +kernel) (by decide +kernel)) (by exact om_3c5c590e g25 hm27 h34.2 h34.1 h35 h91)
              · skip
                exfalso; exact om_3a97d4a5 h82 h89
        · skip
          refine q_iconst dX10_bestCalls_56 (by decide) ?_
          intro v92 h93
          refine tr_goto 61 dX10_bestCalls_57 (by decide) ?_
          refine tr_istore dX10_bestCalls_61 (by decide) (by decide) ?_
          refine tr_iload dX10_bestCalls_63 rfl ?_
          refine tr_iload_n dX10_bestCalls_65 hl20 ?_
          refine q_icmp_gt 80 dX10_bestCalls_66 (by decide) (fun h94 => ?_) (fun h94 => ?_)
          · skip
            refine tr_iload dX10_bestCalls_80 rfl ?_
            refine tr_istore_n dX10_bestCalls_82 (by decide) (by decide) ?_
            refine tr_iload_n dX10_bestCalls_83 hl21 ?_
            refine tr_istore_n dX10_bestCalls_84 (by decide) (by decide) ?_
            refine q_iincE dX10_bestCalls_85 hl21 (by decide) (by decide) (by intro j1 j2; exact om_9c1e56ba g25 h34.2 h34.1 h35 j2) ?_
            intro v95 h96
            refine tr_goto 8 dX10_bestCalls_88 (by decide) ?_
            exact ih27 _ v17 v69 v95 I58 R59 hl18 rfl rfl rfl hS63 (by exact om_68881c41 g25 h96) (SkQ.st (SkQ.of (SkW.rc rp46 hS24.1 ta0 (fun a j q => (R13 hS24 (by decide +kernel) a j q).symm))) hW0 ta0 g61 (by decide +kernel) (by decide +kernel)) (by exact om_3c5c590e g25 hm27 h34.2 h34.1 h35 h96)
          · skip
            refine tr_iload dX10_bestCalls_69 rfl ?_
            refine tr_iload_n dX10_bestCalls_71 hl20 ?_
            refine q_icmp_ne 85 dX10_bestCalls_72 (by decide) (fun h97 => ?_) (fun h97 => ?_)
            · skip
              refine q_iincE dX10_bestCalls_85 hl21 (by decide) (by decide) (by intro j1 j2; exact om_9c1e56ba g25 h34.2 h34.1 h35 j2) ?_
              intro v98 h99
              refine tr_goto 8 dX10_bestCalls_88 (by decide) ?_
              exact ih27 _ v15 v16 v98 I58 R59 hl18 hl19 hl20 rfl hS63 (by exact om_68881c41 g25 h99) (SkQ.st (SkQ.of (SkW.rc rp46 hS24.1 ta0 (fun a j q => (R13 hS24 (by decide +kernel) a j q).symm))) hW0 ta0 g61 (by decide +kernel) (by decide +kernel)) (by exact om_5c9c9b0f g25 hm27 h34.2 h34.1 h35 h94 h97 h99)
            · skip
              refine tr_iload dX10_bestCalls_75 rfl ?_
              refine q_if_eq 85 dX10_bestCalls_77 (by decide) (fun h100 => ?_) (fun h100 => ?_)
              · skip
                exfalso; exact om_3624102b h93 h100
              · skip
                refine tr_iload dX10_bestCalls_80 rfl ?_
                refine tr_istore_n dX10_bestCalls_82 (by decide) (by decide) ?_
                refine tr_iload_n dX10_bestCalls_83 hl21 ?_
                refine tr_istore_n dX10_bestCalls_84 (by decide) (by decide) ?_
                refine q_iincE dX10_bestCalls_85 hl21 (by decide) (by decide) (by intro j1 j2; exact om_9c1e56ba g25 h34.2 h34.1 h35 j2) ?_
                intro v101 h102
                refine tr_goto 8 dX10_bestCalls_88 (by decide) ?_
                exact ih27 _ v17 v69 v101 I58 R59 hl18 rfl rfl rfl hS63 (by exact om_68881c41 g25 h102) (SkQ.st (SkQ.of (SkW.rc rp46 hS24.1 ta0 (fun a j q => (R13 hS24 (by decide +kernel) a j q).symm))) hW0 ta0 g61 (by decide +kernel) (by decide +kernel)) (by exact om_f15044b0 g25 hm27 h34.2 h34.1 h35 h93 h100 h102)
  exact lp27 _ _ v9 v11 v13 I0 R0 rfl rfl rfl rfl hS0 (by exact om_d99fa9e4 h14) hK (Nat.lt_succ_self _)
def wik_X10_fewestTurners : List Nat := [73, 75, 768, 769, 778, 834, 2303, 2367, 2431, 2495, 2559, 2623, 2687, 2751, 2815, 2879, 2943, 3007, 3071, 3135, 3199, 3263, 3327, 3391]
def wrk_X10_fewestTurners : List Nat := [832, 833]
set_option maxHeartbeats 4000000 in
theorem fk_X10_fewestTurners {l : Launch} {T : Nat → Nat} {cn : Nat} {K N : Nat → Nat} {I0 : cz_I} {R0 : cz_R} {L0 : cz_L} {d : Int} (hW0 : Wf T cn K N I0 R0 d) (gX : Nat → Nat → Int) {a0 : Nat} (ta0 : T a0 = 1) (hX : EvQ I0 R0 a0 gX) (hK : SkQ I0 R0 a0 gX) (hD : DjS R0 a0) : ConE l mX10_fewestTurners [.ref a0] cn K N I0 R0 L0 (ca_i (fun v cn' K' N' I' R' L' => cn = cn' ∧ K = K' ∧ N = N' ∧ L0 = L' ∧ St T cn K N d wik_X10_fewestTurners wrk_X10_fewestTurners I0 R0 I' R' ∧ (SkQ I' R0 a0 gX) ∧ True)) := by
  refine ConE.of (by decide +kernel) rfl (Nat.le_of_ble_eq_true rfl) rfl (fun X hX hZ hE => ?_)
  subst hX
  have hS0 : St T cn K N d wik_X10_fewestTurners wrk_X10_fewestTurners I0 R0 I0 R0 := St.rf0 hW0
  obtain ⟨a1, d2, ta1⟩ := rf1_2 hW0 ta0
  obtain ⟨a3, d4, ta3⟩ := rf1_6 hW0 ta0
  obtain ⟨a5, d6, ta5⟩ := rf1_8 hW0 ta0
  obtain ⟨a7, d8, ta7⟩ := rf1_13 hW0 ta0
  refine tr_aload_n dX10_fewestTurners_0 rfl ?_
  refine q_callVr hE (M' := mX10_presentNight) (as := []) dX10_fewestTurners_1 lk10_155 inX10_presentNight seX10_presentNight myX10_presentNight (by decide) ⟨by decide, by decide⟩ rfl (kR1 hS0.1 ta0) (Nat.le_of_ble_eq_true rfl) rfl rfl (by decide) (by decide) (fk_X10_presentNight hS0.1 (gX) ta0 hX hK hD) ?_
  rintro a14 cn' K' N' I9 R10 L11 ⟨rfl, rfl, rfl, rfl, g12, ta14, rp15, -⟩
  have hS16 := hS0.tr g12 (by decide +kernel) (by decide +kernel)
  refine q_callVi hE (M' := mX5_missesAny) (as := []) dX10_fewestTurners_4 lk10_374 inX5_missesAny seX5_missesAny myX5_missesAny (by decide) ⟨by decide, by decide⟩ rfl (kR13 hS16.1 ta14) (Nat.le_of_ble_eq_true rfl) rfl rfl (by decide) (by decide) (k_X5_missesAny hS16.1 ta14) ?_
  rintro v21 cn' K' N' I17 R18 L19 ⟨rfl, rfl, rfl, rfl, rfl, rfl, h22, -⟩
  refine q_if_eq 13 dX10_fewestTurners_7 (by decide) (fun h23 => ?_) (fun h23 => ?_)
  · skip
    refine tr_aload_n dX10_fewestTurners_13 rfl ?_
    refine q_callVi hE (M' := mX10_allTurners) (as := []) dX10_fewestTurners_14 lk10_184 inX10_allTurners seX10_allTurners myX10_allTurners (by decide) ⟨by decide, by decide⟩ rfl (kR1 hS16.1 ta0) (Nat.le_of_ble_eq_true rfl) rfl rfl (by decide) (by decide) (k_X10_allTurners hS16.1 ta0) ?_
    rintro v28 cn' K' N' I24 R25 L26 ⟨rfl, rfl, rfl, rfl, rfl, rfl, h29, -⟩
    refine tr_istore_n dX10_fewestTurners_17 (by decide) (by decide) ?_
    refine q_iconst dX10_fewestTurners_18 (by decide) ?_
    intro v30 h31
    refine tr_istore_n dX10_fewestTurners_19 (by decide) (by decide) ?_
    have lp42 : ∀ (fu : Nat) (ls : Nat → Option Value) (v32 : Int32) (v33 : Int32) (I37 : cz_I) (R38 : cz_R), ls 0 = some (.ref a0) → ls 1 = some (.int v32) → ls 2 = some (.int v33) → St T cn K N d wik_X10_fewestTurners wrk_X10_fewestTurners I0 R0 I37 R38 → 0 ≤ v33.toInt → (SkQ I37 R0 a0 gX) → (-v33.toInt + 2147483647).toNat < fu → Tr X mX10_fewestTurners 20 ls [] cn K N I37 R38 L0 0 0 := by
      intro fu
      induction fu with
      | zero => intros; rename_i hz; exact absurd hz (Nat.not_lt_zero _)
      | succ fu ih42 =>
        intro ls v32 v33 I37 R38 hl34 hl35 hl36 hS39 g40 rw41 hm42
        refine tr_iload_n dX10_fewestTurners_20 hl36 ?_
        refine tr_aload_n dX10_fewestTurners_21 hl34 ?_
        refine q_callVi hE (M' := mX10_allTurners) (as := []) dX10_fewestTurners_22 lk10_184 inX10_allTurners seX10_allTurners myX10_allTurners (by decide) ⟨by decide, by decide⟩ rfl (kR1 hS39.1 ta0) (Nat.le_of_ble_eq_true rfl) rfl rfl (by decide) (by decide) (k_X10_allTurners hS39.1 ta0) ?_
        rintro v48 cn' K' N' I44 R45 L46 ⟨rfl, rfl, rfl, rfl, rfl, rfl, h49, -⟩
        refine q_icmp_ge 80 dX10_fewestTurners_25 (by decide) (fun h50 => ?_) (fun h50 => ?_)
        · skip
          refine tr_iload_n dX10_fewestTurners_80 hl35 ?_
          exact tr_iret hZ dX10_fewestTurners_81 rfl (by decide) (by decide) ⟨v32, rfl, rfl, rfl, rfl, rfl, hS39, rw41, trivial⟩
        · skip
          refine tr_iload_n dX10_fewestTurners_28 hl36 ?_
          refine q_callSi hE (M' := mJ6_bitCount_0f7a4) (as := [_]) dX10_fewestTurners_29 lk10_247 inJ6_bitCount_0f7a4 myJ6_bitCount_0f7a4 ⟨by decide, by decide⟩ rfl (Nat.le_of_ble_eq_true rfl) rfl rfl (by decide) (by decide) (k_J6_bitCount_0f7a4 hS39.1 ) ?_
          rintro v55 cn' K' N' I51 R52 L53 ⟨rfl, rfl, rfl, rfl, rfl, rfl, -⟩
          refine tr_iload_n dX10_fewestTurners_32 hl35 ?_
          refine q_callSi hE (M' := mJ6_bitCount_0f7a4) (as := [_]) dX10_fewestTurners_33 lk10_247 inJ6_bitCount_0f7a4 myJ6_bitCount_0f7a4 ⟨by decide, by decide⟩ rfl (Nat.le_of_ble_eq_true rfl) rfl rfl (by decide) (by decide) (k_J6_bitCount_0f7a4 hS39.1 ) ?_
          rintro v60 cn' K' N' I56 R57 L58 ⟨rfl, rfl, rfl, rfl, rfl, rfl, -⟩
          refine q_icmp_ge 74 dX10_fewestTurners_36 (by decide) (fun h61 => ?_) (fun h61 => ?_)
          · skip
            refine q_iincE dX10_fewestTurners_74 hl36 (by decide) (by decide) (by intro j1 j2; exact om_615c401a g40 h49.2 h49.1 h50 j2) ?_
            intro v62 h63
            refine tr_goto 20 dX10_fewestTurners_77 (by decide) ?_
            exact ih42 _ v32 v62 I37 R38 hl34 hl35 rfl hS39 (by exact om_68881c41 g40 h63) rw41 (by exact om_fd0314f2 g40 hm42 h49.2 h49.1 h50 h63)
          · skip
            refine tr_aload_n dX10_fewestTurners_39 hl34 ?_
            obtain ⟨a64, d65, ta64⟩ := rf1_14 hW0 ta0
            refine tr_getR dX10_fewestTurners_40 fl10_68 (kR1 hS39.1 ta0) ((hS39.rcell ta0 (by decide +kernel)).trans d65) ?_
            refine tr_aload_n dX10_fewestTurners_43 hl34 ?_
            refine tr_getR dX10_fewestTurners_44 fl10_16 (kR1 hS39.1 ta0) ((hS39.rcell ta0 (by decide +kernel)).trans d2) ?_
            refine tr_aload_n dX10_fewestTurners_47 hl34 ?_
            refine q_callVr hE (M' := mX10_presentSky) (as := []) dX10_fewestTurners_48 lk10_119 inX10_presentSky seX10_presentSky myX10_presentSky (by decide) ⟨by decide, by decide⟩ rfl (kR1 hS39.1 ta0) (Nat.le_of_ble_eq_true rfl) rfl rfl (by decide) (by decide) (fk_X10_presentSky hS39.1 (gX) ta0 (EvQ.rc (EvQ.st hX hW0 ta0 hS39 (by decide +kernel)) hW0 ta0 (R13 hS39 (by decide +kernel))) (SkQ.rc rw41 hW0 ta0 (R13 hS39 (by decide +kernel))) (DjS.rc hD hW0 ta0 (R13 hS39 (by decide +kernel)))) ?_
            rintro a71 cn' K' N' I66 R67 L68 ⟨rfl, rfl, rfl, rfl, rfl, g69, ta71, p72, rp73, rp74, rp75, -⟩
            have hS76 := hS39.tr g69 (by decide +kernel) (by decide +kernel)
            obtain ⟨v77, c78⟩ : ∃ v, I66 a0 9 = v := ⟨_, rfl⟩
            have b79 := iv1_9 hS76.1 ta0 c78
            rw [c78] at p72
            refine tr_aload_n dX10_fewestTurners_51 hl34 ?_
            refine tr_getR dX10_fewestTurners_52 fl10_35 (kR1 hS76.1 ta0) ((hS76.rcell ta0 (by decide +kernel)).trans d4) ?_
            obtain ⟨v80, c81⟩ : ∃ v, I0 a3 0 = v := ⟨_, rfl⟩
            refine q_getI dX10_fewestTurners_55 fl10_181 (kR8 hS76.1 ta3) ((hS76.cell ta3 (by decide +kernel)).trans c81) ?_
            refine tr_iload_n dX10_fewestTurners_58 hl36 ?_
            refine q_callVv hE (M' := mX5_play) (as := [_, _, _, _]) dX10_fewestTurners_59 lk10_188 inX5_play seX5_play myX5_play (by decide) ⟨by decide, by decide⟩ rfl (kR13 hS76.1 ta64) (Nat.le_of_ble_eq_true rfl) rfl rfl (by decide) (by decide) (k_X5_play hS76.1 ta64 ta1 ta71) ?_
            rintro cn' K' N' I82 R83 L84 ⟨rfl, rfl, rfl, rfl, g85, -⟩
            have hS87 := hS76.tr g85 (by decide +kernel) (by decide +kernel)
            have c88 : I82 a0 9 = v77 := (g85.cell ta0 (by decide +kernel)).trans c78
            refine tr_aload_n dX10_fewestTurners_62 hl34 ?_
            refine tr_getR dX10_fewestTurners_63 fl10_68 (kR1 hS87.1 ta0) ((hS87.rcell ta0 (by decide +kernel)).trans d65) ?_
            refine q_callVi hE (M' := mX5_missesAny) (as := []) dX10_fewestTurners_66 lk10_374 inX5_missesAny seX5_missesAny myX5_missesAny (by decide) ⟨by decide, by decide⟩ rfl (kR13 hS87.1 ta64) (Nat.le_of_ble_eq_true rfl) rfl rfl (by decide) (by decide) (k_X5_missesAny hS87.1 ta64) ?_
            rintro v93 cn' K' N' I89 R90 L91 ⟨rfl, rfl, rfl, rfl, rfl, rfl, h94, -⟩
            refine q_if_ne 74 dX10_fewestTurners_69 (by decide) (fun h95 => ?_) (fun h95 => ?_)
            · skip
              refine q_iincE dX10_fewestTurners_74 hl36 (by decide) (by decide) (by intro j1 j2; exact om_615c401a g40 h49.2 h49.1 h50 j2) ?_
              intro v96 h97
              refine tr_goto 20 dX10_fewestTurners_77 (by decide) ?_
              exact ih42 _ v32 v96 I82 R83 hl34 hl35 rfl hS87 (by exact om_68881c41 g40 h97) (SkQ.st (SkQ.of (SkW.rc rp74 hS39.1 ta0 (fun a j q => (R13 hS39 (by decide +kernel) a j q).symm))) hW0 ta0 g85 (by decide +kernel) (by decide +kernel)) (by exact om_57977dbd g40 hm42 h49.2 h49.1 h50 h94.2 h94.1 h95 h97)
            · skip
              refine tr_iload_n dX10_fewestTurners_72 hl36 ?_
              refine tr_istore_n dX10_fewestTurners_73 (by decide) (by decide) ?_
              refine q_iincE dX10_fewestTurners_74 hl36 (by decide) (by decide) (by intro j1 j2; exact om_615c401a g40 h49.2 h49.1 h50 j2) ?_
              intro v98 h99
              refine tr_goto 20 dX10_fewestTurners_77 (by decide) ?_
              exact ih42 _ v33 v98 I82 R83 hl34 rfl rfl hS87 (by exact om_68881c41 g40 h99) (SkQ.st (SkQ.of (SkW.rc rp74 hS39.1 ta0 (fun a j q => (R13 hS39 (by decide +kernel) a j q).symm))) hW0 ta0 g85 (by decide +kernel) (by decide +kernel)) (by exact om_fd0314f2 g40 hm42 h49.2 h49.1 h50 h99)
    exact lp42 _ _ v28 v30 I9 R10 rfl rfl rfl hS16 (by exact om_d99fa9e4 h31) rp15 (Nat.lt_succ_self _)
  · skip
    refine q_bipush dX10_fewestTurners_10 (by decide +kernel) ?_
    intro v100 h101
    exact tr_iret hZ dX10_fewestTurners_12 rfl (by decide) (by decide) ⟨v100, rfl, rfl, rfl, rfl, rfl, hS16, rp15, trivial⟩
def wik_X10_sky : List Nat := [73, 81, 768, 769, 778, 2303, 2367, 2431, 2495, 2559, 2623, 2687, 2751, 2815]
def wrk_X10_sky : List Nat := []
def Cs_X10_sky (T : Nat → Nat) (I0 : cz_I) (R0 : cz_R) (a0 : Nat) (gX : Nat → Nat → Int) (x1 : Int32) (v : Int32) (I' : cz_I) (R' : cz_R) : Prop :=
  (((I0 a0 5).toInt = 0) ∧ (v.toInt = -1) ∧ True) ∨
  (((I0 a0 5).toInt = 1) ∧ (∀ b1, R0 a0 2 = some b1 → (x1.toInt < 0 ∨ x1.toInt ≥ (I0 b1 0).toInt)) ∧ (v.toInt = -1) ∧ True) ∨
  (((I0 a0 5).toInt = 1) ∧ (0 ≤ x1.toInt) ∧ (∀ b1, R0 a0 2 = some b1 → x1.toInt < (I0 b1 0).toInt) ∧ (∀ al nw, R0 a0 2 = some al → R0 a0 6 = some nw → v.toInt = skB gX (-1) ((I0 al 3).toInt.toNat + (I0 nw 2).toInt.toNat) x1.toInt) ∧ True)
set_option maxHeartbeats 4000000 in
theorem fk_X10_sky {l : Launch} {T : Nat → Nat} {cn : Nat} {K N : Nat → Nat} {I0 : cz_I} {R0 : cz_R} {L0 : cz_L} {d : Int} (hW0 : Wf T cn K N I0 R0 d) (gX : Nat → Nat → Int) {a0 : Nat} (ta0 : T a0 = 1) {x1 : Int32} (hX : EvQ I0 R0 a0 gX) (hK : SkQ I0 R0 a0 gX) (hD : DjS R0 a0) : ConE l mX10_sky [.ref a0, .int x1] cn K N I0 R0 L0 (ca_i (fun v cn' K' N' I' R' L' => cn = cn' ∧ K = K' ∧ N = N' ∧ R0 = R' ∧ L0 = L' ∧ St T cn K N d wik_X10_sky wrk_X10_sky I0 R0 I' R0 ∧ (SkQ I' R0 a0 gX) ∧ Cs_X10_sky T I0 R0 a0 gX x1 v I' R0 ∧ True)) := by
  refine ConE.of (by decide +kernel) rfl (Nat.le_of_ble_eq_true rfl) rfl (fun X hX hZ hE => ?_)
  subst hX
  have hS0 : St T cn K N d wik_X10_sky wrk_X10_sky I0 R0 I0 R0 := St.rf0 hW0
  obtain ⟨v1, c2⟩ : ∃ v, I0 a0 5 = v := ⟨_, rfl⟩
  have b3 := iv1_5 hW0 ta0 c2
  obtain ⟨a4, d5, ta4⟩ := rf1_2 hW0 ta0
  obtain ⟨v6, c7⟩ : ∃ v, I0 a4 0 = v := ⟨_, rfl⟩
  have b8 := iv2_0 hW0 ta4 c7
  obtain ⟨a9, d10, ta9⟩ := rf1_6 hW0 ta0
  obtain ⟨a11, d12, ta11⟩ := rf1_8 hW0 ta0
  obtain ⟨a13, d14, ta13⟩ := rf1_13 hW0 ta0
  obtain ⟨v15, c16⟩ : ∃ v, I0 a4 1 = v := ⟨_, rfl⟩
  have b17 := iv2_1 hW0 ta4 c16
  obtain ⟨v18, c19⟩ : ∃ v, I0 a4 3 = v := ⟨_, rfl⟩
  have b20 := iv2_3 hW0 ta4 c19
  refine tr_aload_n dX10_sky_0 rfl ?_
  refine q_getZ dX10_sky_1 fl10_95 (kR1 hS0.1 ta0) c2 ?_
  refine q_if_ne 13 dX10_sky_4 (by decide) (fun h21 => ?_) (fun h21 => ?_)
  · skip
    refine tr_aload_n dX10_sky_13 rfl ?_
    refine tr_iload_n dX10_sky_14 rfl ?_
    refine q_callVi hE (M' := mX10_isMinute) (as := [_]) dX10_sky_15 lk10_115 inX10_isMinute seX10_isMinute myX10_isMinute (by decide) ⟨by decide, by decide⟩ rfl (kR1 hS0.1 ta0) (Nat.le_of_ble_eq_true rfl) rfl rfl (by decide) (by decide) (fk_X10_isMinute hS0.1  ta0) ?_
    rintro v27 cn' K' N' I22 R23 L24 ⟨rfl, rfl, rfl, rfl, rfl, rfl, h28, p29, p30, -⟩
    have p31 := p29 _ d5
    clear p29
    rw [c7] at p31
    have p32 := p30 _ d5
    clear p30
    rw [c7] at p32
    refine q_if_ne 27 dX10_sky_18 (by decide) (fun h33 => ?_) (fun h33 => ?_)
    · skip
      refine tr_aload_n dX10_sky_27 rfl ?_
      refine tr_aload_n dX10_sky_28 rfl ?_
      refine q_callVr hE (M' := mX10_presentSky) (as := []) dX10_sky_29 lk10_119 inX10_presentSky seX10_presentSky myX10_presentSky (by decide) ⟨by decide, by decide⟩ rfl (kR1 hS0.1 ta0) (Nat.le_of_ble_eq_true rfl) rfl rfl (by decide) (by decide) (fk_X10_presentSky hS0.1 (gX) ta0 hX hK hD) ?_
      rintro a39 cn' K' N' I34 R35 L36 ⟨rfl, rfl, rfl, rfl, rfl, g37, ta39, p40, rp41, rp42, rp43, -⟩
      have hS44 := hS0.tr g37 (by decide +kernel) (by decide +kernel)
      obtain ⟨v45, c46⟩ : ∃ v, I34 a0 9 = v := ⟨_, rfl⟩
      have b47 := iv1_9 hS44.1 ta0 c46
      rw [c46] at p40
      have hz48 := rp43 _ _ _ rp41 d5 d10
      refine tr_iload_n dX10_sky_32 rfl ?_
      refine q_callVi hE (M' := mX8_isBright) (as := [_]) dX10_sky_33 lk10_123 inX8_isBright seX8_isBright myX8_isBright (by decide) ⟨by decide, by decide⟩ rfl (kR12 hS44.1 ta39) (Nat.le_of_ble_eq_true rfl) rfl rfl (by decide) (by decide) (fk_X8_isBright hS44.1  ta39 (by exact om_9c52401f b8.2 b8.1 h28.2 h28.1 p31 p32 h33)) ?_
      rintro v54 cn' K' N' I49 R50 L51 ⟨rfl, rfl, rfl, rfl, rfl, rfl, h55, rp56, -⟩
      refine q_if_eq 43 dX10_sky_36 (by decide) (fun h57 => ?_) (fun h57 => ?_)
      · skip
        refine q_iconst dX10_sky_43 (by decide) ?_
        intro v58 h59
        refine q_callVi hE (M' := mX10_answered) (as := [_]) dX10_sky_44 lk10_109 inX10_answered seX10_answered myX10_answered (by decide) ⟨by decide, by decide⟩ rfl (kR1 hS44.1 ta0) (Nat.le_of_ble_eq_true rfl) rfl rfl (by decide) (by decide) (fk_X10_answered hS44.1  ta0) ?_
        rintro v65 cn' K' N' I60 R61 L62 ⟨rfl, rfl, rfl, rfl, rfl, g63, p66, p67, -⟩
        have hS68 := hS44.tr g63 (by decide +kernel) (by decide +kernel)
        have c69 : I60 a0 9 = v45 := (g63.cell ta0 (by decide +kernel)).trans c46
        obtain ⟨v70, c71⟩ : ∃ v, I60 a0 17 = v := ⟨_, rfl⟩
        rw [c71] at p67
        obtain ⟨a72, d73, ta72⟩ := rf12_2 hW0 ta39
        obtain ⟨a74, d75, ta74⟩ := rf12_3 hW0 ta39
        obtain ⟨a76, d77, ta76⟩ := rf12_4 hW0 ta39
        exact tr_iret hZ dX10_sky_47 rfl (by decide) (by decide) ⟨v65, rfl, rfl, rfl, rfl, rfl, rfl, hS68, (SkQ.st (SkQ.of rp42) hW0 ta0 g63 (by decide +kernel) (by decide +kernel)), (Or.inr (Or.inr (⟨(by (try rw [c2]); first | done | with_reducible assumption | exact om_fb6d96c1 b3.2 b3.1 h21 h28.2 h28.1 p31 p32 h33), (by first | done | with_reducible assumption | exact om_1ebe3f0a b8.2 b8.1 h28.2 h28.1 p31 p32 h33), (fun q0 z0 => by obtain rfl := Option.some.inj ((d5).symm.trans z0); (try rw [c7]); first | done | with_reducible assumption | exact om_4d1525ff b8.2 b8.1 h28.2 h28.1 p31 p32 h33), (fun al nw h2 h6 => by obtain rfl := Option.some.inj (d5.symm.trans h2); obtain rfl := Option.some.inj (d10.symm.trans h6); have e := SkF.br (ix := x1.toInt.toNat) hz48 d73 d75 d77 (by rw [c7]; exact om_515c395c h28.2 h28.1 p31 p32 h33) (rp56 _ _ _ d73 d75 d77); rw [show ((x1.toInt.toNat : Nat) : Int) = x1.toInt by exact om_79f7519e b8.2 b8.1 h28.2 h28.1 p31 p32 h33] at e; exact om_afcbd888 h57 h59 p66 e), trivial⟩))), trivial⟩
      · skip
        refine q_iconst dX10_sky_39 (by decide) ?_
        intro v78 h79
        refine tr_goto 44 dX10_sky_40 (by decide) ?_
        refine q_callVi hE (M' := mX10_answered) (as := [_]) dX10_sky_44 lk10_109 inX10_answered seX10_answered myX10_answered (by decide) ⟨by decide, by decide⟩ rfl (kR1 hS44.1 ta0) (Nat.le_of_ble_eq_true rfl) rfl rfl (by decide) (by decide) (fk_X10_answered hS44.1  ta0) ?_
        rintro v85 cn' K' N' I80 R81 L82 ⟨rfl, rfl, rfl, rfl, rfl, g83, p86, p87, -⟩
        have hS88 := hS44.tr g83 (by decide +kernel) (by decide +kernel)
        have c89 : I80 a0 9 = v45 := (g83.cell ta0 (by decide +kernel)).trans c46
        obtain ⟨v90, c91⟩ : ∃ v, I80 a0 17 = v := ⟨_, rfl⟩
        rw [c91] at p87
        obtain ⟨a92, d93, ta92⟩ := rf12_2 hW0 ta39
        obtain ⟨a94, d95, ta94⟩ := rf12_3 hW0 ta39
        obtain ⟨a96, d97, ta96⟩ := rf12_4 hW0 ta39
        exact tr_iret hZ dX10_sky_47 rfl (by decide) (by decide) ⟨v85, rfl, rfl, rfl, rfl, rfl, rfl, hS88, (SkQ.st (SkQ.of rp42) hW0 ta0 g83 (by decide +kernel) (by decide +kernel)), (Or.inr (Or.inr (⟨(by (try rw [c2]); first | done | with_reducible assumption | exact om_da5dbed3 b3.2 b3.1 h21 h28.2 h28.1 p31 p32 h33 h55.2 h55.1 h57), (by first | done | with_reducible assumption | exact om_eb1867f2 b8.2 b8.1 h28.2 h28.1 p31 p32 h33 h55.2 h55.1 h57), (fun q0 z0 => by obtain rfl := Option.some.inj ((d5).symm.trans z0); (try rw [c7]); first | done | with_reducible assumption | exact om_a2ce0c20 b8.2 b8.1 h28.2 h28.1 p31 p32 h33 h55.2 h55.1 h57), (fun al nw h2 h6 => by obtain rfl := Option.some.inj (d5.symm.trans h2); obtain rfl := Option.some.inj (d10.symm.trans h6); have e := SkF.br (ix := x1.toInt.toNat) hz48 d93 d95 d97 (by rw [c7]; exact om_2e6e43df h28.2 h28.1 p31 p32 h33 h55.2 h55.1 h57) (rp56 _ _ _ d93 d95 d97); rw [show ((x1.toInt.toNat : Nat) : Int) = x1.toInt by exact om_826c9465 b8.2 b8.1 h28.2 h28.1 p31 p32 h33 h55.2 h55.1 h57 e] at e; exact om_dccea993 h55.2 h55.1 h57 h79 p86 e), trivial⟩))), trivial⟩
    · skip
      refine tr_aload_n dX10_sky_21 rfl ?_
      refine q_iconst dX10_sky_22 (by decide) ?_
      intro v98 h99
      refine q_callVi hE (M' := mX10_refused) (as := [_]) dX10_sky_23 lk10_79 inX10_refused seX10_refused myX10_refused (by decide) ⟨by decide, by decide⟩ rfl (kR1 hS0.1 ta0) (Nat.le_of_ble_eq_true rfl) rfl rfl (by decide) (by decide) (fk_X10_refused hS0.1  ta0) ?_
      rintro v105 cn' K' N' I100 R101 L102 ⟨rfl, rfl, rfl, rfl, rfl, g103, p106, p107, -⟩
      have hS108 := hS0.tr g103 (by decide +kernel) (by decide +kernel)
      obtain ⟨v109, c110⟩ : ∃ v, I100 a0 17 = v := ⟨_, rfl⟩
      rw [c110] at p107
      exact tr_iret hZ dX10_sky_26 rfl (by decide) (by decide) ⟨v105, rfl, rfl, rfl, rfl, rfl, rfl, hS108, (SkQ.st hK hW0 ta0 g103 (by decide +kernel) (by decide +kernel)), (by first | exact Or.inr (Or.inl ⟨(by (try rw [c2]); first | done | with_reducible assumption | exact om_01be630e b3.2 b3.1 h21 p31 p32 h33), (fun q0 z0 => by obtain rfl := Option.some.inj ((d5).symm.trans z0); (try rw [c7]); first | done | with_reducible assumption | exact om_1d2e7dd2 p32 h33), (by first | done | with_reducible assumption | omega), trivial⟩) | exact Or.inr (Or.inr (⟨(by (try rw [c2]); first | done | with_reducible assumption | omega), (by first | done | with_reducible assumption | omega), (fun q0 z0 => by obtain rfl := Option.some.inj ((d5).symm.trans z0); (try rw [c7]); first | done | with_reducible assumption | omega), (by exfalso; omega), trivial⟩))), trivial⟩
  · skip
    refine tr_aload_n dX10_sky_7 rfl ?_
    refine q_iconst dX10_sky_8 (by decide) ?_
    intro v111 h112
    refine q_callVi hE (M' := mX10_refused) (as := [_]) dX10_sky_9 lk10_79 inX10_refused seX10_refused myX10_refused (by decide) ⟨by decide, by decide⟩ rfl (kR1 hS0.1 ta0) (Nat.le_of_ble_eq_true rfl) rfl rfl (by decide) (by decide) (fk_X10_refused hS0.1  ta0) ?_
    rintro v118 cn' K' N' I113 R114 L115 ⟨rfl, rfl, rfl, rfl, rfl, g116, p119, p120, -⟩
    have hS121 := hS0.tr g116 (by decide +kernel) (by decide +kernel)
    obtain ⟨v122, c123⟩ : ∃ v, I113 a0 17 = v := ⟨_, rfl⟩
    rw [c123] at p120
    exact tr_iret hZ dX10_sky_12 rfl (by decide) (by decide) ⟨v118, rfl, rfl, rfl, rfl, rfl, rfl, hS121, (SkQ.st hK hW0 ta0 g116 (by decide +kernel) (by decide +kernel)), (Or.inl ⟨(by (try rw [c2]); first | done | with_reducible assumption | omega), (by first | done | with_reducible assumption | omega), trivial⟩), trivial⟩
set_option maxHeartbeats 4000000 in
theorem fk_X10_isHut {l : Launch} {T : Nat → Nat} {cn : Nat} {K N : Nat → Nat} {I0 : cz_I} {R0 : cz_R} {L0 : cz_L} {d : Int} (hW0 : Wf T cn K N I0 R0 d)  {a0 : Nat} (ta0 : T a0 = 1) {x1 : Int32} : ConE l mX10_isHut [.ref a0, .int x1] cn K N I0 R0 L0 (ca_i (fun v cn' K' N' I' R' L' => cn = cn' ∧ K = K' ∧ N = N' ∧ I0 = I' ∧ R0 = R' ∧ L0 = L' ∧ (0 ≤ v.toInt ∧ v.toInt ≤ 1) ∧ (∀ b1, R0 a0 2 = some b1 → (v.toInt = 1 → (0 ≤ x1.toInt ∧ x1.toInt < (I0 b1 1).toInt))) ∧ (∀ b1, R0 a0 2 = some b1 → (v.toInt = 0 → (x1.toInt < 0 ∨ x1.toInt ≥ (I0 b1 1).toInt))) ∧ True)) := by
  refine ConE.of (by decide +kernel) rfl (Nat.le_of_ble_eq_true rfl) rfl (fun X hX hZ hE => ?_)
  subst hX
  obtain ⟨a1, d2, ta1⟩ := rf1_2 hW0 ta0
  obtain ⟨v3, c4⟩ : ∃ v, I0 a1 1 = v := ⟨_, rfl⟩
  have b5 := iv2_1 hW0 ta1 c4
  refine tr_iload_n dX10_isHut_0 rfl ?_
  refine q_if_lt 19 dX10_isHut_1 (by decide) (fun h6 => ?_) (fun h6 => ?_)
  · skip
    refine q_iconst dX10_isHut_19 (by decide) ?_
    intro v7 h8
    exact tr_zret hZ dX10_isHut_20 rfl (ti_b01 (by exact om_d99fa9e4 h8) (by exact om_d3de7ec9 h8)) (by decide) (by decide) ⟨v7, rfl, rfl, rfl, rfl, rfl, rfl, rfl, (by exact om_3b50ecb9 h8), (fun q0 z0 => by obtain rfl := Option.some.inj ((d2).symm.trans z0); (try rw [c4]); first | done | with_reducible assumption | exact om_67774191 h8), (fun q0 z0 => by obtain rfl := Option.some.inj ((d2).symm.trans z0); (try rw [c4]); first | done | with_reducible assumption | exact om_05299518 h6), trivial⟩
  · skip
    refine tr_iload_n dX10_isHut_4 rfl ?_
    refine tr_aload_n dX10_isHut_5 rfl ?_
    refine tr_getR dX10_isHut_6 fl10_16 (kR1 hW0 ta0) d2 ?_
    refine q_getI dX10_isHut_9 fl10_332 (kR2 hW0 ta1) c4 ?_
    refine q_icmp_ge 19 dX10_isHut_12 (by decide) (fun h9 => ?_) (fun h9 => ?_)
    · skip
      refine q_iconst dX10_isHut_19 (by decide) ?_
      intro v10 h11
      exact tr_zret hZ dX10_isHut_20 rfl (ti_b01 (by exact om_d99fa9e4 h11) (by exact om_d3de7ec9 h11)) (by decide) (by decide) ⟨v10, rfl, rfl, rfl, rfl, rfl, rfl, rfl, (by exact om_3b50ecb9 h11), (fun q0 z0 => by obtain rfl := Option.some.inj ((d2).symm.trans z0); (try rw [c4]); first | done | with_reducible assumption | exact om_67774191 h11), (fun q0 z0 => by obtain rfl := Option.some.inj ((d2).symm.trans z0); (try rw [c4]); first | done | with_reducible assumption | exact om_ffa44cdb h9), trivial⟩
    · skip
      refine q_iconst dX10_isHut_15 (by decide) ?_
      intro v12 h13
      refine tr_goto 20 dX10_isHut_16 (by decide) ?_
      exact tr_zret hZ dX10_isHut_20 rfl (ti_b01 (by exact om_f9079521 h13) (by exact om_e6632817 h13)) (by decide) (by decide) ⟨v12, rfl, rfl, rfl, rfl, rfl, rfl, rfl, (by exact om_d753bc65 h13), (fun q0 z0 => by obtain rfl := Option.some.inj ((d2).symm.trans z0); (try rw [c4]); first | done | with_reducible assumption | exact om_cedbc4bb h6 h9), (fun q0 z0 => by obtain rfl := Option.some.inj ((d2).symm.trans z0); (try rw [c4]); first | done | with_reducible assumption | exact om_f30b551a h13), trivial⟩
def wik_X10_light : List Nat := [73, 81, 768, 769, 778, 2303, 2367, 2431, 2495, 2559, 2623, 2687, 2751, 2815]
def wrk_X10_light : List Nat := []
def Cs_X10_light (T : Nat → Nat) (I0 : cz_I) (R0 : cz_R) (a0 : Nat) (gX : Nat → Nat → Int) (x1 : Int32) (x2 : Int32) (x3 : Int32) (v : Int32) (I' : cz_I) (R' : cz_R) : Prop :=
  ((∀ b1, R0 a0 2 = some b1 → (x1.toInt < 0 ∨ x1.toInt ≥ (I0 b1 1).toInt)) ∧ (v.toInt = -1) ∧ True) ∨
  ((0 ≤ x1.toInt) ∧ (∀ b1, R0 a0 2 = some b1 → x1.toInt < (I0 b1 1).toInt) ∧ (∀ b1, R0 a0 2 = some b1 → (x2.toInt < 0 ∨ x2.toInt ≥ (I0 b1 0).toInt)) ∧ (v.toInt = -1) ∧ True) ∨
  ((0 ≤ x1.toInt) ∧ (∀ b1, R0 a0 2 = some b1 → x1.toInt < (I0 b1 1).toInt) ∧ (0 ≤ x2.toInt) ∧ (∀ b1, R0 a0 2 = some b1 → x2.toInt < (I0 b1 0).toInt) ∧ (∀ al nw, R0 a0 2 = some al → R0 a0 6 = some nw → v.toInt = if x3.toInt = 1 then skS gX (-1) ((I0 al 3).toInt.toNat + (I0 nw 2).toInt.toNat) (I0 al 1).toInt x1.toInt x2.toInt else skL gX (-1) ((I0 al 3).toInt.toNat + (I0 nw 2).toInt.toNat) (I0 al 1).toInt x1.toInt x2.toInt) ∧ True)
set_option maxHeartbeats 4000000 in
theorem fk_X10_light {l : Launch} {T : Nat → Nat} {cn : Nat} {K N : Nat → Nat} {I0 : cz_I} {R0 : cz_R} {L0 : cz_L} {d : Int} (hW0 : Wf T cn K N I0 R0 d) (gX : Nat → Nat → Int) {a0 : Nat} (ta0 : T a0 = 1) {x1 : Int32} {x2 : Int32} {x3 : Int32} (hx3 : 0 ≤ x3.toInt ∧ x3.toInt ≤ 1) (hX : EvQ I0 R0 a0 gX) (hK : SkQ I0 R0 a0 gX) (hD : DjS R0 a0) : ConE l mX10_light [.ref a0, .int x1, .int x2, .int x3] cn K N I0 R0 L0 (ca_i (fun v cn' K' N' I' R' L' => cn = cn' ∧ K = K' ∧ N = N' ∧ R0 = R' ∧ L0 = L' ∧ St T cn K N d wik_X10_light wrk_X10_light I0 R0 I' R0 ∧ (SkQ I' R0 a0 gX) ∧ Cs_X10_light T I0 R0 a0 gX x1 x2 x3 v I' R0 ∧ True)) := by
  refine ConE.of (by decide +kernel) rfl (Nat.le_of_ble_eq_true rfl) rfl (fun X hX hZ hE => ?_)
  subst hX
  have hS0 : St T cn K N d wik_X10_light wrk_X10_light I0 R0 I0 R0 := St.rf0 hW0
  obtain ⟨a1, d2, ta1⟩ := rf1_2 hW0 ta0
  obtain ⟨v3, c4⟩ : ∃ v, I0 a1 1 = v := ⟨_, rfl⟩
  have b5 := iv2_1 hW0 ta1 c4
  obtain ⟨v6, c7⟩ : ∃ v, I0 a1 0 = v := ⟨_, rfl⟩
  have b8 := iv2_0 hW0 ta1 c7
  obtain ⟨a9, d10, ta9⟩ := rf1_6 hW0 ta0
  obtain ⟨a11, d12, ta11⟩ := rf1_8 hW0 ta0
  obtain ⟨a13, d14, ta13⟩ := rf1_13 hW0 ta0
  obtain ⟨v15, c16⟩ : ∃ v, I0 a1 3 = v := ⟨_, rfl⟩
  have b17 := iv2_3 hW0 ta1 c16
  refine tr_aload_n dX10_light_0 rfl ?_
  refine tr_iload_n dX10_light_1 rfl ?_
  refine q_callVi hE (M' := mX10_isHut) (as := [_]) dX10_light_2 lk10_126 inX10_isHut seX10_isHut myX10_isHut (by decide) ⟨by decide, by decide⟩ rfl (kR1 hS0.1 ta0) (Nat.le_of_ble_eq_true rfl) rfl rfl (by decide) (by decide) (fk_X10_isHut hS0.1  ta0) ?_
  rintro v23 cn' K' N' I18 R19 L20 ⟨rfl, rfl, rfl, rfl, rfl, rfl, h24, p25, p26, -⟩
  have p27 := p25 _ d2
  clear p25
  rw [c4] at p27
  have p28 := p26 _ d2
  clear p26
  rw [c4] at p28
  refine q_if_ne 14 dX10_light_5 (by decide) (fun h29 => ?_) (fun h29 => ?_)
  · skip
    refine tr_aload_n dX10_light_14 rfl ?_
    refine tr_iload_n dX10_light_15 rfl ?_
    refine q_callVi hE (M' := mX10_isMinute) (as := [_]) dX10_light_16 lk10_115 inX10_isMinute seX10_isMinute myX10_isMinute (by decide) ⟨by decide, by decide⟩ rfl (kR1 hS0.1 ta0) (Nat.le_of_ble_eq_true rfl) rfl rfl (by decide) (by decide) (fk_X10_isMinute hS0.1  ta0) ?_
    rintro v35 cn' K' N' I30 R31 L32 ⟨rfl, rfl, rfl, rfl, rfl, rfl, h36, p37, p38, -⟩
    have p39 := p37 _ d2
    clear p37
    rw [c7] at p39
    have p40 := p38 _ d2
    clear p38
    rw [c7] at p40
    refine q_if_ne 28 dX10_light_19 (by decide) (fun h41 => ?_) (fun h41 => ?_)
    · skip
      refine tr_aload_n dX10_light_28 rfl ?_
      refine q_callVr hE (M' := mX10_presentSky) (as := []) dX10_light_29 lk10_119 inX10_presentSky seX10_presentSky myX10_presentSky (by decide) ⟨by decide, by decide⟩ rfl (kR1 hS0.1 ta0) (Nat.le_of_ble_eq_true rfl) rfl rfl (by decide) (by decide) (fk_X10_presentSky hS0.1 (gX) ta0 hX hK hD) ?_
      rintro a47 cn' K' N' I42 R43 L44 ⟨rfl, rfl, rfl, rfl, rfl, g45, ta47, p48, rp49, rp50, rp51, -⟩
      have hS52 := hS0.tr g45 (by decide +kernel) (by decide +kernel)
      obtain ⟨v53, c54⟩ : ∃ v, I42 a0 9 = v := ⟨_, rfl⟩
      have b55 := iv1_9 hS52.1 ta0 c54
      rw [c54] at p48
      have hz56 := rp51 _ _ _ rp49 d2 d10
      refine tr_astore dX10_light_32 (by decide) (by decide) ?_
      refine tr_iload_n dX10_light_34 rfl ?_
      refine q_if_eq 46 dX10_light_35 (by decide) (fun h57 => ?_) (fun h57 => ?_)
      · skip
        refine tr_aload dX10_light_46 rfl ?_
        obtain ⟨a58, d59, ta58⟩ := rf12_6 hW0 ta47
        refine tr_getR dX10_light_48 fl10_133 (kR12 hS52.1 ta47) d59 ?_
        refine tr_astore dX10_light_51 (by decide) (by decide) ?_
        refine tr_aload_n dX10_light_53 rfl ?_
        refine tr_aload dX10_light_54 rfl ?_
        refine tr_iload_n dX10_light_56 rfl ?_
        refine q_iald dX10_light_57 (kR39 hS52.1 ta58) (ti_in (nR39 hS52.1 ta58) (by exact om_1ebe3f0a b8.2 b8.1 h36.2 h36.1 p39 p40 h41) (by exact om_9003f602 b8.2 b8.1 h36.2 h36.1 p39 p40 h41)) ?_
        intro v60 c61
        have hb62 := hz56.2.2.2.2.1 _ d59 x2.toInt.toNat (by rw [c7]; exact om_515c395c h36.2 h36.1 p39 p40 h41)
        rw [show I42 a58 x2.toInt.toNat = v60 from c61] at hb62
        have hb62r := And.intro hb62.1 hb62.2.1
        refine tr_iload_n dX10_light_58 rfl ?_
        refine q_callSi hE (M' := mX10_bit) (as := [_, _]) dX10_light_59 lk10_136 inX10_bit myX10_bit ⟨by decide, by decide⟩ rfl (Nat.le_of_ble_eq_true rfl) rfl rfl (by decide) (by decide) (f_X10_bitW   (by exact om_5a072c79 hb62r.2 hb62r.1) (by exact om_1695e32a b5.2 b5.1 h24.2 h24.1 p27 p28 h29 h36.2 h36.1 p39 p40 h41)) ?_
        rintro v68 cn' K' N' I63 R64 L65 ⟨rfl, rfl, rfl, rfl, rfl, rfl, p69, -⟩
        have btv68 := bt_01 v60.toInt x1.toInt
        refine q_callVi hE (M' := mX10_answered) (as := [_]) dX10_light_62 lk10_109 inX10_answered seX10_answered myX10_answered (by decide) ⟨by decide, by decide⟩ rfl (kR1 hS52.1 ta0) (Nat.le_of_ble_eq_true rfl) rfl rfl (by decide) (by decide) (fk_X10_answered hS52.1  ta0) ?_
        rintro v75 cn' K' N' I70 R71 L72 ⟨rfl, rfl, rfl, rfl, rfl, g73, p76, p77, -⟩
        have hS78 := hS52.tr g73 (by decide +kernel) (by decide +kernel)
        have c79 : I70 a0 9 = v53 := (g73.cell ta0 (by decide +kernel)).trans c54
        obtain ⟨v80, c81⟩ : ∃ v, I70 a0 17 = v := ⟨_, rfl⟩
        rw [c81] at p77
        exact tr_iret hZ dX10_light_65 rfl (by decide) (by decide) ⟨v75, rfl, rfl, rfl, rfl, rfl, rfl, hS78, (SkQ.st (SkQ.of rp50) hW0 ta0 g73 (by decide +kernel) (by decide +kernel)), (Or.inr (Or.inr (⟨(by first | done | with_reducible assumption | exact om_6adb0af9 b5.2 b5.1 h24.2 h24.1 p27 p28 h29 h36.2 h36.1 p39 p40 h41 btv68), (fun q0 z0 => by obtain rfl := Option.some.inj ((d2).symm.trans z0); (try rw [c4]); first | done | with_reducible assumption | exact om_037f0e95 b5.2 b5.1 h24.2 h24.1 p27 p28 h29 h36.2 h36.1 p39 p40 h41 btv68), (by first | done | with_reducible assumption | exact om_13ef5cd3 b8.2 b8.1 h36.2 h36.1 p39 p40 h41 btv68), (fun q0 z0 => by obtain rfl := Option.some.inj ((d2).symm.trans z0); (try rw [c7]); first | done | with_reducible assumption | exact om_f315ad55 b8.2 b8.1 h36.2 h36.1 p39 p40 h41 btv68), (fun al nw h2 h6 => by obtain rfl := Option.some.inj (d2.symm.trans h2); obtain rfl := Option.some.inj (d10.symm.trans h6); have e : bt _ _ = skL _ _ _ _ _ _ := hb62.2.2 x1.toInt.toNat (by exact om_3a9c3b1e b5.2 b5.1 h24.2 h24.1 p27 p28 h29 h36.2 h36.1 p39 p40 h41 btv68); rw [show ((x1.toInt.toNat : Nat) : Int) = x1.toInt by exact om_64cdc5cf b5.2 b5.1 h24.2 h24.1 p27 p28 h29 h36.2 h36.1 p39 p40 h41 btv68] at e; rw [if_neg (by exact om_2013cf54 h57)]; rw [show ((x2.toInt.toNat : Nat) : Int) = x2.toInt by exact om_8ba8cdf4 b8.2 b8.1 h36.2 h36.1 p39 p40 h41 btv68] at e; exact om_843ee70c p69 p76 e), trivial⟩))), trivial⟩
      · skip
        refine tr_aload dX10_light_38 rfl ?_
        obtain ⟨a82, d83, ta82⟩ := rf12_7 hW0 ta47
        refine tr_getR dX10_light_40 fl10_129 (kR12 hS52.1 ta47) d83 ?_
        refine tr_goto 51 dX10_light_43 (by decide) ?_
        refine tr_astore dX10_light_51 (by decide) (by decide) ?_
        refine tr_aload_n dX10_light_53 rfl ?_
        refine tr_aload dX10_light_54 rfl ?_
        refine tr_iload_n dX10_light_56 rfl ?_
        refine q_iald dX10_light_57 (kR40 hS52.1 ta82) (ti_in (nR40 hS52.1 ta82) (by exact om_46121efe hx3.2 hx3.1 b8.2 b8.1 h36.2 h36.1 p39 p40 h41 h57) (by exact om_b67ce7e5 hx3.2 hx3.1 b8.2 b8.1 h36.2 h36.1 p39 p40 h41 h57)) ?_
        intro v84 c85
        have hb86 := hz56.2.2.2.2.2.1 _ d83 x2.toInt.toNat (by rw [c7]; exact om_11110a7f hx3.2 hx3.1 h36.2 h36.1 p39 p40 h41 h57)
        rw [show I42 a82 x2.toInt.toNat = v84 from c85] at hb86
        have hb86r := And.intro hb86.1 hb86.2.1
        refine tr_iload_n dX10_light_58 rfl ?_
        refine q_callSi hE (M' := mX10_bit) (as := [_, _]) dX10_light_59 lk10_136 inX10_bit myX10_bit ⟨by decide, by decide⟩ rfl (Nat.le_of_ble_eq_true rfl) rfl rfl (by decide) (by decide) (f_X10_bitW   (by exact om_5a072c79 hb86r.2 hb86r.1) (by exact om_f418b1ab hx3.2 hx3.1 b5.2 b5.1 h24.2 h24.1 p27 p28 h29 h36.2 h36.1 p39 p40 h41 h57)) ?_
        rintro v92 cn' K' N' I87 R88 L89 ⟨rfl, rfl, rfl, rfl, rfl, rfl, p93, -⟩
        have btv92 := bt_01 v84.toInt x1.toInt
        refine q_callVi hE (M' := mX10_answered) (as := [_]) dX10_light_62 lk10_109 inX10_answered seX10_answered myX10_answered (by decide) ⟨by decide, by decide⟩ rfl (kR1 hS52.1 ta0) (Nat.le_of_ble_eq_true rfl) rfl rfl (by decide) (by decide) (fk_X10_answered hS52.1  ta0) ?_
        rintro v99 cn' K' N' I94 R95 L96 ⟨rfl, rfl, rfl, rfl, rfl, g97, p100, p101, -⟩
        have hS102 := hS52.tr g97 (by decide +kernel) (by decide +kernel)
        have c103 : I94 a0 9 = v53 := (g97.cell ta0 (by decide +kernel)).trans c54
        obtain ⟨v104, c105⟩ : ∃ v, I94 a0 17 = v := ⟨_, rfl⟩
        rw [c105] at p101
        exact tr_iret hZ dX10_light_65 rfl (by decide) (by decide) ⟨v99, rfl, rfl, rfl, rfl, rfl, rfl, hS102, (SkQ.st (SkQ.of rp50) hW0 ta0 g97 (by decide +kernel) (by decide +kernel)), (Or.inr (Or.inr (⟨(by first | done | with_reducible assumption | exact om_f6fcf599 hx3.2 hx3.1 b5.2 b5.1 h24.2 h24.1 p27 p28 h29 h36.2 h36.1 p39 p40 h41 h57 btv92), (fun q0 z0 => by obtain rfl := Option.some.inj ((d2).symm.trans z0); (try rw [c4]); first | done | with_reducible assumption | exact om_a496ca40 hx3.2 hx3.1 b5.2 b5.1 h24.2 h24.1 p27 p28 h29 h36.2 h36.1 p39 p40 h41 h57 btv92), (by first | done | with_reducible assumption | exact om_8276a3dc hx3.2 hx3.1 b8.2 b8.1 h36.2 h36.1 p39 p40 h41 h57 btv92), (fun q0 z0 => by obtain rfl := Option.some.inj ((d2).symm.trans z0); (try rw [c7]); first | done | with_reducible assumption | exact om_621b320d hx3.2 hx3.1 b8.2 b8.1 h36.2 h36.1 p39 p40 h41 h57 btv92), (fun al nw h2 h6 => by obtain rfl := Option.some.inj (d2.symm.trans h2); obtain rfl := Option.some.inj (d10.symm.trans h6); have e : bt _ _ = (if _ then _ else _) := hb86.2.2 x1.toInt.toNat (by exact om_0f7ab849 hx3.2 hx3.1 b5.2 b5.1 h24.2 h24.1 p27 p28 h29 h36.2 h36.1 p39 p40 h41 h57 btv92); rw [show ((x1.toInt.toNat : Nat) : Int) = x1.toInt by exact om_8dae52aa hx3.2 hx3.1 b5.2 b5.1 h24.2 h24.1 p27 p28 h29 h36.2 h36.1 p39 p40 h41 h57 btv92] at e; rw [if_pos (show ((x2.toInt.toNat : Nat) : Int) < _ by rw [c7]; exact om_6002dea4 hx3.2 hx3.1 h36.2 h36.1 p39 p40 h41 h57 btv92)] at e; rw [if_pos (by exact om_20925b84 hx3.2 hx3.1 h57 btv92)]; rw [show ((x2.toInt.toNat : Nat) : Int) = x2.toInt by exact om_27e1fcb5 hx3.2 hx3.1 b8.2 b8.1 h36.2 h36.1 p39 p40 h41 h57 btv92] at e; exact om_843ee70c p93 p100 e), trivial⟩))), trivial⟩
    · skip
      refine tr_aload_n dX10_light_22 rfl ?_
      refine q_iconst dX10_light_23 (by decide) ?_
      intro v106 h107
      refine q_callVi hE (M' := mX10_refused) (as := [_]) dX10_light_24 lk10_79 inX10_refused seX10_refused myX10_refused (by decide) ⟨by decide, by decide⟩ rfl (kR1 hS0.1 ta0) (Nat.le_of_ble_eq_true rfl) rfl rfl (by decide) (by decide) (fk_X10_refused hS0.1  ta0) ?_
      rintro v113 cn' K' N' I108 R109 L110 ⟨rfl, rfl, rfl, rfl, rfl, g111, p114, p115, -⟩
      have hS116 := hS0.tr g111 (by decide +kernel) (by decide +kernel)
      obtain ⟨v117, c118⟩ : ∃ v, I108 a0 17 = v := ⟨_, rfl⟩
      rw [c118] at p115
      exact tr_iret hZ dX10_light_27 rfl (by decide) (by decide) ⟨v113, rfl, rfl, rfl, rfl, rfl, rfl, hS116, (SkQ.st hK hW0 ta0 g111 (by decide +kernel) (by decide +kernel)), (by first | exact Or.inl ⟨(fun q0 z0 => by obtain rfl := Option.some.inj ((d2).symm.trans z0); (try rw [c4]); first | done | with_reducible assumption | fail), (by first | done | with_reducible assumption | omega), trivial⟩ | exact Or.inr (Or.inl ⟨(by first | done | with_reducible assumption | exact om_35c28e76 b5.2 b5.1 h24.2 h24.1 p27 p28 h29 p39 p40 h41), (fun q0 z0 => by obtain rfl := Option.some.inj ((d2).symm.trans z0); (try rw [c4]); first | done | with_reducible assumption | exact om_f0a561df b5.2 b5.1 h24.2 h24.1 p27 p28 h29 p39 p40 h41), (fun q0 z0 => by obtain rfl := Option.some.inj ((d2).symm.trans z0); (try rw [c7]); first | done | with_reducible assumption | exact om_1d2e7dd2 p40 h41), (by first | done | with_reducible assumption | omega), trivial⟩) | exact Or.inr (Or.inr (⟨(by first | done | with_reducible assumption | omega), (fun q0 z0 => by obtain rfl := Option.some.inj ((d2).symm.trans z0); (try rw [c4]); first | done | with_reducible assumption | omega), (by first | done | with_reducible assumption | omega), (fun q0 z0 => by obtain rfl := Option.some.inj ((d2).symm.trans z0); (try rw [c7]); first | done | with_reducible assumption | omega), (by exfalso; omega), trivial⟩))), trivial⟩
  · skip
    refine tr_aload_n dX10_light_8 rfl ?_
    refine q_iconst dX10_light_9 (by decide) ?_
    intro v119 h120
    refine q_callVi hE (M' := mX10_refused) (as := [_]) dX10_light_10 lk10_79 inX10_refused seX10_refused myX10_refused (by decide) ⟨by decide, by decide⟩ rfl (kR1 hS0.1 ta0) (Nat.le_of_ble_eq_true rfl) rfl rfl (by decide) (by decide) (fk_X10_refused hS0.1  ta0) ?_
    rintro v126 cn' K' N' I121 R122 L123 ⟨rfl, rfl, rfl, rfl, rfl, g124, p127, p128, -⟩
    have hS129 := hS0.tr g124 (by decide +kernel) (by decide +kernel)
    obtain ⟨v130, c131⟩ : ∃ v, I121 a0 17 = v := ⟨_, rfl⟩
    rw [c131] at p128
    exact tr_iret hZ dX10_light_13 rfl (by decide) (by decide) ⟨v126, rfl, rfl, rfl, rfl, rfl, rfl, hS129, (SkQ.st hK hW0 ta0 g124 (by decide +kernel) (by decide +kernel)), (by first | exact Or.inl ⟨(fun q0 z0 => by obtain rfl := Option.some.inj ((d2).symm.trans z0); (try rw [c4]); first | done | with_reducible assumption | exact om_1d2e7dd2 p28 h29), (by first | done | with_reducible assumption | omega), trivial⟩ | exact Or.inr (Or.inl ⟨(by first | done | with_reducible assumption | omega), (fun q0 z0 => by obtain rfl := Option.some.inj ((d2).symm.trans z0); (try rw [c4]); first | done | with_reducible assumption | omega), (fun q0 z0 => by obtain rfl := Option.some.inj ((d2).symm.trans z0); (try rw [c7]); first | done | with_reducible assumption | omega), (by first | done | with_reducible assumption | omega), trivial⟩) | exact Or.inr (Or.inr (⟨(by first | done | with_reducible assumption | omega), (fun q0 z0 => by obtain rfl := Option.some.inj ((d2).symm.trans z0); (try rw [c4]); first | done | with_reducible assumption | omega), (by first | done | with_reducible assumption | omega), (fun q0 z0 => by obtain rfl := Option.some.inj ((d2).symm.trans z0); (try rw [c7]); first | done | with_reducible assumption | omega), (by exfalso; omega), trivial⟩))), trivial⟩
def wik_X10_changes : List Nat := [73, 81, 768, 769, 778, 2303, 2367, 2431, 2495, 2559, 2623, 2687, 2751, 2815]
def wrk_X10_changes : List Nat := []
def Cs_X10_changes (T : Nat → Nat) (I0 : cz_I) (R0 : cz_R) (a0 : Nat) (gX : Nat → Nat → Int) (x1 : Int32) (x2 : Int32) (v : Int32) (I' : cz_I) (R' : cz_R) : Prop :=
  ((∀ b1, R0 a0 2 = some b1 → (x1.toInt < 0 ∨ x1.toInt ≥ (I0 b1 1).toInt)) ∧ (v.toInt = -1) ∧ True) ∨
  ((0 ≤ x1.toInt) ∧ (∀ b1, R0 a0 2 = some b1 → x1.toInt < (I0 b1 1).toInt) ∧ (∀ al nw, R0 a0 2 = some al → R0 a0 6 = some nw → v.toInt = if x2.toInt = 1 then cnM (fun k => skT gX (-1) ((I0 al 3).toInt.toNat + (I0 nw 2).toInt.toNat) (I0 al 1).toInt x1.toInt (k : Int)) (I0 al 0).toInt.toNat else cnM (fun k => skC gX (-1) ((I0 al 3).toInt.toNat + (I0 nw 2).toInt.toNat) (I0 al 1).toInt x1.toInt (k : Int)) (I0 al 0).toInt.toNat) ∧ True)
set_option maxHeartbeats 4000000 in
theorem fk_X10_changes {l : Launch} {T : Nat → Nat} {cn : Nat} {K N : Nat → Nat} {I0 : cz_I} {R0 : cz_R} {L0 : cz_L} {d : Int} (hW0 : Wf T cn K N I0 R0 d) (gX : Nat → Nat → Int) {a0 : Nat} (ta0 : T a0 = 1) {x1 : Int32} {x2 : Int32} (hx2 : 0 ≤ x2.toInt ∧ x2.toInt ≤ 1) (hX : EvQ I0 R0 a0 gX) (hK : SkQ I0 R0 a0 gX) (hD : DjS R0 a0) : ConE l mX10_changes [.ref a0, .int x1, .int x2] cn K N I0 R0 L0 (ca_i (fun v cn' K' N' I' R' L' => cn = cn' ∧ K = K' ∧ N = N' ∧ R0 = R' ∧ L0 = L' ∧ St T cn K N d wik_X10_changes wrk_X10_changes I0 R0 I' R0 ∧ (SkQ I' R0 a0 gX) ∧ Cs_X10_changes T I0 R0 a0 gX x1 x2 v I' R0 ∧ True)) := by
  refine ConE.of (by decide +kernel) rfl (Nat.le_of_ble_eq_true rfl) rfl (fun X hX hZ hE => ?_)
  subst hX
  have hS0 : St T cn K N d wik_X10_changes wrk_X10_changes I0 R0 I0 R0 := St.rf0 hW0
  obtain ⟨a1, d2, ta1⟩ := rf1_2 hW0 ta0
  obtain ⟨v3, c4⟩ : ∃ v, I0 a1 1 = v := ⟨_, rfl⟩
  have b5 := iv2_1 hW0 ta1 c4
  obtain ⟨v6, c7⟩ : ∃ v, I0 a1 0 = v := ⟨_, rfl⟩
  have b8 := iv2_0 hW0 ta1 c7
  obtain ⟨a9, d10, ta9⟩ := rf1_6 hW0 ta0
  obtain ⟨a11, d12, ta11⟩ := rf1_8 hW0 ta0
  obtain ⟨a13, d14, ta13⟩ := rf1_13 hW0 ta0
  obtain ⟨v15, c16⟩ : ∃ v, I0 a1 3 = v := ⟨_, rfl⟩
  have b17 := iv2_3 hW0 ta1 c16
  refine tr_aload_n dX10_changes_0 rfl ?_
  refine tr_iload_n dX10_changes_1 rfl ?_
  refine q_callVi hE (M' := mX10_isHut) (as := [_]) dX10_changes_2 lk10_126 inX10_isHut seX10_isHut myX10_isHut (by decide) ⟨by decide, by decide⟩ rfl (kR1 hS0.1 ta0) (Nat.le_of_ble_eq_true rfl) rfl rfl (by decide) (by decide) (fk_X10_isHut hS0.1  ta0) ?_
  rintro v23 cn' K' N' I18 R19 L20 ⟨rfl, rfl, rfl, rfl, rfl, rfl, h24, p25, p26, -⟩
  have p27 := p25 _ d2
  clear p25
  rw [c4] at p27
  have p28 := p26 _ d2
  clear p26
  rw [c4] at p28
  refine q_if_ne 14 dX10_changes_5 (by decide) (fun h29 => ?_) (fun h29 => ?_)
  · skip
    refine tr_aload_n dX10_changes_14 rfl ?_
    refine q_callVr hE (M' := mX10_presentSky) (as := []) dX10_changes_15 lk10_119 inX10_presentSky seX10_presentSky myX10_presentSky (by decide) ⟨by decide, by decide⟩ rfl (kR1 hS0.1 ta0) (Nat.le_of_ble_eq_true rfl) rfl rfl (by decide) (by decide) (fk_X10_presentSky hS0.1 (gX) ta0 hX hK hD) ?_
    rintro a35 cn' K' N' I30 R31 L32 ⟨rfl, rfl, rfl, rfl, rfl, g33, ta35, p36, rp37, rp38, rp39, -⟩
    have hS40 := hS0.tr g33 (by decide +kernel) (by decide +kernel)
    obtain ⟨v41, c42⟩ : ∃ v, I30 a0 9 = v := ⟨_, rfl⟩
    have b43 := iv1_9 hS40.1 ta0 c42
    rw [c42] at p36
    have hz44 := rp39 _ _ _ rp37 d2 d10
    refine tr_astore_n dX10_changes_18 (by decide) (by decide) ?_
    refine tr_iload_n dX10_changes_19 rfl ?_
    refine q_if_eq 30 dX10_changes_20 (by decide) (fun h45 => ?_) (fun h45 => ?_)
    · skip
      refine tr_aload_n dX10_changes_30 rfl ?_
      obtain ⟨a46, d47, ta46⟩ := rf12_8 hW0 ta35
      refine tr_getR dX10_changes_31 fl10_143 (kR12 hS40.1 ta35) d47 ?_
      refine tr_astore dX10_changes_34 (by decide) (by decide) ?_
      refine q_iconst dX10_changes_36 (by decide) ?_
      intro v48 h49
      refine tr_istore dX10_changes_37 (by decide) (by decide) ?_
      refine q_iconst dX10_changes_39 (by decide) ?_
      intro v50 h51
      refine tr_istore dX10_changes_40 (by decide) (by decide) ?_
      have lp70 : ∀ (fu : Nat) (ls : Nat → Option Value) (v52 : Int32) (v53 : Int32) (I61 : cz_I), ls 0 = some (.ref a0) → ls 1 = some (.int x1) → ls 2 = some (.int x2) → ls 3 = some (.ref a35) → ls 4 = some (.ref a46) → ls 5 = some (.int v52) → ls 6 = some (.int v53) → St T cn K N d wik_X10_changes wrk_X10_changes I0 R0 I61 R0 → v53.toInt ≤ v6.toInt → 0 ≤ v52.toInt → v52.toInt ≤ v53.toInt → v52.toInt ≤ 240 → (v52.toInt = cnM (fun k => skC gX (-1) ((I0 a1 3).toInt.toNat + (I0 a9 2).toInt.toNat) (I0 a1 1).toInt x1.toInt (k : Int)) v53.toInt.toNat) → (SkF I61 R0 a35 (I0 a1 0).toInt (I0 a1 1).toInt (-1) gX ((I0 a1 3).toInt.toNat + (I0 a9 2).toInt.toNat) (I0 a1 0).toInt) → (SkQ I61 R0 a0 gX) → (-v53.toInt + 2147483647).toNat < fu → Tr X mX10_changes 42 ls [] cn K N I61 R0 L0 0 0 := by
        intro fu
        induction fu with
        | zero => intros; rename_i hz; exact absurd hz (Nat.not_lt_zero _)
        | succ fu ih70 =>
          intro ls v52 v53 I61 hl54 hl55 hl56 hl57 hl58 hl59 hl60 hS62 g63 g64 g65 g66 rw67 rw68 rw69 hm70
          refine tr_iload dX10_changes_42 hl60 ?_
          refine tr_aload_n dX10_changes_44 hl54 ?_
          refine tr_getR dX10_changes_45 fl10_16 (kR1 hS62.1 ta0) d2 ?_
          refine q_getI dX10_changes_48 fl10_146 (kR2 hS62.1 ta1) ((hS62.cell ta1 (by decide +kernel)).trans c7) ?_
          refine q_icmp_ge 74 dX10_changes_51 (by decide) (fun h72 => ?_) (fun h72 => ?_)
          · skip
            refine tr_aload_n dX10_changes_74 hl54 ?_
            refine tr_iload dX10_changes_75 hl59 ?_
            refine q_callVi hE (M' := mX10_answered) (as := [_]) dX10_changes_77 lk10_109 inX10_answered seX10_answered myX10_answered (by decide) ⟨by decide, by decide⟩ rfl (kR1 hS62.1 ta0) (Nat.le_of_ble_eq_true rfl) rfl rfl (by decide) (by decide) (fk_X10_answered hS62.1  ta0) ?_
            rintro v78 cn' K' N' I73 R74 L75 ⟨rfl, rfl, rfl, rfl, rfl, g76, p79, p80, -⟩
            have hS81 := hS62.tr g76 (by decide +kernel) (by decide +kernel)
            obtain ⟨v82, c83⟩ : ∃ v, I73 a0 17 = v := ⟨_, rfl⟩
            rw [c83] at p80
            exact tr_iret hZ dX10_changes_80 rfl (by decide) (by decide) ⟨v78, rfl, rfl, rfl, rfl, rfl, rfl, hS81, (SkQ.st rw69 hW0 ta0 g76 (by decide +kernel) (by decide +kernel)), (Or.inr (⟨(by first | done | with_reducible assumption | exact om_06e659b3 b5.2 b5.1 b8.2 b8.1 h24.2 h24.1 p27 p28 h29 g63 h72), (fun q0 z0 => by obtain rfl := Option.some.inj ((d2).symm.trans z0); (try rw [c4]); first | done | with_reducible assumption | exact om_79fd2d22 b5.2 b5.1 b8.2 b8.1 h24.2 h24.1 p27 p28 h29 g63 h72), (fun al nw h2 h6 => by obtain rfl := Option.some.inj (d2.symm.trans h2); obtain rfl := Option.some.inj (d10.symm.trans h6); rw [if_neg (by exact om_2013cf54 h45)]; have w := rw67; rw [show v53.toInt.toNat = (I0 a1 0).toInt.toNat from congrArg Int.toNat (by rw [c7]; exact om_99e6832e g63 h72)] at w; exact om_1add49fd rw67 p79 w), trivial⟩)), trivial⟩
          · skip
            refine tr_iload dX10_changes_54 hl59 ?_
            refine tr_aload dX10_changes_56 hl58 ?_
            refine tr_iload dX10_changes_58 hl60 ?_
            refine q_iald dX10_changes_60 (kR41 hS62.1 ta46) (ti_in (nR41 hS62.1 ta46) (by exact om_a4210fb7 g64 g65 g66 rw67) (by exact om_6fd76572 b8.2 b8.1 h72)) ?_
            intro v84 c85
            have hb86 := rw68.2.2.2.2.2.2.1 _ d47 v53.toInt.toNat (by rw [c7]; exact om_359e8ce0 g64 g65 g66 rw67 h72)
            rw [show I61 a46 v53.toInt.toNat = v84 from c85] at hb86
            have hb86r := And.intro hb86.1 hb86.2.1
            refine tr_iload_n dX10_changes_61 hl55 ?_
            refine q_callSi hE (M' := mX10_bit) (as := [_, _]) dX10_changes_62 lk10_136 inX10_bit myX10_bit ⟨by decide, by decide⟩ rfl (Nat.le_of_ble_eq_true rfl) rfl rfl (by decide) (by decide) (f_X10_bitW   (by exact om_5a072c79 hb86r.2 hb86r.1) (by exact om_1b9027d1 b5.2 b5.1 b8.2 b8.1 h24.2 h24.1 p27 p28 h29 h72)) ?_
            rintro v92 cn' K' N' I87 R88 L89 ⟨rfl, rfl, rfl, rfl, rfl, rfl, p93, -⟩
            have btv92 := bt_01 v84.toInt x1.toInt
            refine q_iaddE dX10_changes_65 (by intro j1 j2 j3 j4; exact om_05e94740 b8.2 b8.1 g64 g65 g66 rw67 h72 p93 btv92 j3 j4) ?_
            intro v94 h95
            refine tr_istore dX10_changes_66 (by decide) (by decide) ?_
            refine q_iincE dX10_changes_68 hl60 (by decide) (by decide) (by intro j1 j2; exact om_aa7ad94b b8.2 b8.1 h72 j1 j2) ?_
            intro v96 h97
            refine tr_goto 42 dX10_changes_71 (by decide) ?_
            exact ih70 _ v94 v96 I61 hl54 hl55 hl56 hl57 hl58 rfl rfl hS62 (by exact om_ed6eac99 h72 h97) (by exact om_2625c9ff g64 g66 rw67 p93 btv92 h95) (by exact om_c81a599f g65 rw67 p93 btv92 h95 h97) (by exact om_0502effc b8.2 b8.1 g64 g65 g66 rw67 h72 p93 btv92 h95 h97) (by have e : bt _ _ = skC _ _ _ _ _ _ := hb86.2.2 x1.toInt.toNat (by exact om_576e74da b5.2 b5.1 b8.2 b8.1 h24.2 h24.1 p27 p28 h29 h72 btv92 h97); rw [show ((x1.toInt.toNat : Nat) : Int) = x1.toInt by exact om_de823587 b5.2 b5.1 b8.2 b8.1 h24.2 h24.1 p27 p28 h29 h72 btv92 h97] at e; rw [show v96.toInt.toNat = v53.toInt.toNat + 1 by exact om_b348982a g64 g65 g66 rw67 p93 h95 h97 e, cnM]; have w := rw67; exact om_8bb3d188 rw67 p93 h95 e) rw68 rw69 (by exact om_307ca8ca b8.2 b8.1 hm70 h72 btv92 h97)
      exact lp70 _ _ v48 v50 I30 rfl rfl rfl rfl rfl rfl rfl hS40 (by exact om_a84450f2 b8.2 b8.1 h51) (by exact om_d99fa9e4 h49) (by exact om_52c36dab h49 h51) (by exact om_4c96df26 h49) (by rw [show v50.toInt.toNat = 0 by exact om_8b46d78f h51]; show _ = (0 : Int); exact om_29f55913 h49) hz44 (SkQ.of rp38) (Nat.lt_succ_self _)
    · skip
      refine tr_aload_n dX10_changes_23 rfl ?_
      obtain ⟨a98, d99, ta98⟩ := rf12_9 hW0 ta35
      refine tr_getR dX10_changes_24 fl10_140 (kR12 hS40.1 ta35) d99 ?_
      refine tr_goto 34 dX10_changes_27 (by decide) ?_
      refine tr_astore dX10_changes_34 (by decide) (by decide) ?_
      refine q_iconst dX10_changes_36 (by decide) ?_
      intro v100 h101
      refine tr_istore dX10_changes_37 (by decide) (by decide) ?_
      refine q_iconst dX10_changes_39 (by decide) ?_
      intro v102 h103
      refine tr_istore dX10_changes_40 (by decide) (by decide) ?_
      have lp122 : ∀ (fu : Nat) (ls : Nat → Option Value) (v104 : Int32) (v105 : Int32) (I113 : cz_I), ls 0 = some (.ref a0) → ls 1 = some (.int x1) → ls 2 = some (.int x2) → ls 3 = some (.ref a35) → ls 4 = some (.ref a98) → ls 5 = some (.int v104) → ls 6 = some (.int v105) → St T cn K N d wik_X10_changes wrk_X10_changes I0 R0 I113 R0 → v105.toInt ≤ v6.toInt → 0 ≤ v104.toInt → v104.toInt ≤ v105.toInt → v104.toInt ≤ 240 → (v104.toInt = cnM (fun k => skT gX (-1) ((I0 a1 3).toInt.toNat + (I0 a9 2).toInt.toNat) (I0 a1 1).toInt x1.toInt (k : Int)) v105.toInt.toNat) → (SkF I113 R0 a35 (I0 a1 0).toInt (I0 a1 1).toInt (-1) gX ((I0 a1 3).toInt.toNat + (I0 a9 2).toInt.toNat) (I0 a1 0).toInt) → (SkQ I113 R0 a0 gX) → (-v105.toInt + 2147483647).toNat < fu → Tr X mX10_changes 42 ls [] cn K N I113 R0 L0 0 0 := by
        intro fu
        induction fu with
        | zero => intros; rename_i hz; exact absurd hz (Nat.not_lt_zero _)
        | succ fu ih122 =>
          intro ls v104 v105 I113 hl106 hl107 hl108 hl109 hl110 hl111 hl112 hS114 g115 g116 g117 g118 rw119 rw120 rw121 hm122
          refine tr_iload dX10_changes_42 hl112 ?_
          refine tr_aload_n dX10_changes_44 hl106 ?_
          refine tr_getR dX10_changes_45 fl10_16 (kR1 hS114.1 ta0) d2 ?_
          refine q_getI dX10_changes_48 fl10_146 (kR2 hS114.1 ta1) ((hS114.cell ta1 (by decide +kernel)).trans c7) ?_
          refine q_icmp_ge 74 dX10_changes_51 (by decide) (fun h124 => ?_) (fun h124 => ?_)
          · skip
            refine tr_aload_n dX10_changes_74 hl106 ?_
            refine tr_iload dX10_changes_75 hl111 ?_
            refine q_callVi hE (M' := mX10_answered) (as := [_]) dX10_changes_77 lk10_109 inX10_answered seX10_answered myX10_answered (by decide) ⟨by decide, by decide⟩ rfl (kR1 hS114.1 ta0) (Nat.le_of_ble_eq_true rfl) rfl rfl (by decide) (by decide) (fk_X10_answered hS114.1  ta0) ?_
            rintro v130 cn' K' N' I125 R126 L127 ⟨rfl, rfl, rfl, rfl, rfl, g128, p131, p132, -⟩
            have hS133 := hS114.tr g128 (by decide +kernel) (by decide +kernel)
            obtain ⟨v134, c135⟩ : ∃ v, I125 a0 17 = v := ⟨_, rfl⟩
            rw [c135] at p132
            exact tr_iret hZ dX10_changes_80 rfl (by decide) (by decide) ⟨v130, rfl, rfl, rfl, rfl, rfl, rfl, hS133, (SkQ.st rw121 hW0 ta0 g128 (by decide +kernel) (by decide +kernel)), (Or.inr (⟨(by first | done | with_reducible assumption | exact om_ec880de0 hx2.2 hx2.1 b5.2 b5.1 b8.2 b8.1 h24.2 h24.1 p27 p28 h29 h45 g115 h124), (fun q0 z0 => by obtain rfl := Option.some.inj ((d2).symm.trans z0); (try rw [c4]); first | done | with_reducible assumption | exact om_300fda7a hx2.2 hx2.1 b5.2 b5.1 b8.2 b8.1 h24.2 h24.1 p27 p28 h29 h45 g115 h124), (fun al nw h2 h6 => by obtain rfl := Option.some.inj (d2.symm.trans h2); obtain rfl := Option.some.inj (d10.symm.trans h6); rw [if_pos (by exact om_2c3853d4 hx2.2 hx2.1 b8.2 b8.1 h45 g115 h124)]; have w := rw119; rw [show v105.toInt.toNat = (I0 a1 0).toInt.toNat from congrArg Int.toNat (by rw [c7]; exact om_99e6832e g115 h124)] at w; exact om_1add49fd rw119 p131 w), trivial⟩)), trivial⟩
          · skip
            refine tr_iload dX10_changes_54 hl111 ?_
            refine tr_aload dX10_changes_56 hl110 ?_
            refine tr_iload dX10_changes_58 hl112 ?_
            refine q_iald dX10_changes_60 (kR42 hS114.1 ta98) (ti_in (nR42 hS114.1 ta98) (by exact om_a4210fb7 g116 g117 g118 rw119) (by exact om_6fd76572 b8.2 b8.1 h124)) ?_
            intro v136 c137
            have hb138 := rw120.2.2.2.2.2.2.2 _ d99 v105.toInt.toNat (by rw [c7]; exact om_359e8ce0 g116 g117 g118 rw119 h124)
            rw [show I113 a98 v105.toInt.toNat = v136 from c137] at hb138
            have hb138r := And.intro hb138.1 hb138.2.1
            refine tr_iload_n dX10_changes_61 hl107 ?_
            refine q_callSi hE (M' := mX10_bit) (as := [_, _]) dX10_changes_62 lk10_136 inX10_bit myX10_bit ⟨by decide, by decide⟩ rfl (Nat.le_of_ble_eq_true rfl) rfl rfl (by decide) (by decide) (f_X10_bitW   (by exact om_5a072c79 hb138r.2 hb138r.1) (by exact om_b8003e23 hx2.2 hx2.1 b5.2 b5.1 b8.2 b8.1 h24.2 h24.1 p27 p28 h29 h45 h124)) ?_
            rintro v144 cn' K' N' I139 R140 L141 ⟨rfl, rfl, rfl, rfl, rfl, rfl, p145, -⟩
            have btv144 := bt_01 v136.toInt x1.toInt
            refine q_iaddE dX10_changes_65 (by intro j1 j2 j3 j4; exact om_05e94740 b8.2 b8.1 g116 g117 g118 rw119 h124 p145 btv144 j3 j4) ?_
            intro v146 h147
            refine tr_istore dX10_changes_66 (by decide) (by decide) ?_
            refine q_iincE dX10_changes_68 hl112 (by decide) (by decide) (by intro j1 j2; exact om_aa7ad94b b8.2 b8.1 h124 j1 j2) ?_
            intro v148 h149
            refine tr_goto 42 dX10_changes_71 (by decide) ?_
            exact ih122 _ v146 v148 I113 hl106 hl107 hl108 hl109 hl110 rfl rfl hS114 (by exact om_ed6eac99 h124 h149) (by exact om_2625c9ff g116 g118 rw119 p145 btv144 h147) (by exact om_c81a599f g117 rw119 p145 btv144 h147 h149) (by exact om_0502effc b8.2 b8.1 g116 g117 g118 rw119 h124 p145 btv144 h147 h149) (by have e : bt _ _ = skT _ _ _ _ _ _ := hb138.2.2 x1.toInt.toNat (by exact om_5abdccf7 hx2.2 hx2.1 b5.2 b5.1 b8.2 b8.1 h24.2 h24.1 p27 p28 h29 h45 h124 btv144 h149); rw [show ((x1.toInt.toNat : Nat) : Int) = x1.toInt by exact om_988ebad7 hx2.2 hx2.1 b5.2 b5.1 b8.2 b8.1 h24.2 h24.1 p27 p28 h29 h45 h124 btv144 h149] at e; rw [show v148.toInt.toNat = v105.toInt.toNat + 1 by exact om_b348982a g116 g117 g118 rw119 p145 h147 h149 e, cnM]; have w := rw119; exact om_8bb3d188 rw119 p145 h147 e) rw120 rw121 (by exact om_307ca8ca b8.2 b8.1 hm122 h124 btv144 h149)
      exact lp122 _ _ v100 v102 I30 rfl rfl rfl rfl rfl rfl rfl hS40 (by exact om_a84450f2 b8.2 b8.1 h103) (by exact om_d99fa9e4 h101) (by exact om_52c36dab h101 h103) (by exact om_4c96df26 h101) (by rw [show v102.toInt.toNat = 0 by exact om_8b46d78f h103]; show _ = (0 : Int); exact om_29f55913 h101) hz44 (SkQ.of rp38) (Nat.lt_succ_self _)
  · skip
    refine tr_aload_n dX10_changes_8 rfl ?_
    refine q_iconst dX10_changes_9 (by decide) ?_
    intro v150 h151
    refine q_callVi hE (M' := mX10_refused) (as := [_]) dX10_changes_10 lk10_79 inX10_refused seX10_refused myX10_refused (by decide) ⟨by decide, by decide⟩ rfl (kR1 hS0.1 ta0) (Nat.le_of_ble_eq_true rfl) rfl rfl (by decide) (by decide) (fk_X10_refused hS0.1  ta0) ?_
    rintro v157 cn' K' N' I152 R153 L154 ⟨rfl, rfl, rfl, rfl, rfl, g155, p158, p159, -⟩
    have hS160 := hS0.tr g155 (by decide +kernel) (by decide +kernel)
    obtain ⟨v161, c162⟩ : ∃ v, I152 a0 17 = v := ⟨_, rfl⟩
    rw [c162] at p159
    exact tr_iret hZ dX10_changes_13 rfl (by decide) (by decide) ⟨v157, rfl, rfl, rfl, rfl, rfl, rfl, hS160, (SkQ.st hK hW0 ta0 g155 (by decide +kernel) (by decide +kernel)), (by first | exact Or.inl ⟨(fun q0 z0 => by obtain rfl := Option.some.inj ((d2).symm.trans z0); (try rw [c4]); first | done | with_reducible assumption | exact om_1d2e7dd2 p28 h29), (by first | done | with_reducible assumption | omega), trivial⟩ | exact Or.inr (⟨(by first | done | with_reducible assumption | omega), (fun q0 z0 => by obtain rfl := Option.some.inj ((d2).symm.trans z0); (try rw [c4]); first | done | with_reducible assumption | omega), (by exfalso; omega), trivial⟩)), trivial⟩
def wik_X10_change : List Nat := [73, 81, 768, 769, 778, 2303, 2367, 2431, 2495, 2559, 2623, 2687, 2751, 2815]
def wrk_X10_change : List Nat := []
def Cs_X10_change (T : Nat → Nat) (I0 : cz_I) (R0 : cz_R) (a0 : Nat) (gX : Nat → Nat → Int) (x1 : Int32) (x2 : Int32) (v : Int32) (I' : cz_I) (R' : cz_R) : Prop :=
  ((∀ b1, R0 a0 2 = some b1 → (x1.toInt < 0 ∨ x1.toInt ≥ (I0 b1 1).toInt)) ∧ (v.toInt = -1) ∧ True) ∨
  ((0 ≤ x1.toInt) ∧ (∀ b1, R0 a0 2 = some b1 → x1.toInt < (I0 b1 1).toInt) ∧ (∀ al nw, R0 a0 2 = some al → R0 a0 6 = some nw → Chg (fun k => skC gX (-1) ((I0 al 3).toInt.toNat + (I0 nw 2).toInt.toNat) (I0 al 1).toInt x1.toInt (k : Int)) (I0 al 0).toInt x2.toInt v.toInt) ∧ True)
set_option maxHeartbeats 4000000 in
theorem fk_X10_change {l : Launch} {T : Nat → Nat} {cn : Nat} {K N : Nat → Nat} {I0 : cz_I} {R0 : cz_R} {L0 : cz_L} {d : Int} (hW0 : Wf T cn K N I0 R0 d) (gX : Nat → Nat → Int) {a0 : Nat} (ta0 : T a0 = 1) {x1 : Int32} {x2 : Int32} (hX : EvQ I0 R0 a0 gX) (hK : SkQ I0 R0 a0 gX) (hD : DjS R0 a0) : ConE l mX10_change [.ref a0, .int x1, .int x2] cn K N I0 R0 L0 (ca_i (fun v cn' K' N' I' R' L' => cn = cn' ∧ K = K' ∧ N = N' ∧ R0 = R' ∧ L0 = L' ∧ St T cn K N d wik_X10_change wrk_X10_change I0 R0 I' R0 ∧ (SkQ I' R0 a0 gX) ∧ Cs_X10_change T I0 R0 a0 gX x1 x2 v I' R0 ∧ True)) := by
  refine ConE.of (by decide +kernel) rfl (Nat.le_of_ble_eq_true rfl) rfl (fun X hX hZ hE => ?_)
  subst hX
  have hS0 : St T cn K N d wik_X10_change wrk_X10_change I0 R0 I0 R0 := St.rf0 hW0
  obtain ⟨a1, d2, ta1⟩ := rf1_2 hW0 ta0
  obtain ⟨v3, c4⟩ : ∃ v, I0 a1 1 = v := ⟨_, rfl⟩
  have b5 := iv2_1 hW0 ta1 c4
  obtain ⟨v6, c7⟩ : ∃ v, I0 a1 0 = v := ⟨_, rfl⟩
  have b8 := iv2_0 hW0 ta1 c7
  obtain ⟨a9, d10, ta9⟩ := rf1_6 hW0 ta0
  obtain ⟨a11, d12, ta11⟩ := rf1_8 hW0 ta0
  obtain ⟨a13, d14, ta13⟩ := rf1_13 hW0 ta0
  obtain ⟨v15, c16⟩ : ∃ v, I0 a1 3 = v := ⟨_, rfl⟩
  have b17 := iv2_3 hW0 ta1 c16
  refine tr_aload_n dX10_change_0 rfl ?_
  refine tr_iload_n dX10_change_1 rfl ?_
  refine q_callVi hE (M' := mX10_isHut) (as := [_]) dX10_change_2 lk10_126 inX10_isHut seX10_isHut myX10_isHut (by decide) ⟨by decide, by decide⟩ rfl (kR1 hS0.1 ta0) (Nat.le_of_ble_eq_true rfl) rfl rfl (by decide) (by decide) (fk_X10_isHut hS0.1  ta0) ?_
  rintro v23 cn' K' N' I18 R19 L20 ⟨rfl, rfl, rfl, rfl, rfl, rfl, h24, p25, p26, -⟩
  have p27 := p25 _ d2
  clear p25
  rw [c4] at p27
  have p28 := p26 _ d2
  clear p26
  rw [c4] at p28
  refine q_if_ne 14 dX10_change_5 (by decide) (fun h29 => ?_) (fun h29 => ?_)
  · skip
    refine tr_aload_n dX10_change_14 rfl ?_
    refine q_callVr hE (M' := mX10_presentSky) (as := []) dX10_change_15 lk10_119 inX10_presentSky seX10_presentSky myX10_presentSky (by decide) ⟨by decide, by decide⟩ rfl (kR1 hS0.1 ta0) (Nat.le_of_ble_eq_true rfl) rfl rfl (by decide) (by decide) (fk_X10_presentSky hS0.1 (gX) ta0 hX hK hD) ?_
    rintro a35 cn' K' N' I30 R31 L32 ⟨rfl, rfl, rfl, rfl, rfl, g33, ta35, p36, rp37, rp38, rp39, -⟩
    have hS40 := hS0.tr g33 (by decide +kernel) (by decide +kernel)
    obtain ⟨v41, c42⟩ : ∃ v, I30 a0 9 = v := ⟨_, rfl⟩
    have b43 := iv1_9 hS40.1 ta0 c42
    rw [c42] at p36
    have hz44 := rp39 _ _ _ rp37 d2 d10
    refine tr_astore_n dX10_change_18 (by decide) (by decide) ?_
    refine q_iconst dX10_change_19 (by decide) ?_
    intro v45 h46
    refine tr_istore dX10_change_20 (by decide) (by decide) ?_
    refine q_iconst dX10_change_22 (by decide) ?_
    intro v47 h48
    refine tr_istore dX10_change_23 (by decide) (by decide) ?_
    have lp67 : ∀ (fu : Nat) (ls : Nat → Option Value) (v49 : Int32) (v50 : Int32) (I57 : cz_I), ls 0 = some (.ref a0) → ls 1 = some (.int x1) → ls 2 = some (.int x2) → ls 3 = some (.ref a35) → ls 4 = some (.int v49) → ls 5 = some (.int v50) → St T cn K N d wik_X10_change wrk_X10_change I0 R0 I57 R0 → v50.toInt ≤ v6.toInt → 0 ≤ v50.toInt → 0 ≤ v49.toInt → v49.toInt ≤ v50.toInt → v49.toInt ≤ 240 → (v49.toInt = cnM (fun k => skC gX (-1) ((I0 a1 3).toInt.toNat + (I0 a9 2).toInt.toNat) (I0 a1 1).toInt x1.toInt (k : Int)) v50.toInt.toNat ∧ ∀ k : Nat, (k : Int) < v50.toInt → (fun k => skC gX (-1) ((I0 a1 3).toInt.toNat + (I0 a9 2).toInt.toNat) (I0 a1 1).toInt x1.toInt (k : Int)) k = 1 → ¬ cnM (fun k => skC gX (-1) ((I0 a1 3).toInt.toNat + (I0 a9 2).toInt.toNat) (I0 a1 1).toInt x1.toInt (k : Int)) k = x2.toInt) → (SkF I57 R0 a35 (I0 a1 0).toInt (I0 a1 1).toInt (-1) gX ((I0 a1 3).toInt.toNat + (I0 a9 2).toInt.toNat) (I0 a1 0).toInt) → (SkQ I57 R0 a0 gX) → (-v50.toInt + 2147483647).toNat < fu → Tr X mX10_change 25 ls [] cn K N I57 R0 L0 0 0 := by
      intro fu
      induction fu with
      | zero => intros; rename_i hz; exact absurd hz (Nat.not_lt_zero _)
      | succ fu ih67 =>
        intro ls v49 v50 I57 hl51 hl52 hl53 hl54 hl55 hl56 hS58 g59 g60 g61 g62 g63 rw64 rw65 rw66 hm67
        refine tr_iload dX10_change_25 hl56 ?_
        refine tr_aload_n dX10_change_27 hl51 ?_
        refine tr_getR dX10_change_28 fl10_16 (kR1 hS58.1 ta0) d2 ?_
        refine q_getI dX10_change_31 fl10_146 (kR2 hS58.1 ta1) ((hS58.cell ta1 (by decide +kernel)).trans c7) ?_
        refine q_icmp_ge 74 dX10_change_34 (by decide) (fun h69 => ?_) (fun h69 => ?_)
        · skip
          refine tr_aload_n dX10_change_74 hl51 ?_
          refine q_iconst dX10_change_75 (by decide) ?_
          intro v70 h71
          refine q_callVi hE (M' := mX10_refused) (as := [_]) dX10_change_76 lk10_79 inX10_refused seX10_refused myX10_refused (by decide) ⟨by decide, by decide⟩ rfl (kR1 hS58.1 ta0) (Nat.le_of_ble_eq_true rfl) rfl rfl (by decide) (by decide) (fk_X10_refused hS58.1  ta0) ?_
          rintro v77 cn' K' N' I72 R73 L74 ⟨rfl, rfl, rfl, rfl, rfl, g75, p78, p79, -⟩
          have hS80 := hS58.tr g75 (by decide +kernel) (by decide +kernel)
          obtain ⟨v81, c82⟩ : ∃ v, I72 a0 17 = v := ⟨_, rfl⟩
          rw [c82] at p79
          exact tr_iret hZ dX10_change_79 rfl (by decide) (by decide) ⟨v77, rfl, rfl, rfl, rfl, rfl, rfl, hS80, (SkQ.st rw66 hW0 ta0 g75 (by decide +kernel) (by decide +kernel)), (by first | exact Or.inl ⟨(fun q0 z0 => by obtain rfl := Option.some.inj ((d2).symm.trans z0); (try rw [c4]); first | done | with_reducible assumption | fail), (by first | done | with_reducible assumption | omega), trivial⟩ | exact Or.inr (⟨(by first | done | with_reducible assumption | exact om_06e659b3 b5.2 b5.1 b8.2 b8.1 h24.2 h24.1 p27 p28 h29 g59 h69), (fun q0 z0 => by obtain rfl := Option.some.inj ((d2).symm.trans z0); (try rw [c4]); first | done | with_reducible assumption | exact om_79fd2d22 b5.2 b5.1 b8.2 b8.1 h24.2 h24.1 p27 p28 h29 g59 h69), (fun al nw h2 h6 => by obtain rfl := Option.some.inj (d2.symm.trans h2); obtain rfl := Option.some.inj (d10.symm.trans h6); exact Or.inr ⟨by exact om_dd98535d p78, fun k hk => rw64.2 k (by rw [c7] at hk; exact om_0a02fdaf g59 h69 hk)⟩), trivial⟩)), trivial⟩
        · skip
          refine tr_aload_n dX10_change_37 hl54 ?_
          obtain ⟨a83, d84, ta83⟩ := rf12_8 hW0 ta35
          refine tr_getR dX10_change_38 fl10_143 (kR12 hS58.1 ta35) d84 ?_
          refine tr_iload dX10_change_41 hl56 ?_
          refine q_iald dX10_change_43 (kR41 hS58.1 ta83) (ti_in (nR41 hS58.1 ta83) (by exact om_2cfcd5a5 g60) (by exact om_6fd76572 b8.2 b8.1 h69)) ?_
          intro v85 c86
          refine tr_iload_n dX10_change_44 hl52 ?_
          have hb87 := rw65.2.2.2.2.2.2.1 _ d84 v50.toInt.toNat (by rw [c7]; exact om_479568b2 g60 h69)
          rw [show I57 a83 v50.toInt.toNat = v85 from c86] at hb87
          have hb87r := And.intro hb87.1 hb87.2.1
          refine q_callSi hE (M' := mX10_bit) (as := [_, _]) dX10_change_45 lk10_136 inX10_bit myX10_bit ⟨by decide, by decide⟩ rfl (Nat.le_of_ble_eq_true rfl) rfl rfl (by decide) (by decide) (f_X10_bitW   (by exact om_5a072c79 hb87r.2 hb87r.1) (by exact om_1b9027d1 b5.2 b5.1 b8.2 b8.1 h24.2 h24.1 p27 p28 h29 h69)) ?_
          rintro v93 cn' K' N' I88 R89 L90 ⟨rfl, rfl, rfl, rfl, rfl, rfl, p94, -⟩
          have btv93 := bt_01 v85.toInt x1.toInt
          refine q_iconst dX10_change_48 (by decide) ?_
          intro v95 h96
          refine q_icmp_ne 68 dX10_change_49 (by decide) (fun h97 => ?_) (fun h97 => ?_)
          · skip
            refine q_iincE dX10_change_68 hl56 (by decide) (by decide) (by intro j1 j2; exact om_c1baff6f b8.2 b8.1 g60 h69 j2) ?_
            intro v98 h99
            refine tr_goto 25 dX10_change_71 (by decide) ?_
            exact ih67 _ v49 v98 I57 hl51 hl52 hl53 hl54 hl55 rfl hS58 (by exact om_ed6eac99 h69 h99) (by exact om_68881c41 g60 h99) (by exact om_2cfcd5a5 g61) (by exact om_2cc8154b g62 rw64.1 h99) (by exact om_14b1317f g63) (by have e : bt _ _ = skC _ _ _ _ _ _ := hb87.2.2 x1.toInt.toNat (by exact om_c7de0486 b5.2 b5.1 b8.2 b8.1 h24.2 h24.1 p27 p28 h29 h69 p94 btv93 h96 h97 h99); rw [show ((x1.toInt.toNat : Nat) : Int) = x1.toInt by exact om_fc876503 b5.2 b5.1 b8.2 b8.1 h24.2 h24.1 p27 p28 h29 h69 p94 btv93 h96 h97 h99] at e; have w := rw64; refine ⟨by rw [show v98.toInt.toNat = v50.toInt.toNat + 1 by exact om_79cef90a g60 h99, cnM]; have w1 := w.1; exact om_a3e5be3c rw64.1 p94 btv93 h96 h97 e, fun k hk hf => ?_⟩; by_cases z : (k : Int) < v50.toInt; exact w.2 k z hf; obtain rfl : k = v50.toInt.toNat := (by exact om_173fad51 g60 h99 hk z); have hf : skC gX (-1) ((I0 a1 3).toInt.toNat + (I0 a9 2).toInt.toNat) (I0 a1 1).toInt x1.toInt ((v50.toInt.toNat : Nat) : Int) = 1 := hf; have w1 := w.1; intro hq; exact om_00dc0e8d p94 h96 h97 e hf) rw65 rw66 (by exact om_8274c318 b8.2 b8.1 g60 hm67 h69 p94 btv93 h96 h97 h99)
          · skip
            refine tr_iload dX10_change_52 hl55 ?_
            refine tr_iload_n dX10_change_54 hl53 ?_
            refine q_icmp_ne 65 dX10_change_55 (by decide) (fun h100 => ?_) (fun h100 => ?_)
            · skip
              refine q_iincE dX10_change_65 hl55 (by decide) (by decide) (by have z0 := x2.toInt_lt; have y0 := x2.le_toInt; intros; exact om_3002a778 g61 g63 rw64.1) ?_
              intro v101 h102
              refine q_iincE dX10_change_68 hl56 (by decide) (by decide) (by intro j1 j2; exact om_c1baff6f b8.2 b8.1 g60 h69 j2) ?_
              intro v103 h104
              refine tr_goto 25 dX10_change_71 (by decide) ?_
              exact ih67 _ v101 v103 I57 hl51 hl52 hl53 hl54 rfl rfl hS58 (by exact om_ed6eac99 h69 h104) (by exact om_68881c41 g60 h104) (by exact om_e920218e g61 g63 rw64.1 h102) (by exact om_a4fbd2bc g62 rw64.1 h102 h104) (by exact om_9af81f62 b8.2 b8.1 g61 g62 g63 rw64.1 h69 h102 h104) (by have e : bt _ _ = skC _ _ _ _ _ _ := hb87.2.2 x1.toInt.toNat (by exact om_b8565def b5.2 b5.1 b8.2 b8.1 h24.2 h24.1 p27 p28 h29 h69 p94 btv93 h96 h97 h100 h104); rw [show ((x1.toInt.toNat : Nat) : Int) = x1.toInt by exact om_109ae5fa b5.2 b5.1 b8.2 b8.1 h24.2 h24.1 p27 p28 h29 h69 p94 btv93 h96 h97 h100 h104] at e; have w := rw64; refine ⟨by rw [show v103.toInt.toNat = v50.toInt.toNat + 1 by exact om_79cef90a g60 h104, cnM]; have w1 := w.1; exact om_e8b36030 rw64.1 p94 h96 h97 h102 e, fun k hk hf => ?_⟩; by_cases z : (k : Int) < v50.toInt; exact w.2 k z hf; obtain rfl : k = v50.toInt.toNat := (by exact om_173fad51 g60 h104 hk z); have hf : skC gX (-1) ((I0 a1 3).toInt.toNat + (I0 a9 2).toInt.toNat) (I0 a1 1).toInt x1.toInt ((v50.toInt.toNat : Nat) : Int) = 1 := hf; have w1 := w.1; intro hq; exact om_e045f27a rw64.1 h100 h102 hq) rw65 rw66 (by exact om_03f5b4d1 b8.2 b8.1 g60 hm67 h69 p94 btv93 h96 h97 h100 h104)
            · skip
              refine tr_aload_n dX10_change_58 hl51 ?_
              refine tr_iload dX10_change_59 hl56 ?_
              refine q_callVi hE (M' := mX10_answered) (as := [_]) dX10_change_61 lk10_109 inX10_answered seX10_answered myX10_answered (by decide) ⟨by decide, by decide⟩ rfl (kR1 hS58.1 ta0) (Nat.le_of_ble_eq_true rfl) rfl rfl (by decide) (by decide) (fk_X10_answered hS58.1  ta0) ?_
              rintro v110 cn' K' N' I105 R106 L107 ⟨rfl, rfl, rfl, rfl, rfl, g108, p111, p112, -⟩
              have hS113 := hS58.tr g108 (by decide +kernel) (by decide +kernel)
              obtain ⟨v114, c115⟩ : ∃ v, I105 a0 17 = v := ⟨_, rfl⟩
              rw [c115] at p112
              exact tr_iret hZ dX10_change_64 rfl (by decide) (by decide) ⟨v110, rfl, rfl, rfl, rfl, rfl, rfl, hS113, (SkQ.st rw66 hW0 ta0 g108 (by decide +kernel) (by decide +kernel)), (Or.inr (⟨(by first | done | with_reducible assumption | exact om_1d054290 b5.2 b5.1 b8.2 b8.1 h24.2 h24.1 p27 p28 h29 h69 p94 btv93 h96 h97 p111), (fun q0 z0 => by obtain rfl := Option.some.inj ((d2).symm.trans z0); (try rw [c4]); first | done | with_reducible assumption | exact om_a124577d b5.2 b5.1 b8.2 b8.1 h24.2 h24.1 p27 p28 h29 h69 p94 btv93 h96 h97 p111), (fun al nw h2 h6 => by obtain rfl := Option.some.inj (d2.symm.trans h2); obtain rfl := Option.some.inj (d10.symm.trans h6); have e : bt _ _ = skC _ _ _ _ _ _ := hb87.2.2 x1.toInt.toNat (by exact om_e26361d3 b5.2 b5.1 b8.2 b8.1 h24.2 h24.1 p27 p28 h29 h69 p94 btv93 h96 h97 p111); rw [show ((x1.toInt.toNat : Nat) : Int) = x1.toInt by exact om_07e9d58e b5.2 b5.1 b8.2 b8.1 h24.2 h24.1 p27 p28 h29 h69 p94 btv93 h96 h97 p111] at e; have w := rw64.1; exact Or.inl ⟨v50.toInt.toNat, by rw [c7]; exact om_86924ac9 g60 h69 p111, by exact om_3afa4106 g60 p111, (by show skC _ _ _ _ _ _ = _; exact om_0eb54be9 p94 h96 h97 e), by exact om_444e8b26 rw64.1 h100⟩), trivial⟩)), trivial⟩
    exact lp67 _ _ v45 v47 I30 rfl rfl rfl rfl rfl rfl hS40 (by exact om_a84450f2 b8.2 b8.1 h48) (by exact om_d99fa9e4 h48) (by exact om_d99fa9e4 h46) (by exact om_52c36dab h46 h48) (by exact om_4c96df26 h46) ⟨by rw [show v47.toInt.toNat = 0 by exact om_8b46d78f h48]; show _ = (0 : Int); exact om_29f55913 h46, fun k hk => by exfalso; exact om_309783c8 h48 hk⟩ hz44 (SkQ.of rp38) (Nat.lt_succ_self _)
  · skip
    refine tr_aload_n dX10_change_8 rfl ?_
    refine q_iconst dX10_change_9 (by decide) ?_
    intro v116 h117
    refine q_callVi hE (M' := mX10_refused) (as := [_]) dX10_change_10 lk10_79 inX10_refused seX10_refused myX10_refused (by decide) ⟨by decide, by decide⟩ rfl (kR1 hS0.1 ta0) (Nat.le_of_ble_eq_true rfl) rfl rfl (by decide) (by decide) (fk_X10_refused hS0.1  ta0) ?_
    rintro v123 cn' K' N' I118 R119 L120 ⟨rfl, rfl, rfl, rfl, rfl, g121, p124, p125, -⟩
    have hS126 := hS0.tr g121 (by decide +kernel) (by decide +kernel)
    obtain ⟨v127, c128⟩ : ∃ v, I118 a0 17 = v := ⟨_, rfl⟩
    rw [c128] at p125
    exact tr_iret hZ dX10_change_13 rfl (by decide) (by decide) ⟨v123, rfl, rfl, rfl, rfl, rfl, rfl, hS126, (SkQ.st hK hW0 ta0 g121 (by decide +kernel) (by decide +kernel)), (by first | exact Or.inl ⟨(fun q0 z0 => by obtain rfl := Option.some.inj ((d2).symm.trans z0); (try rw [c4]); first | done | with_reducible assumption | exact om_1d2e7dd2 p28 h29), (by first | done | with_reducible assumption | omega), trivial⟩ | exact Or.inr (⟨(by first | done | with_reducible assumption | omega), (fun q0 z0 => by obtain rfl := Option.some.inj ((d2).symm.trans z0); (try rw [c4]); first | done | with_reducible assumption | omega), (by exfalso; omega), trivial⟩)), trivial⟩
set_option maxHeartbeats 4000000 in
theorem fk_X0_cheesesIn {l : Launch} {T : Nat → Nat} {cn : Nat} {K N : Nat → Nat} {I0 : cz_I} {R0 : cz_R} {L0 : cz_L} {d : Int} (hW0 : Wf T cn K N I0 R0 d) (gH : Nat → Int) {a0 : Nat} (ta0 : T a0 = 2) {x1 : Int32} (hx1 : 0 ≤ x1.toInt ∧ x1.toInt ≤ 15) (hH : ∀ r, R0 a0 6 = some r → ∀ c : Nat, (c : Int) < (I0 a0 5).toInt → (I0 r c).toInt = gH c ∧ 0 ≤ gH c ∧ gH c ≤ 3) : ConE l mX0_cheesesIn [.ref a0, .int x1] cn K N I0 R0 L0 (ca_i (fun v cn' K' N' I' R' L' => cn = cn' ∧ K = K' ∧ N = N' ∧ I0 = I' ∧ R0 = R' ∧ L0 = L' ∧ (0 ≤ v.toInt ∧ v.toInt ≤ 8) ∧ (∀ r, R0 a0 6 = some r → v.toInt = cnM (fun c => bt x1.toInt (I0 r c).toInt) (I0 a0 5).toInt.toNat) ∧ True)) := by
  refine ConE.of (by decide +kernel) rfl (Nat.le_of_ble_eq_true rfl) rfl (fun X hX hZ hE => ?_)
  subst hX
  obtain ⟨v1, c2⟩ : ∃ v, I0 a0 5 = v := ⟨_, rfl⟩
  have b3 := iv2_5 hW0 ta0 c2
  obtain ⟨a4, d5, ta4⟩ := rf2_6 hW0 ta0
  refine q_iconst dX0_cheesesIn_0 (by decide) ?_
  intro v6 h7
  refine tr_istore_n dX0_cheesesIn_1 (by decide) (by decide) ?_
  refine q_iconst dX0_cheesesIn_2 (by decide) ?_
  intro v8 h9
  refine tr_istore_n dX0_cheesesIn_3 (by decide) (by decide) ?_
  have lp20 : ∀ (fu : Nat) (ls : Nat → Option Value) (v10 : Int32) (v11 : Int32), ls 0 = some (.ref a0) → ls 1 = some (.int x1) → ls 2 = some (.int v10) → ls 3 = some (.int v11) → v11.toInt ≤ v1.toInt → 0 ≤ v10.toInt → v10.toInt ≤ v11.toInt → (v10.toInt = cnM (fun c => bt x1.toInt (I0 a4 c).toInt) v11.toInt.toNat) → (-v11.toInt + 2147483647).toNat < fu → Tr X mX0_cheesesIn 4 ls [] cn K N I0 R0 L0 0 0 := by
    intro fu
    induction fu with
    | zero => intros; rename_i hz; exact absurd hz (Nat.not_lt_zero _)
    | succ fu ih20 =>
      intro ls v10 v11 hl12 hl13 hl14 hl15 g16 g17 g18 rw19 hm20
      refine tr_iload_n dX0_cheesesIn_4 hl15 ?_
      refine tr_aload_n dX0_cheesesIn_5 hl12 ?_
      refine q_getI dX0_cheesesIn_6 fl0_60 (kR2 hW0 ta0) c2 ?_
      refine q_icmp_ge 31 dX0_cheesesIn_9 (by decide) (fun h22 => ?_) (fun h22 => ?_)
      · skip
        refine tr_iload_n dX0_cheesesIn_31 hl14 ?_
        exact tr_iret hZ dX0_cheesesIn_32 rfl (by decide) (by decide) ⟨v10, rfl, rfl, rfl, rfl, rfl, rfl, rfl, (by exact om_ad0b7ac0 b3.2 b3.1 g16 g17 g18 rw19 h22), (fun r hr => by obtain rfl := Option.some.inj (d5.symm.trans hr); have w := rw19; rw [show v11.toInt.toNat = (I0 a0 5).toInt.toNat from congrArg Int.toNat (by rw [c2]; exact om_99e6832e g16 h22)] at w; exact om_acd7a85a w), trivial⟩
      · skip
        refine tr_iload_n dX0_cheesesIn_12 hl14 ?_
        refine tr_iload_n dX0_cheesesIn_13 hl13 ?_
        refine tr_aload_n dX0_cheesesIn_14 hl12 ?_
        refine tr_getR dX0_cheesesIn_15 fl0_21 (kR2 hW0 ta0) d5 ?_
        refine tr_iload_n dX0_cheesesIn_18 hl15 ?_
        refine q_iald dX0_cheesesIn_19 (kR20 hW0 ta4) (ti_in (nR20 hW0 ta4) (by exact om_d7e5c420 g17 g18 rw19) (by exact om_5f13cc30 b3.2 b3.1 h22)) ?_
        intro v23 c24
        have hc25 := hH _ d5 v11.toInt.toNat (by rw [c2]; exact om_ad3c0978 g17 g18 rw19 h22)
        rw [show I0 a4 v11.toInt.toNat = v23 from c24] at hc25
        refine q_callSNi hE (M' := mX10_bit) (as := [_, _]) dX0_cheesesIn_20 lk0_78 inX10_bit myX10_bit ⟨by decide, by decide⟩ rfl (Nat.le_of_ble_eq_true rfl) rfl rfl (by decide) (by decide) (f_X10_bitW   (by exact om_5a072c79 hx1.2 hx1.1) (by exact om_6e7f69f3 hc25.1 hc25.2.2 hc25.2.1)) ?_
        rintro v31 cn' K' N' I26 R27 L28 ⟨rfl, rfl, rfl, rfl, rfl, rfl, p32, -⟩
        have btv31 := bt_01 x1.toInt v23.toInt
        refine q_iaddE dX0_cheesesIn_23 (by intro j1 j2 j3 j4; exact om_e82283b9 b3.2 b3.1 g17 g18 rw19 h22 p32 btv31 j2 j3 j4) ?_
        intro v33 h34
        refine tr_istore_n dX0_cheesesIn_24 (by decide) (by decide) ?_
        refine q_iincE dX0_cheesesIn_25 hl15 (by decide) (by decide) (by intro j1 j2; exact om_59a280f0 b3.2 b3.1 h22 j1 j2) ?_
        intro v35 h36
        refine tr_goto 4 dX0_cheesesIn_28 (by decide) ?_
        exact ih20 _ v33 v35 hl12 hl13 rfl rfl (by exact om_ed6eac99 h22 h36) (by exact om_50899b5b g17 rw19 p32 btv31 h34) (by exact om_c81a599f g18 rw19 p32 btv31 h34 h36) (by rw [show v35.toInt.toNat = v11.toInt.toNat + 1 by exact om_612c0fec g17 g18 rw19 p32 h34 h36, cnM]; have w := rw19; rw [show I0 a4 v11.toInt.toNat = v23 from c24]; exact om_53f13e44 rw19 p32 h34) (by exact om_f1c06b00 b3.2 b3.1 hm20 h22 btv31 h36)
  exact lp20 _ _ v6 v8 rfl rfl rfl rfl (by exact om_5f0a174a b3.2 b3.1 h9) (by exact om_d99fa9e4 h7) (by exact om_52c36dab h7 h9) (by rw [show v8.toInt.toNat = 0 by exact om_8b46d78f h9]; show _ = (0 : Int); exact om_29f55913 h7) (Nat.lt_succ_self _)
def wik_X10_peak : List Nat := [73, 81, 768, 769, 778, 2303, 2367, 2431, 2495, 2559, 2623, 2687, 2751, 2815]
def wrk_X10_peak : List Nat := []
def Cs_X10_peak (T : Nat → Nat) (I0 : cz_I) (R0 : cz_R) (a0 : Nat) (gX : Nat → Nat → Int) (gH : Nat → Int) (v : Int32) (I' : cz_I) (R' : cz_R) : Prop :=
  (((I0 a0 5).toInt = 0) ∧ (v.toInt = -1) ∧ True) ∨
  (((I0 a0 5).toInt = 1) ∧ (∀ al nw, R0 a0 2 = some al → R0 a0 6 = some nw → ∃ most, PkI (fun k => skD gX (-1) ((I0 al 3).toInt.toNat + (I0 nw 2).toInt.toNat) (I0 al 1).toInt gH (I0 al 5).toInt.toNat (k : Int)) (I0 al 0).toInt most v.toInt) ∧ True)
set_option maxHeartbeats 4000000 in
theorem fk_X10_peak {l : Launch} {T : Nat → Nat} {cn : Nat} {K N : Nat → Nat} {I0 : cz_I} {R0 : cz_R} {L0 : cz_L} {d : Int} (hW0 : Wf T cn K N I0 R0 d) (gX : Nat → Nat → Int) (gH : Nat → Int) {a0 : Nat} (ta0 : T a0 = 1) (hX : EvQ I0 R0 a0 gX) (hK : SkQ I0 R0 a0 gX) (hD : DjS R0 a0) (hH : ∀ al r, R0 a0 2 = some al → R0 al 6 = some r → ∀ c : Nat, (c : Int) < (I0 al 5).toInt → (I0 r c).toInt = gH c ∧ 0 ≤ gH c ∧ gH c ≤ 3) : ConE l mX10_peak [.ref a0] cn K N I0 R0 L0 (ca_i (fun v cn' K' N' I' R' L' => cn = cn' ∧ K = K' ∧ N = N' ∧ R0 = R' ∧ L0 = L' ∧ St T cn K N d wik_X10_peak wrk_X10_peak I0 R0 I' R0 ∧ (SkQ I' R0 a0 gX) ∧ Cs_X10_peak T I0 R0 a0 gX gH v I' R0 ∧ True)) := by
  refine ConE.of (by decide +kernel) rfl (Nat.le_of_ble_eq_true rfl) rfl (fun X hX hZ hE => ?_)
  subst hX
  have hS0 : St T cn K N d wik_X10_peak wrk_X10_peak I0 R0 I0 R0 := St.rf0 hW0
  obtain ⟨v1, c2⟩ : ∃ v, I0 a0 5 = v := ⟨_, rfl⟩
  have b3 := iv1_5 hW0 ta0 c2
  obtain ⟨a4, d5, ta4⟩ := rf1_2 hW0 ta0
  obtain ⟨v6, c7⟩ : ∃ v, I0 a4 0 = v := ⟨_, rfl⟩
  have b8 := iv2_0 hW0 ta4 c7
  obtain ⟨a9, d10, ta9⟩ := rf1_6 hW0 ta0
  obtain ⟨a11, d12, ta11⟩ := rf1_8 hW0 ta0
  obtain ⟨a13, d14, ta13⟩ := rf1_13 hW0 ta0
  obtain ⟨v15, c16⟩ : ∃ v, I0 a4 1 = v := ⟨_, rfl⟩
  have b17 := iv2_1 hW0 ta4 c16
  obtain ⟨v18, c19⟩ : ∃ v, I0 a4 3 = v := ⟨_, rfl⟩
  have b20 := iv2_3 hW0 ta4 c19
  obtain ⟨a21, d22, ta21⟩ := rf2_6 hW0 ta4
  obtain ⟨v23, c24⟩ : ∃ v, I0 a4 5 = v := ⟨_, rfl⟩
  have b25 := iv2_5 hW0 ta4 c24
  refine tr_aload_n dX10_peak_0 rfl ?_
  refine q_getZ dX10_peak_1 fl10_95 (kR1 hS0.1 ta0) c2 ?_
  refine q_if_ne 13 dX10_peak_4 (by decide) (fun h26 => ?_) (fun h26 => ?_)
  · skip
    refine tr_aload_n dX10_peak_13 rfl ?_
    refine q_callVr hE (M' := mX10_presentSky) (as := []) dX10_peak_14 lk10_119 inX10_presentSky seX10_presentSky myX10_presentSky (by decide) ⟨by decide, by decide⟩ rfl (kR1 hS0.1 ta0) (Nat.le_of_ble_eq_true rfl) rfl rfl (by decide) (by decide) (fk_X10_presentSky hS0.1 (gX) ta0 hX hK hD) ?_
    rintro a32 cn' K' N' I27 R28 L29 ⟨rfl, rfl, rfl, rfl, rfl, g30, ta32, p33, rp34, rp35, rp36, -⟩
    have hS37 := hS0.tr g30 (by decide +kernel) (by decide +kernel)
    obtain ⟨v38, c39⟩ : ∃ v, I27 a0 9 = v := ⟨_, rfl⟩
    have b40 := iv1_9 hS37.1 ta0 c39
    rw [c39] at p33
    have hz41 := rp36 _ _ _ rp34 d5 d10
    refine tr_astore_n dX10_peak_17 (by decide) (by decide) ?_
    refine q_iconst dX10_peak_18 (by decide) ?_
    intro v42 h43
    refine tr_istore_n dX10_peak_19 (by decide) (by decide) ?_
    refine q_bipush dX10_peak_20 (by decide +kernel) ?_
    intro v44 h45
    refine tr_istore_n dX10_peak_22 (by decide) (by decide) ?_
    refine q_iconst dX10_peak_23 (by decide) ?_
    intro v46 h47
    refine tr_istore dX10_peak_24 (by decide) (by decide) ?_
    have lp63 : ∀ (fu : Nat) (ls : Nat → Option Value) (v48 : Int32) (v49 : Int32) (v50 : Int32) (I56 : cz_I), ls 0 = some (.ref a0) → ls 1 = some (.ref a32) → ls 2 = some (.int v48) → ls 3 = some (.int v49) → ls 4 = some (.int v50) → St T cn K N d wik_X10_peak wrk_X10_peak I0 R0 I56 R0 → v50.toInt ≤ v6.toInt → 0 ≤ v50.toInt → (PkI (fun k => skD gX (-1) ((I0 a4 3).toInt.toNat + (I0 a9 2).toInt.toNat) (I0 a4 1).toInt gH (I0 a4 5).toInt.toNat (k : Int)) v50.toInt v48.toInt v49.toInt) → (SkF I56 R0 a32 (I0 a4 0).toInt (I0 a4 1).toInt (-1) gX ((I0 a4 3).toInt.toNat + (I0 a9 2).toInt.toNat) (I0 a4 0).toInt) → (SkQ I56 R0 a0 gX) → (-v50.toInt + 2147483647).toNat < fu → Tr X mX10_peak 26 ls [] cn K N I56 R0 L0 0 0 := by
      intro fu
      induction fu with
      | zero => intros; rename_i hz; exact absurd hz (Nat.not_lt_zero _)
      | succ fu ih63 =>
        intro ls v48 v49 v50 I56 hl51 hl52 hl53 hl54 hl55 hS57 g58 g59 rw60 rw61 rw62 hm63
        refine tr_iload dX10_peak_26 hl55 ?_
        refine tr_aload_n dX10_peak_28 hl51 ?_
        refine tr_getR dX10_peak_29 fl10_16 (kR1 hS57.1 ta0) d5 ?_
        refine q_getI dX10_peak_32 fl10_146 (kR2 hS57.1 ta4) ((hS57.cell ta4 (by decide +kernel)).trans c7) ?_
        refine q_icmp_ge 72 dX10_peak_35 (by decide) (fun h65 => ?_) (fun h65 => ?_)
        · skip
          refine tr_aload_n dX10_peak_72 hl51 ?_
          refine tr_iload_n dX10_peak_73 hl54 ?_
          refine q_callVi hE (M' := mX10_answered) (as := [_]) dX10_peak_74 lk10_109 inX10_answered seX10_answered myX10_answered (by decide) ⟨by decide, by decide⟩ rfl (kR1 hS57.1 ta0) (Nat.le_of_ble_eq_true rfl) rfl rfl (by decide) (by decide) (fk_X10_answered hS57.1  ta0) ?_
          rintro v71 cn' K' N' I66 R67 L68 ⟨rfl, rfl, rfl, rfl, rfl, g69, p72, p73, -⟩
          have hS74 := hS57.tr g69 (by decide +kernel) (by decide +kernel)
          obtain ⟨v75, c76⟩ : ∃ v, I66 a0 17 = v := ⟨_, rfl⟩
          rw [c76] at p73
          exact tr_iret hZ dX10_peak_77 rfl (by decide) (by decide) ⟨v71, rfl, rfl, rfl, rfl, rfl, rfl, hS74, (SkQ.st rw62 hW0 ta0 g69 (by decide +kernel) (by decide +kernel)), (Or.inr (⟨(by (try rw [c2]); first | done | with_reducible assumption | exact om_2c3853d4 b3.2 b3.1 b8.2 b8.1 h26 g58 h65), (fun al nw h2 h6 => by obtain rfl := Option.some.inj (d5.symm.trans h2); obtain rfl := Option.some.inj (d10.symm.trans h6); exact ⟨v48.toInt, by rw [show v71.toInt = v49.toInt by exact om_acd7a85a p72, show (I0 a4 0).toInt = v50.toInt by rw [c7]; exact om_fa2daf9e g58 h65]; exact rw60⟩), trivial⟩)), trivial⟩
        · skip
          refine tr_aload_n dX10_peak_38 hl51 ?_
          refine tr_getR dX10_peak_39 fl10_16 (kR1 hS57.1 ta0) d5 ?_
          refine tr_aload_n dX10_peak_42 hl52 ?_
          obtain ⟨a77, d78, ta77⟩ := rf12_8 hW0 ta32
          refine tr_getR dX10_peak_43 fl10_143 (kR12 hS57.1 ta32) d78 ?_
          refine tr_iload dX10_peak_46 hl55 ?_
          refine q_iald dX10_peak_48 (kR41 hS57.1 ta77) (ti_in (nR41 hS57.1 ta77) (by exact om_2cfcd5a5 g59) (by exact om_6fd76572 b8.2 b8.1 h65)) ?_
          intro v79 c80
          have hb81 := rw61.2.2.2.2.2.2.1 _ d78 v50.toInt.toNat (by rw [c7]; exact om_479568b2 g59 h65)
          rw [show I56 a77 v50.toInt.toNat = v79 from c80] at hb81
          have hb81r := And.intro hb81.1 hb81.2.1
          refine q_callVi hE (M' := mX0_cheesesIn) (as := [_]) dX10_peak_49 lk10_149 inX0_cheesesIn seX0_cheesesIn myX0_cheesesIn (by decide) ⟨by decide, by decide⟩ rfl (kR2 hS57.1 ta4) (Nat.le_of_ble_eq_true rfl) rfl rfl (by decide) (by decide) (fk_X0_cheesesIn hS57.1 (gH) ta4 (by exact om_2ccb1cf2 hb81r) (fun r hr c hc => by rw [hS57.cell ta4 (by decide +kernel)] at hc; obtain rfl := Option.some.inj (d22.symm.trans hr); rw [hS57.cell ta21 (wm_no (by decide +kernel))]; exact hH _ _ d5 d22 c hc)) ?_
          rintro v87 cn' K' N' I82 R83 L84 ⟨rfl, rfl, rfl, rfl, rfl, rfl, h88, rp89, -⟩
          have hd90 := rp89 _ d22
          rw [show cnM (fun c => bt v79.toInt (I56 a21 c).toInt) (I56 a4 5).toInt.toNat = skD gX (-1) ((I0 a4 3).toInt.toNat + (I0 a9 2).toInt.toNat) (I0 a4 1).toInt gH (I0 a4 5).toInt.toNat ((v50.toInt.toNat : Nat) : Int) by rw [hS57.cell ta4 (by decide +kernel)]; exact skD.of hb81 (fun c hc => by rw [hS57.cell ta21 (wm_no (by decide +kernel))]; exact hH _ _ d5 d22 c (by exact om_a98848b8 hc))] at hd90
          refine tr_istore dX10_peak_52 (by decide) (by decide) ?_
          refine tr_iload dX10_peak_54 rfl ?_
          refine tr_iload_n dX10_peak_56 hl53 ?_
          refine q_icmp_le 66 dX10_peak_57 (by decide) (fun h91 => ?_) (fun h91 => ?_)
          · skip
            refine q_iincE dX10_peak_66 hl55 (by decide) (by decide) (by intro j1 j2; exact om_c1baff6f b8.2 b8.1 g59 h65 j2) ?_
            intro v92 h93
            refine tr_goto 26 dX10_peak_69 (by decide) ?_
            exact ih63 _ v48 v49 v92 I56 hl51 hl52 hl53 hl54 rfl hS57 (by exact om_ed6eac99 h65 h93) (by exact om_68881c41 g59 h93) (PkI.no rw60 v50.toInt.toNat (by exact om_dc081602 g59 h93) (by exact om_764ef139 h93) (by show skD _ _ _ _ _ _ _ ≤ _; exact om_7865fadd hd90 h91)) rw61 rw62 (by exact om_2e8c00e6 b8.2 b8.1 g59 hm63 h65 h93)
          · skip
            refine tr_iload dX10_peak_60 rfl ?_
            refine tr_istore_n dX10_peak_62 (by decide) (by decide) ?_
            refine tr_iload dX10_peak_63 hl55 ?_
            refine tr_istore_n dX10_peak_65 (by decide) (by decide) ?_
            refine q_iincE dX10_peak_66 hl55 (by decide) (by decide) (by intro j1 j2; exact om_c1baff6f b8.2 b8.1 g59 h65 j2) ?_
            intro v94 h95
            refine tr_goto 26 dX10_peak_69 (by decide) ?_
            exact ih63 _ v87 v50 v94 I56 hl51 hl52 rfl rfl rfl hS57 (by exact om_ed6eac99 h65 h95) (by exact om_68881c41 g59 h95) (PkI.up rw60 v50.toInt.toNat (by exact om_dc081602 g59 h95) (by exact om_764ef139 h95) (by show skD _ _ _ _ _ _ _ = _; exact om_7847aadf hd90) (by exact om_b6fabb1f h91) (by exact om_4ee7209a)) rw61 rw62 (by exact om_2e8c00e6 b8.2 b8.1 g59 hm63 h65 h95)
    exact lp63 _ _ v42 v44 v46 I27 rfl rfl rfl rfl rfl hS37 (by exact om_a84450f2 b8.2 b8.1 h47) (by exact om_d99fa9e4 h47) (PkI.z (by exact om_29f55913 h47) (by exact om_29f55913 h43) (by exact om_08822499 h45)) hz41 (SkQ.of rp35) (Nat.lt_succ_self _)
  · skip
    refine tr_aload_n dX10_peak_7 rfl ?_
    refine q_iconst dX10_peak_8 (by decide) ?_
    intro v96 h97
    refine q_callVi hE (M' := mX10_refused) (as := [_]) dX10_peak_9 lk10_79 inX10_refused seX10_refused myX10_refused (by decide) ⟨by decide, by decide⟩ rfl (kR1 hS0.1 ta0) (Nat.le_of_ble_eq_true rfl) rfl rfl (by decide) (by decide) (fk_X10_refused hS0.1  ta0) ?_
    rintro v103 cn' K' N' I98 R99 L100 ⟨rfl, rfl, rfl, rfl, rfl, g101, p104, p105, -⟩
    have hS106 := hS0.tr g101 (by decide +kernel) (by decide +kernel)
    obtain ⟨v107, c108⟩ : ∃ v, I98 a0 17 = v := ⟨_, rfl⟩
    rw [c108] at p105
    exact tr_iret hZ dX10_peak_12 rfl (by decide) (by decide) ⟨v103, rfl, rfl, rfl, rfl, rfl, rfl, hS106, (SkQ.st hK hW0 ta0 g101 (by decide +kernel) (by decide +kernel)), (Or.inl ⟨(by (try rw [c2]); first | done | with_reducible assumption | omega), (by first | done | with_reducible assumption | omega), trivial⟩), trivial⟩
def wik_X10_due : List Nat := [73, 81, 768, 769, 778, 2303, 2367, 2431, 2495, 2559, 2623, 2687, 2751, 2815]
def wrk_X10_due : List Nat := []
def Cs_X10_due (T : Nat → Nat) (I0 : cz_I) (R0 : cz_R) (a0 : Nat) (gX : Nat → Nat → Int) (gH : Nat → Int) (x1 : Int32) (v : Int32) (I' : cz_I) (R' : cz_R) : Prop :=
  (((I0 a0 5).toInt = 0) ∧ (v.toInt = -1) ∧ True) ∨
  (((I0 a0 5).toInt = 1) ∧ (∀ b1, R0 a0 2 = some b1 → (x1.toInt < 0 ∨ x1.toInt ≥ (I0 b1 0).toInt)) ∧ (v.toInt = -1) ∧ True) ∨
  (((I0 a0 5).toInt = 1) ∧ (0 ≤ x1.toInt) ∧ (∀ b1, R0 a0 2 = some b1 → x1.toInt < (I0 b1 0).toInt) ∧ (∀ al nw, R0 a0 2 = some al → R0 a0 6 = some nw → v.toInt = skD gX (-1) ((I0 al 3).toInt.toNat + (I0 nw 2).toInt.toNat) (I0 al 1).toInt gH (I0 al 5).toInt.toNat x1.toInt) ∧ True)
set_option maxHeartbeats 4000000 in
theorem fk_X10_due {l : Launch} {T : Nat → Nat} {cn : Nat} {K N : Nat → Nat} {I0 : cz_I} {R0 : cz_R} {L0 : cz_L} {d : Int} (hW0 : Wf T cn K N I0 R0 d) (gX : Nat → Nat → Int) (gH : Nat → Int) {a0 : Nat} (ta0 : T a0 = 1) {x1 : Int32} (hX : EvQ I0 R0 a0 gX) (hK : SkQ I0 R0 a0 gX) (hD : DjS R0 a0) (hH : ∀ al r, R0 a0 2 = some al → R0 al 6 = some r → ∀ c : Nat, (c : Int) < (I0 al 5).toInt → (I0 r c).toInt = gH c ∧ 0 ≤ gH c ∧ gH c ≤ 3) : ConE l mX10_due [.ref a0, .int x1] cn K N I0 R0 L0 (ca_i (fun v cn' K' N' I' R' L' => cn = cn' ∧ K = K' ∧ N = N' ∧ R0 = R' ∧ L0 = L' ∧ St T cn K N d wik_X10_due wrk_X10_due I0 R0 I' R0 ∧ (SkQ I' R0 a0 gX) ∧ Cs_X10_due T I0 R0 a0 gX gH x1 v I' R0 ∧ True)) := by
  refine ConE.of (by decide +kernel) rfl (Nat.le_of_ble_eq_true rfl) rfl (fun X hX hZ hE => ?_)
  subst hX
  have hS0 : St T cn K N d wik_X10_due wrk_X10_due I0 R0 I0 R0 := St.rf0 hW0
  obtain ⟨v1, c2⟩ : ∃ v, I0 a0 5 = v := ⟨_, rfl⟩
  have b3 := iv1_5 hW0 ta0 c2
  obtain ⟨a4, d5, ta4⟩ := rf1_2 hW0 ta0
  obtain ⟨v6, c7⟩ : ∃ v, I0 a4 0 = v := ⟨_, rfl⟩
  have b8 := iv2_0 hW0 ta4 c7
  obtain ⟨a9, d10, ta9⟩ := rf1_6 hW0 ta0
  obtain ⟨a11, d12, ta11⟩ := rf1_8 hW0 ta0
  obtain ⟨a13, d14, ta13⟩ := rf1_13 hW0 ta0
  obtain ⟨v15, c16⟩ : ∃ v, I0 a4 1 = v := ⟨_, rfl⟩
  have b17 := iv2_1 hW0 ta4 c16
  obtain ⟨v18, c19⟩ : ∃ v, I0 a4 3 = v := ⟨_, rfl⟩
  have b20 := iv2_3 hW0 ta4 c19
  obtain ⟨a21, d22, ta21⟩ := rf2_6 hW0 ta4
  obtain ⟨v23, c24⟩ : ∃ v, I0 a4 5 = v := ⟨_, rfl⟩
  have b25 := iv2_5 hW0 ta4 c24
  refine tr_aload_n dX10_due_0 rfl ?_
  refine q_getZ dX10_due_1 fl10_95 (kR1 hS0.1 ta0) c2 ?_
  refine q_if_ne 13 dX10_due_4 (by decide) (fun h26 => ?_) (fun h26 => ?_)
  · skip
    refine tr_aload_n dX10_due_13 rfl ?_
    refine tr_iload_n dX10_due_14 rfl ?_
    refine q_callVi hE (M' := mX10_isMinute) (as := [_]) dX10_due_15 lk10_115 inX10_isMinute seX10_isMinute myX10_isMinute (by decide) ⟨by decide, by decide⟩ rfl (kR1 hS0.1 ta0) (Nat.le_of_ble_eq_true rfl) rfl rfl (by decide) (by decide) (fk_X10_isMinute hS0.1  ta0) ?_
    rintro v32 cn' K' N' I27 R28 L29 ⟨rfl, rfl, rfl, rfl, rfl, rfl, h33, p34, p35, -⟩
    have p36 := p34 _ d5
    clear p34
    rw [c7] at p36
    have p37 := p35 _ d5
    clear p35
    rw [c7] at p37
    refine q_if_ne 27 dX10_due_18 (by decide) (fun h38 => ?_) (fun h38 => ?_)
    · skip
      refine tr_aload_n dX10_due_27 rfl ?_
      refine tr_aload_n dX10_due_28 rfl ?_
      refine tr_getR dX10_due_29 fl10_16 (kR1 hS0.1 ta0) d5 ?_
      refine tr_aload_n dX10_due_32 rfl ?_
      refine q_callVr hE (M' := mX10_presentSky) (as := []) dX10_due_33 lk10_119 inX10_presentSky seX10_presentSky myX10_presentSky (by decide) ⟨by decide, by decide⟩ rfl (kR1 hS0.1 ta0) (Nat.le_of_ble_eq_true rfl) rfl rfl (by decide) (by decide) (fk_X10_presentSky hS0.1 (gX) ta0 hX hK hD) ?_
      rintro a44 cn' K' N' I39 R40 L41 ⟨rfl, rfl, rfl, rfl, rfl, g42, ta44, p45, rp46, rp47, rp48, -⟩
      have hS49 := hS0.tr g42 (by decide +kernel) (by decide +kernel)
      obtain ⟨v50, c51⟩ : ∃ v, I39 a0 9 = v := ⟨_, rfl⟩
      have b52 := iv1_9 hS49.1 ta0 c51
      rw [c51] at p45
      have hz53 := rp48 _ _ _ rp46 d5 d10
      obtain ⟨a54, d55, ta54⟩ := rf12_8 hW0 ta44
      refine tr_getR dX10_due_36 fl10_143 (kR12 hS49.1 ta44) d55 ?_
      refine tr_iload_n dX10_due_39 rfl ?_
      refine q_iald dX10_due_40 (kR41 hS49.1 ta54) (ti_in (nR41 hS49.1 ta54) (by exact om_1ebe3f0a b8.2 b8.1 h33.2 h33.1 p36 p37 h38) (by exact om_9003f602 b8.2 b8.1 h33.2 h33.1 p36 p37 h38)) ?_
      intro v56 c57
      have hb58 := hz53.2.2.2.2.2.2.1 _ d55 x1.toInt.toNat (by rw [c7]; exact om_515c395c h33.2 h33.1 p36 p37 h38)
      rw [show I39 a54 x1.toInt.toNat = v56 from c57] at hb58
      have hb58r := And.intro hb58.1 hb58.2.1
      refine q_callVi hE (M' := mX0_cheesesIn) (as := [_]) dX10_due_41 lk10_149 inX0_cheesesIn seX0_cheesesIn myX0_cheesesIn (by decide) ⟨by decide, by decide⟩ rfl (kR2 hS49.1 ta4) (Nat.le_of_ble_eq_true rfl) rfl rfl (by decide) (by decide) (fk_X0_cheesesIn hS49.1 (gH) ta4 (by exact om_2ccb1cf2 hb58r) (fun r hr c hc => by rw [hS49.cell ta4 (by decide +kernel)] at hc; obtain rfl := Option.some.inj (d22.symm.trans hr); rw [hS49.cell ta21 (wm_no (by decide +kernel))]; exact hH _ _ d5 d22 c hc)) ?_
      rintro v64 cn' K' N' I59 R60 L61 ⟨rfl, rfl, rfl, rfl, rfl, rfl, h65, rp66, -⟩
      have hd67 := rp66 _ d22
      rw [show cnM (fun c => bt v56.toInt (I39 a21 c).toInt) (I39 a4 5).toInt.toNat = skD gX (-1) ((I0 a4 3).toInt.toNat + (I0 a9 2).toInt.toNat) (I0 a4 1).toInt gH (I0 a4 5).toInt.toNat ((x1.toInt.toNat : Nat) : Int) by rw [hS49.cell ta4 (by decide +kernel)]; exact skD.of hb58 (fun c hc => by rw [hS49.cell ta21 (wm_no (by decide +kernel))]; exact hH _ _ d5 d22 c (by exact om_a98848b8 hc))] at hd67
      refine q_callVi hE (M' := mX10_answered) (as := [_]) dX10_due_44 lk10_109 inX10_answered seX10_answered myX10_answered (by decide) ⟨by decide, by decide⟩ rfl (kR1 hS49.1 ta0) (Nat.le_of_ble_eq_true rfl) rfl rfl (by decide) (by decide) (fk_X10_answered hS49.1  ta0) ?_
      rintro v73 cn' K' N' I68 R69 L70 ⟨rfl, rfl, rfl, rfl, rfl, g71, p74, p75, -⟩
      have hS76 := hS49.tr g71 (by decide +kernel) (by decide +kernel)
      have c77 : I68 a0 9 = v50 := (g71.cell ta0 (by decide +kernel)).trans c51
      obtain ⟨v78, c79⟩ : ∃ v, I68 a0 17 = v := ⟨_, rfl⟩
      rw [c79] at p75
      exact tr_iret hZ dX10_due_47 rfl (by decide) (by decide) ⟨v73, rfl, rfl, rfl, rfl, rfl, rfl, hS76, (SkQ.st (SkQ.of rp47) hW0 ta0 g71 (by decide +kernel) (by decide +kernel)), (Or.inr (Or.inr (⟨(by (try rw [c2]); first | done | with_reducible assumption | exact om_fb6d96c1 b3.2 b3.1 h26 h33.2 h33.1 p36 p37 h38), (by first | done | with_reducible assumption | exact om_1ebe3f0a b8.2 b8.1 h33.2 h33.1 p36 p37 h38), (fun q0 z0 => by obtain rfl := Option.some.inj ((d5).symm.trans z0); (try rw [c7]); first | done | with_reducible assumption | exact om_4d1525ff b8.2 b8.1 h33.2 h33.1 p36 p37 h38), (fun al nw h2 h6 => by obtain rfl := Option.some.inj (d5.symm.trans h2); obtain rfl := Option.some.inj (d10.symm.trans h6); have e := hd67; rw [show ((x1.toInt.toNat : Nat) : Int) = x1.toInt by exact om_79f7519e b8.2 b8.1 h33.2 h33.1 p36 p37 h38] at e; exact om_1add49fd hd67 p74 e), trivial⟩))), trivial⟩
    · skip
      refine tr_aload_n dX10_due_21 rfl ?_
      refine q_iconst dX10_due_22 (by decide) ?_
      intro v80 h81
      refine q_callVi hE (M' := mX10_refused) (as := [_]) dX10_due_23 lk10_79 inX10_refused seX10_refused myX10_refused (by decide) ⟨by decide, by decide⟩ rfl (kR1 hS0.1 ta0) (Nat.le_of_ble_eq_true rfl) rfl rfl (by decide) (by decide) (fk_X10_refused hS0.1  ta0) ?_
      rintro v87 cn' K' N' I82 R83 L84 ⟨rfl, rfl, rfl, rfl, rfl, g85, p88, p89, -⟩
      have hS90 := hS0.tr g85 (by decide +kernel) (by decide +kernel)
      obtain ⟨v91, c92⟩ : ∃ v, I82 a0 17 = v := ⟨_, rfl⟩
      rw [c92] at p89
      exact tr_iret hZ dX10_due_26 rfl (by decide) (by decide) ⟨v87, rfl, rfl, rfl, rfl, rfl, rfl, hS90, (SkQ.st hK hW0 ta0 g85 (by decide +kernel) (by decide +kernel)), (by first | exact Or.inr (Or.inl ⟨(by (try rw [c2]); first | done | with_reducible assumption | exact om_01be630e b3.2 b3.1 h26 p36 p37 h38), (fun q0 z0 => by obtain rfl := Option.some.inj ((d5).symm.trans z0); (try rw [c7]); first | done | with_reducible assumption | exact om_1d2e7dd2 p37 h38), (by first | done | with_reducible assumption | omega), trivial⟩) | exact Or.inr (Or.inr (⟨(by (try rw [c2]); first | done | with_reducible assumption | omega), (by first | done | with_reducible assumption | omega), (fun q0 z0 => by obtain rfl := Option.some.inj ((d5).symm.trans z0); (try rw [c7]); first | done | with_reducible assumption | omega), (by exfalso; omega), trivial⟩))), trivial⟩
  · skip
    refine tr_aload_n dX10_due_7 rfl ?_
    refine q_iconst dX10_due_8 (by decide) ?_
    intro v93 h94
    refine q_callVi hE (M' := mX10_refused) (as := [_]) dX10_due_9 lk10_79 inX10_refused seX10_refused myX10_refused (by decide) ⟨by decide, by decide⟩ rfl (kR1 hS0.1 ta0) (Nat.le_of_ble_eq_true rfl) rfl rfl (by decide) (by decide) (fk_X10_refused hS0.1  ta0) ?_
    rintro v100 cn' K' N' I95 R96 L97 ⟨rfl, rfl, rfl, rfl, rfl, g98, p101, p102, -⟩
    have hS103 := hS0.tr g98 (by decide +kernel) (by decide +kernel)
    obtain ⟨v104, c105⟩ : ∃ v, I95 a0 17 = v := ⟨_, rfl⟩
    rw [c105] at p102
    exact tr_iret hZ dX10_due_12 rfl (by decide) (by decide) ⟨v100, rfl, rfl, rfl, rfl, rfl, rfl, hS103, (SkQ.st hK hW0 ta0 g98 (by decide +kernel) (by decide +kernel)), (Or.inl ⟨(by (try rw [c2]); first | done | with_reducible assumption | omega), (by first | done | with_reducible assumption | omega), trivial⟩), trivial⟩
def wik_X10_awake : List Nat := [73, 75, 81, 768, 769, 778, 834, 2303, 2367, 2431, 2495, 2559, 2623, 2687, 2751, 2815, 2879, 2943, 3007, 3071, 3135, 3199, 3263, 3327, 3391]
def wrk_X10_awake : List Nat := [832, 833]
set_option maxHeartbeats 4000000 in
theorem fk_X10_awake {l : Launch} {T : Nat → Nat} {cn : Nat} {K N : Nat → Nat} {I0 : cz_I} {R0 : cz_R} {L0 : cz_L} {d : Int} (hW0 : Wf T cn K N I0 R0 d) (gX : Nat → Nat → Int) {a0 : Nat} (ta0 : T a0 = 1) {x1 : Int32} {x2 : Int32} (hX : EvQ I0 R0 a0 gX) (hK : SkQ I0 R0 a0 gX) (hD : DjS R0 a0) : ConE l mX10_awake [.ref a0, .int x1, .int x2] cn K N I0 R0 L0 (ca_i (fun v cn' K' N' I' R' L' => cn = cn' ∧ K = K' ∧ N = N' ∧ L0 = L' ∧ St T cn K N d wik_X10_awake wrk_X10_awake I0 R0 I' R' ∧ (SkQ I' R0 a0 gX) ∧ True)) := by
  refine ConE.of (by decide +kernel) rfl (Nat.le_of_ble_eq_true rfl) rfl (fun X hX hZ hE => ?_)
  subst hX
  have hS0 : St T cn K N d wik_X10_awake wrk_X10_awake I0 R0 I0 R0 := St.rf0 hW0
  obtain ⟨a1, d2, ta1⟩ := rf1_2 hW0 ta0
  obtain ⟨a3, d4, ta3⟩ := rf1_6 hW0 ta0
  obtain ⟨a5, d6, ta5⟩ := rf1_8 hW0 ta0
  obtain ⟨a7, d8, ta7⟩ := rf1_13 hW0 ta0
  refine tr_aload_n dX10_awake_0 rfl ?_
  refine tr_iload_n dX10_awake_1 rfl ?_
  refine q_callVi hE (M' := mX10_isTurner) (as := [_]) dX10_awake_2 lk10_152 inX10_isTurner seX10_isTurner myX10_isTurner (by decide) ⟨by decide, by decide⟩ rfl (kR1 hS0.1 ta0) (Nat.le_of_ble_eq_true rfl) rfl rfl (by decide) (by decide) (k_X10_isTurner hS0.1 ta0) ?_
  rintro v13 cn' K' N' I9 R10 L11 ⟨rfl, rfl, rfl, rfl, rfl, rfl, h14, p15, -⟩
  refine q_if_ne 14 dX10_awake_5 (by decide) (fun h16 => ?_) (fun h16 => ?_)
  · skip
    refine tr_aload_n dX10_awake_14 rfl ?_
    refine tr_iload_n dX10_awake_15 rfl ?_
    obtain ⟨v17, c18⟩ : ∃ v, I0 a1 0 = v := ⟨_, rfl⟩
    have b19 := iv2_0 hW0 ta1 c18
    refine q_callVi hE (M' := mX10_isMinute) (as := [_]) dX10_awake_16 lk10_115 inX10_isMinute seX10_isMinute myX10_isMinute (by decide) ⟨by decide, by decide⟩ rfl (kR1 hS0.1 ta0) (Nat.le_of_ble_eq_true rfl) rfl rfl (by decide) (by decide) (fk_X10_isMinute hS0.1  ta0) ?_
    rintro v25 cn' K' N' I20 R21 L22 ⟨rfl, rfl, rfl, rfl, rfl, rfl, h26, p27, p28, -⟩
    have p29 := p27 _ d2
    clear p27
    rw [c18] at p29
    have p30 := p28 _ d2
    clear p28
    rw [c18] at p30
    refine q_if_ne 28 dX10_awake_19 (by decide) (fun h31 => ?_) (fun h31 => ?_)
    · skip
      refine tr_aload_n dX10_awake_28 rfl ?_
      refine tr_aload_n dX10_awake_29 rfl ?_
      refine q_callVr hE (M' := mX10_presentNight) (as := []) dX10_awake_30 lk10_155 inX10_presentNight seX10_presentNight myX10_presentNight (by decide) ⟨by decide, by decide⟩ rfl (kR1 hS0.1 ta0) (Nat.le_of_ble_eq_true rfl) rfl rfl (by decide) (by decide) (fk_X10_presentNight hS0.1 (gX) ta0 hX hK hD) ?_
      rintro a37 cn' K' N' I32 R33 L34 ⟨rfl, rfl, rfl, rfl, g35, ta37, rp38, -⟩
      have hS39 := hS0.tr g35 (by decide +kernel) (by decide +kernel)
      refine tr_iload_n dX10_awake_33 rfl ?_
      refine tr_iload_n dX10_awake_34 rfl ?_
      refine q_callVi hE (M' := mX5_isAwake) (as := [_, _]) dX10_awake_35 lk10_159 inX5_isAwake seX5_isAwake myX5_isAwake (by decide) ⟨by decide, by decide⟩ rfl (kR13 hS39.1 ta37) (Nat.le_of_ble_eq_true rfl) rfl rfl (by decide) (by decide) (k_X5_isAwake hS39.1 ta37 (by exact om_b17dba10 h14.2 h14.1 p15 h16 h26.2 h26.1 p29 p30 h31) (by exact om_9c52401f b19.2 b19.1 h26.2 h26.1 p29 p30 h31)) ?_
      rintro v44 cn' K' N' I40 R41 L42 ⟨rfl, rfl, rfl, rfl, rfl, rfl, h45, -⟩
      refine q_if_eq 45 dX10_awake_38 (by decide) (fun h46 => ?_) (fun h46 => ?_)
      · skip
        refine q_iconst dX10_awake_45 (by decide) ?_
        intro v47 h48
        refine q_callVi hE (M' := mX10_answered) (as := [_]) dX10_awake_46 lk10_109 inX10_answered seX10_answered myX10_answered (by decide) ⟨by decide, by decide⟩ rfl (kR1 hS39.1 ta0) (Nat.le_of_ble_eq_true rfl) rfl rfl (by decide) (by decide) (fk_X10_answered hS39.1  ta0) ?_
        rintro v54 cn' K' N' I49 R50 L51 ⟨rfl, rfl, rfl, rfl, rfl, g52, p55, p56, -⟩
        have hS57 := hS39.tr g52 (by decide +kernel) (by decide +kernel)
        obtain ⟨v58, c59⟩ : ∃ v, I49 a0 17 = v := ⟨_, rfl⟩
        rw [c59] at p56
        exact tr_iret hZ dX10_awake_49 rfl (by decide) (by decide) ⟨v54, rfl, rfl, rfl, rfl, rfl, hS57, (SkQ.st rp38 hW0 ta0 g52 (by decide +kernel) (by decide +kernel)), trivial⟩
      · skip
        refine q_iconst dX10_awake_41 (by decide) ?_
        intro v60 h61
        refine tr_goto 46 dX10_awake_42 (by decide) ?_
        refine q_callVi hE (M' := mX10_answered) (as := [_]) dX10_awake_46 lk10_109 inX10_answered seX10_answered myX10_answered (by decide) ⟨by decide, by decide⟩ rfl (kR1 hS39.1 ta0) (Nat.le_of_ble_eq_true rfl) rfl rfl (by decide) (by decide) (fk_X10_answered hS39.1  ta0) ?_
        rintro v67 cn' K' N' I62 R63 L64 ⟨rfl, rfl, rfl, rfl, rfl, g65, p68, p69, -⟩
        have hS70 := hS39.tr g65 (by decide +kernel) (by decide +kernel)
        obtain ⟨v71, c72⟩ : ∃ v, I62 a0 17 = v := ⟨_, rfl⟩
        rw [c72] at p69
        exact tr_iret hZ dX10_awake_49 rfl (by decide) (by decide) ⟨v67, rfl, rfl, rfl, rfl, rfl, hS70, (SkQ.st rp38 hW0 ta0 g65 (by decide +kernel) (by decide +kernel)), trivial⟩
    · skip
      refine tr_aload_n dX10_awake_22 rfl ?_
      refine q_iconst dX10_awake_23 (by decide) ?_
      intro v73 h74
      refine q_callVi hE (M' := mX10_refused) (as := [_]) dX10_awake_24 lk10_79 inX10_refused seX10_refused myX10_refused (by decide) ⟨by decide, by decide⟩ rfl (kR1 hS0.1 ta0) (Nat.le_of_ble_eq_true rfl) rfl rfl (by decide) (by decide) (fk_X10_refused hS0.1  ta0) ?_
      rintro v80 cn' K' N' I75 R76 L77 ⟨rfl, rfl, rfl, rfl, rfl, g78, p81, p82, -⟩
      have hS83 := hS0.tr g78 (by decide +kernel) (by decide +kernel)
      obtain ⟨v84, c85⟩ : ∃ v, I75 a0 17 = v := ⟨_, rfl⟩
      rw [c85] at p82
      exact tr_iret hZ dX10_awake_27 rfl (by decide) (by decide) ⟨v80, rfl, rfl, rfl, rfl, rfl, hS83, (SkQ.st hK hW0 ta0 g78 (by decide +kernel) (by decide +kernel)), trivial⟩
  · skip
    refine tr_aload_n dX10_awake_8 rfl ?_
    refine q_iconst dX10_awake_9 (by decide) ?_
    intro v86 h87
    refine q_callVi hE (M' := mX10_refused) (as := [_]) dX10_awake_10 lk10_79 inX10_refused seX10_refused myX10_refused (by decide) ⟨by decide, by decide⟩ rfl (kR1 hS0.1 ta0) (Nat.le_of_ble_eq_true rfl) rfl rfl (by decide) (by decide) (fk_X10_refused hS0.1  ta0) ?_
    rintro v93 cn' K' N' I88 R89 L90 ⟨rfl, rfl, rfl, rfl, rfl, g91, p94, p95, -⟩
    have hS96 := hS0.tr g91 (by decide +kernel) (by decide +kernel)
    obtain ⟨v97, c98⟩ : ∃ v, I88 a0 17 = v := ⟨_, rfl⟩
    rw [c98] at p95
    exact tr_iret hZ dX10_awake_13 rfl (by decide) (by decide) ⟨v93, rfl, rfl, rfl, rfl, rfl, hS96, (SkQ.st hK hW0 ta0 g91 (by decide +kernel) (by decide +kernel)), trivial⟩
def wik_X10_notices : List Nat := [73, 75, 81, 768, 769, 778, 834, 2303, 2367, 2431, 2495, 2559, 2623, 2687, 2751, 2815, 2879, 2943, 3007, 3071, 3135, 3199, 3263, 3327, 3391]
def wrk_X10_notices : List Nat := [832, 833]
set_option maxHeartbeats 4000000 in
theorem fk_X10_notices {l : Launch} {T : Nat → Nat} {cn : Nat} {K N : Nat → Nat} {I0 : cz_I} {R0 : cz_R} {L0 : cz_L} {d : Int} (hW0 : Wf T cn K N I0 R0 d) (gX : Nat → Nat → Int) {a0 : Nat} (ta0 : T a0 = 1) {x1 : Int32} {x2 : Int32} {x3 : Int32} (hX : EvQ I0 R0 a0 gX) (hK : SkQ I0 R0 a0 gX) (hD : DjS R0 a0) : ConE l mX10_notices [.ref a0, .int x1, .int x2, .int x3] cn K N I0 R0 L0 (ca_i (fun v cn' K' N' I' R' L' => cn = cn' ∧ K = K' ∧ N = N' ∧ L0 = L' ∧ St T cn K N d wik_X10_notices wrk_X10_notices I0 R0 I' R' ∧ (SkQ I' R0 a0 gX) ∧ True)) := by
  refine ConE.of (by decide +kernel) rfl (Nat.le_of_ble_eq_true rfl) rfl (fun X hX hZ hE => ?_)
  subst hX
  have hS0 : St T cn K N d wik_X10_notices wrk_X10_notices I0 R0 I0 R0 := St.rf0 hW0
  obtain ⟨a1, d2, ta1⟩ := rf1_2 hW0 ta0
  obtain ⟨a3, d4, ta3⟩ := rf1_6 hW0 ta0
  obtain ⟨a5, d6, ta5⟩ := rf1_8 hW0 ta0
  obtain ⟨a7, d8, ta7⟩ := rf1_13 hW0 ta0
  refine tr_aload_n dX10_notices_0 rfl ?_
  refine tr_iload_n dX10_notices_1 rfl ?_
  refine q_callVi hE (M' := mX10_isTurner) (as := [_]) dX10_notices_2 lk10_152 inX10_isTurner seX10_isTurner myX10_isTurner (by decide) ⟨by decide, by decide⟩ rfl (kR1 hS0.1 ta0) (Nat.le_of_ble_eq_true rfl) rfl rfl (by decide) (by decide) (k_X10_isTurner hS0.1 ta0) ?_
  rintro v13 cn' K' N' I9 R10 L11 ⟨rfl, rfl, rfl, rfl, rfl, rfl, h14, p15, -⟩
  refine q_if_eq 16 dX10_notices_5 (by decide) (fun h16 => ?_) (fun h16 => ?_)
  · skip
    refine tr_aload_n dX10_notices_16 rfl ?_
    refine q_iconst dX10_notices_17 (by decide) ?_
    intro v17 h18
    refine q_callVi hE (M' := mX10_refused) (as := [_]) dX10_notices_18 lk10_79 inX10_refused seX10_refused myX10_refused (by decide) ⟨by decide, by decide⟩ rfl (kR1 hS0.1 ta0) (Nat.le_of_ble_eq_true rfl) rfl rfl (by decide) (by decide) (fk_X10_refused hS0.1  ta0) ?_
    rintro v24 cn' K' N' I19 R20 L21 ⟨rfl, rfl, rfl, rfl, rfl, g22, p25, p26, -⟩
    have hS27 := hS0.tr g22 (by decide +kernel) (by decide +kernel)
    obtain ⟨v28, c29⟩ : ∃ v, I19 a0 17 = v := ⟨_, rfl⟩
    rw [c29] at p26
    exact tr_iret hZ dX10_notices_21 rfl (by decide) (by decide) ⟨v24, rfl, rfl, rfl, rfl, rfl, hS27, (SkQ.st hK hW0 ta0 g22 (by decide +kernel) (by decide +kernel)), trivial⟩
  · skip
    refine tr_aload_n dX10_notices_8 rfl ?_
    refine tr_iload_n dX10_notices_9 rfl ?_
    obtain ⟨v30, c31⟩ : ∃ v, I0 a1 1 = v := ⟨_, rfl⟩
    have b32 := iv2_1 hW0 ta1 c31
    refine q_callVi hE (M' := mX10_isHut) (as := [_]) dX10_notices_10 lk10_126 inX10_isHut seX10_isHut myX10_isHut (by decide) ⟨by decide, by decide⟩ rfl (kR1 hS0.1 ta0) (Nat.le_of_ble_eq_true rfl) rfl rfl (by decide) (by decide) (fk_X10_isHut hS0.1  ta0) ?_
    rintro v38 cn' K' N' I33 R34 L35 ⟨rfl, rfl, rfl, rfl, rfl, rfl, h39, p40, p41, -⟩
    have p42 := p40 _ d2
    clear p40
    rw [c31] at p42
    have p43 := p41 _ d2
    clear p41
    rw [c31] at p43
    refine q_if_ne 22 dX10_notices_13 (by decide) (fun h44 => ?_) (fun h44 => ?_)
    · skip
      refine tr_aload_n dX10_notices_22 rfl ?_
      refine tr_iload_n dX10_notices_23 rfl ?_
      obtain ⟨v45, c46⟩ : ∃ v, I0 a1 0 = v := ⟨_, rfl⟩
      have b47 := iv2_0 hW0 ta1 c46
      refine q_callVi hE (M' := mX10_isMinute) (as := [_]) dX10_notices_24 lk10_115 inX10_isMinute seX10_isMinute myX10_isMinute (by decide) ⟨by decide, by decide⟩ rfl (kR1 hS0.1 ta0) (Nat.le_of_ble_eq_true rfl) rfl rfl (by decide) (by decide) (fk_X10_isMinute hS0.1  ta0) ?_
      rintro v53 cn' K' N' I48 R49 L50 ⟨rfl, rfl, rfl, rfl, rfl, rfl, h54, p55, p56, -⟩
      have p57 := p55 _ d2
      clear p55
      rw [c46] at p57
      have p58 := p56 _ d2
      clear p56
      rw [c46] at p58
      refine q_if_ne 36 dX10_notices_27 (by decide) (fun h59 => ?_) (fun h59 => ?_)
      · skip
        refine tr_aload_n dX10_notices_36 rfl ?_
        refine tr_aload_n dX10_notices_37 rfl ?_
        refine q_callVr hE (M' := mX10_presentNight) (as := []) dX10_notices_38 lk10_155 inX10_presentNight seX10_presentNight myX10_presentNight (by decide) ⟨by decide, by decide⟩ rfl (kR1 hS0.1 ta0) (Nat.le_of_ble_eq_true rfl) rfl rfl (by decide) (by decide) (fk_X10_presentNight hS0.1 (gX) ta0 hX hK hD) ?_
        rintro a65 cn' K' N' I60 R61 L62 ⟨rfl, rfl, rfl, rfl, g63, ta65, rp66, -⟩
        have hS67 := hS0.tr g63 (by decide +kernel) (by decide +kernel)
        refine tr_iload_n dX10_notices_41 rfl ?_
        refine tr_iload_n dX10_notices_42 rfl ?_
        refine q_callVi hE (M' := mX5_noticedHuts) (as := [_, _]) dX10_notices_43 lk10_163 inX5_noticedHuts seX5_noticedHuts myX5_noticedHuts (by decide) ⟨by decide, by decide⟩ rfl (kR13 hS67.1 ta65) (Nat.le_of_ble_eq_true rfl) rfl rfl (by decide) (by decide) (k_X5_noticedHuts hS67.1 ta65 (by exact om_08c851df h14.2 h14.1 p15 h16 h39.2 h39.1 p42 p43 h44 h54.2 h54.1 p57 p58 h59) (by exact om_9c52401f b47.2 b47.1 h54.2 h54.1 p57 p58 h59)) ?_
        rintro v72 cn' K' N' I68 R69 L70 ⟨rfl, rfl, rfl, rfl, rfl, rfl, -⟩
        refine tr_iload_n dX10_notices_46 rfl ?_
        refine q_callSi hE (M' := mX10_bit) (as := [_, _]) dX10_notices_47 lk10_136 inX10_bit myX10_bit ⟨by decide, by decide⟩ rfl (Nat.le_of_ble_eq_true rfl) rfl rfl (by decide) (by decide) (k_X10_bit hS67.1 ) ?_
        rintro v77 cn' K' N' I73 R74 L75 ⟨rfl, rfl, rfl, rfl, rfl, rfl, -⟩
        refine q_callVi hE (M' := mX10_answered) (as := [_]) dX10_notices_50 lk10_109 inX10_answered seX10_answered myX10_answered (by decide) ⟨by decide, by decide⟩ rfl (kR1 hS67.1 ta0) (Nat.le_of_ble_eq_true rfl) rfl rfl (by decide) (by decide) (fk_X10_answered hS67.1  ta0) ?_
        rintro v83 cn' K' N' I78 R79 L80 ⟨rfl, rfl, rfl, rfl, rfl, g81, p84, p85, -⟩
        have hS86 := hS67.tr g81 (by decide +kernel) (by decide +kernel)
        obtain ⟨v87, c88⟩ : ∃ v, I78 a0 17 = v := ⟨_, rfl⟩
        rw [c88] at p85
        exact tr_iret hZ dX10_notices_53 rfl (by decide) (by decide) ⟨v83, rfl, rfl, rfl, rfl, rfl, hS86, (SkQ.st rp66 hW0 ta0 g81 (by decide +kernel) (by decide +kernel)), trivial⟩
      · skip
        refine tr_aload_n dX10_notices_30 rfl ?_
        refine q_iconst dX10_notices_31 (by decide) ?_
        intro v89 h90
        refine q_callVi hE (M' := mX10_refused) (as := [_]) dX10_notices_32 lk10_79 inX10_refused seX10_refused myX10_refused (by decide) ⟨by decide, by decide⟩ rfl (kR1 hS0.1 ta0) (Nat.le_of_ble_eq_true rfl) rfl rfl (by decide) (by decide) (fk_X10_refused hS0.1  ta0) ?_
        rintro v96 cn' K' N' I91 R92 L93 ⟨rfl, rfl, rfl, rfl, rfl, g94, p97, p98, -⟩
        have hS99 := hS0.tr g94 (by decide +kernel) (by decide +kernel)
        obtain ⟨v100, c101⟩ : ∃ v, I91 a0 17 = v := ⟨_, rfl⟩
        rw [c101] at p98
        exact tr_iret hZ dX10_notices_35 rfl (by decide) (by decide) ⟨v96, rfl, rfl, rfl, rfl, rfl, hS99, (SkQ.st hK hW0 ta0 g94 (by decide +kernel) (by decide +kernel)), trivial⟩
    · skip
      refine tr_aload_n dX10_notices_16 rfl ?_
      refine q_iconst dX10_notices_17 (by decide) ?_
      intro v102 h103
      refine q_callVi hE (M' := mX10_refused) (as := [_]) dX10_notices_18 lk10_79 inX10_refused seX10_refused myX10_refused (by decide) ⟨by decide, by decide⟩ rfl (kR1 hS0.1 ta0) (Nat.le_of_ble_eq_true rfl) rfl rfl (by decide) (by decide) (fk_X10_refused hS0.1  ta0) ?_
      rintro v109 cn' K' N' I104 R105 L106 ⟨rfl, rfl, rfl, rfl, rfl, g107, p110, p111, -⟩
      have hS112 := hS0.tr g107 (by decide +kernel) (by decide +kernel)
      obtain ⟨v113, c114⟩ : ∃ v, I104 a0 17 = v := ⟨_, rfl⟩
      rw [c114] at p111
      exact tr_iret hZ dX10_notices_21 rfl (by decide) (by decide) ⟨v109, rfl, rfl, rfl, rfl, rfl, hS112, (SkQ.st hK hW0 ta0 g107 (by decide +kernel) (by decide +kernel)), trivial⟩
def wik_X10_work : List Nat := [73, 75, 81, 768, 769, 778, 834, 2303, 2367, 2431, 2495, 2559, 2623, 2687, 2751, 2815, 2879, 2943, 3007, 3071, 3135, 3199, 3263, 3327, 3391]
def wrk_X10_work : List Nat := [832, 833]
set_option maxHeartbeats 4000000 in
theorem fk_X10_work {l : Launch} {T : Nat → Nat} {cn : Nat} {K N : Nat → Nat} {I0 : cz_I} {R0 : cz_R} {L0 : cz_L} {d : Int} (hW0 : Wf T cn K N I0 R0 d) (gX : Nat → Nat → Int) {a0 : Nat} (ta0 : T a0 = 1) {x1 : Int32} {x2 : Int32} (hX : EvQ I0 R0 a0 gX) (hK : SkQ I0 R0 a0 gX) (hD : DjS R0 a0) : ConE l mX10_work [.ref a0, .int x1, .int x2] cn K N I0 R0 L0 (ca_i (fun v cn' K' N' I' R' L' => cn = cn' ∧ K = K' ∧ N = N' ∧ L0 = L' ∧ St T cn K N d wik_X10_work wrk_X10_work I0 R0 I' R' ∧ (SkQ I' R0 a0 gX) ∧ True)) := by
  refine ConE.of (by decide +kernel) rfl (Nat.le_of_ble_eq_true rfl) rfl (fun X hX hZ hE => ?_)
  subst hX
  have hS0 : St T cn K N d wik_X10_work wrk_X10_work I0 R0 I0 R0 := St.rf0 hW0
  obtain ⟨a1, d2, ta1⟩ := rf1_2 hW0 ta0
  obtain ⟨a3, d4, ta3⟩ := rf1_6 hW0 ta0
  obtain ⟨a5, d6, ta5⟩ := rf1_8 hW0 ta0
  obtain ⟨a7, d8, ta7⟩ := rf1_13 hW0 ta0
  refine tr_aload_n dX10_work_0 rfl ?_
  refine tr_iload_n dX10_work_1 rfl ?_
  refine q_callVi hE (M' := mX10_isTurner) (as := [_]) dX10_work_2 lk10_152 inX10_isTurner seX10_isTurner myX10_isTurner (by decide) ⟨by decide, by decide⟩ rfl (kR1 hS0.1 ta0) (Nat.le_of_ble_eq_true rfl) rfl rfl (by decide) (by decide) (k_X10_isTurner hS0.1 ta0) ?_
  rintro v13 cn' K' N' I9 R10 L11 ⟨rfl, rfl, rfl, rfl, rfl, rfl, h14, p15, -⟩
  refine q_if_ne 14 dX10_work_5 (by decide) (fun h16 => ?_) (fun h16 => ?_)
  · skip
    refine tr_aload_n dX10_work_14 rfl ?_
    refine q_callVr hE (M' := mX10_presentNight) (as := []) dX10_work_15 lk10_155 inX10_presentNight seX10_presentNight myX10_presentNight (by decide) ⟨by decide, by decide⟩ rfl (kR1 hS0.1 ta0) (Nat.le_of_ble_eq_true rfl) rfl rfl (by decide) (by decide) (fk_X10_presentNight hS0.1 (gX) ta0 hX hK hD) ?_
    rintro a22 cn' K' N' I17 R18 L19 ⟨rfl, rfl, rfl, rfl, g20, ta22, rp23, -⟩
    have hS24 := hS0.tr g20 (by decide +kernel) (by decide +kernel)
    refine tr_astore_n dX10_work_18 (by decide) (by decide) ?_
    refine tr_iload_n dX10_work_19 rfl ?_
    by_cases h25 : x2.toInt = 0
    · skip
      refine tr_tabIn (off := 32) 52 dX10_work_20 (by exact om_7c055b42 h25) (by exact om_0e9741b2 h25) (by rw [h25]; decide +kernel) (by decide) ?_
      refine tr_aload_n dX10_work_52 rfl ?_
      refine tr_aload_n dX10_work_53 rfl ?_
      obtain ⟨a26, d27, ta26⟩ := rf13_8 hW0 ta22
      refine tr_getR dX10_work_54 fl10_166 (kR13 hS24.1 ta22) ((hS24.rcell ta22 (by decide +kernel)).trans d27) ?_
      refine tr_iload_n dX10_work_57 rfl ?_
      refine q_iald dX10_work_58 (kR49 hS24.1 ta26) (ti_in (nR49 hS24.1 ta26) (by exact om_e7ce3285 h14.2 h14.1 p15 h16) (by exact om_e684a824 h14.2 h14.1 p15 h16)) ?_
      intro v28 c29
      refine q_callVi hE (M' := mX10_answered) (as := [_]) dX10_work_59 lk10_109 inX10_answered seX10_answered myX10_answered (by decide) ⟨by decide, by decide⟩ rfl (kR1 hS24.1 ta0) (Nat.le_of_ble_eq_true rfl) rfl rfl (by decide) (by decide) (fk_X10_answered hS24.1  ta0) ?_
      rintro v35 cn' K' N' I30 R31 L32 ⟨rfl, rfl, rfl, rfl, rfl, g33, p36, p37, -⟩
      have hS38 := hS24.tr g33 (by decide +kernel) (by decide +kernel)
      obtain ⟨v39, c40⟩ : ∃ v, I30 a0 17 = v := ⟨_, rfl⟩
      rw [c40] at p37
      exact tr_iret hZ dX10_work_62 rfl (by decide) (by decide) ⟨v35, rfl, rfl, rfl, rfl, rfl, hS38, (SkQ.st rp23 hW0 ta0 g33 (by decide +kernel) (by decide +kernel)), trivial⟩
    · skip
      by_cases h41 : x2.toInt = 1
      · skip
        refine tr_tabIn (off := 43) 63 dX10_work_20 (by exact om_6183b2fb h41) (by exact om_abf3c1b2 h41) (by rw [h41]; decide +kernel) (by decide) ?_
        refine tr_aload_n dX10_work_63 rfl ?_
        refine tr_aload_n dX10_work_64 rfl ?_
        obtain ⟨a42, d43, ta42⟩ := rf13_9 hW0 ta22
        refine tr_getR dX10_work_65 fl10_169 (kR13 hS24.1 ta22) ((hS24.rcell ta22 (by decide +kernel)).trans d43) ?_
        refine tr_iload_n dX10_work_68 rfl ?_
        refine q_iald dX10_work_69 (kR50 hS24.1 ta42) (ti_in (nR50 hS24.1 ta42) (by exact om_d464933a h14.2 h14.1 p15 h16 h25 h41) (by exact om_265819a9 h14.2 h14.1 p15 h16 h25 h41)) ?_
        intro v44 c45
        refine q_callVi hE (M' := mX10_answered) (as := [_]) dX10_work_70 lk10_109 inX10_answered seX10_answered myX10_answered (by decide) ⟨by decide, by decide⟩ rfl (kR1 hS24.1 ta0) (Nat.le_of_ble_eq_true rfl) rfl rfl (by decide) (by decide) (fk_X10_answered hS24.1  ta0) ?_
        rintro v51 cn' K' N' I46 R47 L48 ⟨rfl, rfl, rfl, rfl, rfl, g49, p52, p53, -⟩
        have hS54 := hS24.tr g49 (by decide +kernel) (by decide +kernel)
        obtain ⟨v55, c56⟩ : ∃ v, I46 a0 17 = v := ⟨_, rfl⟩
        rw [c56] at p53
        exact tr_iret hZ dX10_work_73 rfl (by decide) (by decide) ⟨v51, rfl, rfl, rfl, rfl, rfl, hS54, (SkQ.st rp23 hW0 ta0 g49 (by decide +kernel) (by decide +kernel)), trivial⟩
      · skip
        by_cases h57 : x2.toInt = 2
        · skip
          refine tr_tabIn (off := 54) 74 dX10_work_20 (by exact om_1174f472 h57) (by exact om_1555d2b1 h57) (by rw [h57]; decide +kernel) (by decide) ?_
          refine tr_aload_n dX10_work_74 rfl ?_
          refine tr_aload_n dX10_work_75 rfl ?_
          obtain ⟨a58, d59, ta58⟩ := rf13_10 hW0 ta22
          refine tr_getR dX10_work_76 fl10_172 (kR13 hS24.1 ta22) ((hS24.rcell ta22 (by decide +kernel)).trans d59) ?_
          refine tr_iload_n dX10_work_79 rfl ?_
          refine q_iald dX10_work_80 (kR51 hS24.1 ta58) (ti_in (nR51 hS24.1 ta58) (by exact om_781b487d h14.2 h14.1 p15 h16 h25 h41 h57) (by exact om_f41f51c8 h14.2 h14.1 p15 h16 h25 h41 h57)) ?_
          intro v60 c61
          refine q_callVi hE (M' := mX10_answered) (as := [_]) dX10_work_81 lk10_109 inX10_answered seX10_answered myX10_answered (by decide) ⟨by decide, by decide⟩ rfl (kR1 hS24.1 ta0) (Nat.le_of_ble_eq_true rfl) rfl rfl (by decide) (by decide) (fk_X10_answered hS24.1  ta0) ?_
          rintro v67 cn' K' N' I62 R63 L64 ⟨rfl, rfl, rfl, rfl, rfl, g65, p68, p69, -⟩
          have hS70 := hS24.tr g65 (by decide +kernel) (by decide +kernel)
          obtain ⟨v71, c72⟩ : ∃ v, I62 a0 17 = v := ⟨_, rfl⟩
          rw [c72] at p69
          exact tr_iret hZ dX10_work_84 rfl (by decide) (by decide) ⟨v67, rfl, rfl, rfl, rfl, rfl, hS70, (SkQ.st rp23 hW0 ta0 g65 (by decide +kernel) (by decide +kernel)), trivial⟩
        · skip
          by_cases h73 : x2.toInt = 3
          · skip
            refine tr_tabIn (off := 65) 85 dX10_work_20 (by exact om_d4b200a6 h73) (by exact om_52bff43b h73) (by rw [h73]; decide +kernel) (by decide) ?_
            refine tr_aload_n dX10_work_85 rfl ?_
            refine tr_aload_n dX10_work_86 rfl ?_
            refine tr_iload_n dX10_work_87 rfl ?_
            refine q_callVi hE (M' := mX5_minutesAwake) (as := [_]) dX10_work_88 lk10_175 inX5_minutesAwake seX5_minutesAwake myX5_minutesAwake (by decide) ⟨by decide, by decide⟩ rfl (kR13 hS24.1 ta22) (Nat.le_of_ble_eq_true rfl) rfl rfl (by decide) (by decide) (k_X5_minutesAwake hS24.1 ta22 (by exact om_8e5d901b h14.2 h14.1 p15 h16 h25 h41 h57 h73)) ?_
            rintro v78 cn' K' N' I74 R75 L76 ⟨rfl, rfl, rfl, rfl, rfl, rfl, -⟩
            refine q_callVi hE (M' := mX10_answered) (as := [_]) dX10_work_91 lk10_109 inX10_answered seX10_answered myX10_answered (by decide) ⟨by decide, by decide⟩ rfl (kR1 hS24.1 ta0) (Nat.le_of_ble_eq_true rfl) rfl rfl (by decide) (by decide) (fk_X10_answered hS24.1  ta0) ?_
            rintro v84 cn' K' N' I79 R80 L81 ⟨rfl, rfl, rfl, rfl, rfl, g82, p85, p86, -⟩
            have hS87 := hS24.tr g82 (by decide +kernel) (by decide +kernel)
            obtain ⟨v88, c89⟩ : ∃ v, I79 a0 17 = v := ⟨_, rfl⟩
            rw [c89] at p86
            exact tr_iret hZ dX10_work_94 rfl (by decide) (by decide) ⟨v84, rfl, rfl, rfl, rfl, rfl, hS87, (SkQ.st rp23 hW0 ta0 g82 (by decide +kernel) (by decide +kernel)), trivial⟩
          · skip
            refine tr_tabOut 95 dX10_work_20 (by exact om_4f2b3e28 h25 h41 h57 h73) (by decide) ?_
            refine tr_aload_n dX10_work_95 rfl ?_
            refine q_iconst dX10_work_96 (by decide) ?_
            intro v90 h91
            refine q_callVi hE (M' := mX10_refused) (as := [_]) dX10_work_97 lk10_79 inX10_refused seX10_refused myX10_refused (by decide) ⟨by decide, by decide⟩ rfl (kR1 hS24.1 ta0) (Nat.le_of_ble_eq_true rfl) rfl rfl (by decide) (by decide) (fk_X10_refused hS24.1  ta0) ?_
            rintro v97 cn' K' N' I92 R93 L94 ⟨rfl, rfl, rfl, rfl, rfl, g95, p98, p99, -⟩
            have hS100 := hS24.tr g95 (by decide +kernel) (by decide +kernel)
            obtain ⟨v101, c102⟩ : ∃ v, I92 a0 17 = v := ⟨_, rfl⟩
            rw [c102] at p99
            exact tr_iret hZ dX10_work_100 rfl (by decide) (by decide) ⟨v97, rfl, rfl, rfl, rfl, rfl, hS100, (SkQ.st rp23 hW0 ta0 g95 (by decide +kernel) (by decide +kernel)), trivial⟩
  · skip
    refine tr_aload_n dX10_work_8 rfl ?_
    refine q_iconst dX10_work_9 (by decide) ?_
    intro v103 h104
    refine q_callVi hE (M' := mX10_refused) (as := [_]) dX10_work_10 lk10_79 inX10_refused seX10_refused myX10_refused (by decide) ⟨by decide, by decide⟩ rfl (kR1 hS0.1 ta0) (Nat.le_of_ble_eq_true rfl) rfl rfl (by decide) (by decide) (fk_X10_refused hS0.1  ta0) ?_
    rintro v110 cn' K' N' I105 R106 L107 ⟨rfl, rfl, rfl, rfl, rfl, g108, p111, p112, -⟩
    have hS113 := hS0.tr g108 (by decide +kernel) (by decide +kernel)
    obtain ⟨v114, c115⟩ : ∃ v, I105 a0 17 = v := ⟨_, rfl⟩
    rw [c115] at p112
    exact tr_iret hZ dX10_work_13 rfl (by decide) (by decide) ⟨v110, rfl, rfl, rfl, rfl, rfl, hS113, (SkQ.st hK hW0 ta0 g108 (by decide +kernel) (by decide +kernel)), trivial⟩
def wik_X10_worth : List Nat := [73, 75, 81, 768, 769, 778, 834, 2303, 2367, 2431, 2495, 2559, 2623, 2687, 2751, 2815, 2879, 2943, 3007, 3071, 3135, 3199, 3263, 3327, 3391]
def wrk_X10_worth : List Nat := [832, 833]
set_option maxHeartbeats 4000000 in
theorem fk_X10_worth {l : Launch} {T : Nat → Nat} {cn : Nat} {K N : Nat → Nat} {I0 : cz_I} {R0 : cz_R} {L0 : cz_L} {d : Int} (hW0 : Wf T cn K N I0 R0 d) (gX : Nat → Nat → Int) {a0 : Nat} (ta0 : T a0 = 1) {x1 : Int32} (hX : EvQ I0 R0 a0 gX) (hK : SkQ I0 R0 a0 gX) (hD : DjS R0 a0) : ConE l mX10_worth [.ref a0, .int x1] cn K N I0 R0 L0 (ca_i (fun v cn' K' N' I' R' L' => cn = cn' ∧ K = K' ∧ N = N' ∧ L0 = L' ∧ St T cn K N d wik_X10_worth wrk_X10_worth I0 R0 I' R' ∧ (SkQ I' R0 a0 gX) ∧ True)) := by
  refine ConE.of (by decide +kernel) rfl (Nat.le_of_ble_eq_true rfl) rfl (fun X hX hZ hE => ?_)
  subst hX
  have hS0 : St T cn K N d wik_X10_worth wrk_X10_worth I0 R0 I0 R0 := St.rf0 hW0
  obtain ⟨a1, d2, ta1⟩ := rf1_2 hW0 ta0
  obtain ⟨a3, d4, ta3⟩ := rf1_6 hW0 ta0
  obtain ⟨a5, d6, ta5⟩ := rf1_8 hW0 ta0
  obtain ⟨a7, d8, ta7⟩ := rf1_13 hW0 ta0
  refine tr_aload_n dX10_worth_0 rfl ?_
  refine tr_iload_n dX10_worth_1 rfl ?_
  refine q_callVi hE (M' := mX10_isTurner) (as := [_]) dX10_worth_2 lk10_152 inX10_isTurner seX10_isTurner myX10_isTurner (by decide) ⟨by decide, by decide⟩ rfl (kR1 hS0.1 ta0) (Nat.le_of_ble_eq_true rfl) rfl rfl (by decide) (by decide) (k_X10_isTurner hS0.1 ta0) ?_
  rintro v13 cn' K' N' I9 R10 L11 ⟨rfl, rfl, rfl, rfl, rfl, rfl, h14, p15, -⟩
  refine q_if_ne 14 dX10_worth_5 (by decide) (fun h16 => ?_) (fun h16 => ?_)
  · skip
    refine tr_aload_n dX10_worth_14 rfl ?_
    obtain ⟨a17, d18, ta17⟩ := rf1_14 hW0 ta0
    refine tr_getR dX10_worth_15 fl10_68 (kR1 hS0.1 ta0) d18 ?_
    refine tr_aload_n dX10_worth_18 rfl ?_
    refine tr_getR dX10_worth_19 fl10_16 (kR1 hS0.1 ta0) d2 ?_
    refine tr_aload_n dX10_worth_22 rfl ?_
    refine q_callVr hE (M' := mX10_presentSky) (as := []) dX10_worth_23 lk10_119 inX10_presentSky seX10_presentSky myX10_presentSky (by decide) ⟨by decide, by decide⟩ rfl (kR1 hS0.1 ta0) (Nat.le_of_ble_eq_true rfl) rfl rfl (by decide) (by decide) (fk_X10_presentSky hS0.1 (gX) ta0 hX hK hD) ?_
    rintro a24 cn' K' N' I19 R20 L21 ⟨rfl, rfl, rfl, rfl, rfl, g22, ta24, p25, rp26, rp27, rp28, -⟩
    have hS29 := hS0.tr g22 (by decide +kernel) (by decide +kernel)
    obtain ⟨v30, c31⟩ : ∃ v, I19 a0 9 = v := ⟨_, rfl⟩
    have b32 := iv1_9 hS29.1 ta0 c31
    rw [c31] at p25
    refine tr_aload_n dX10_worth_26 rfl ?_
    refine tr_getR dX10_worth_27 fl10_35 (kR1 hS29.1 ta0) d4 ?_
    obtain ⟨v33, c34⟩ : ∃ v, I0 a3 0 = v := ⟨_, rfl⟩
    refine q_getI dX10_worth_30 fl10_181 (kR8 hS29.1 ta3) ((hS29.cell ta3 (by decide +kernel)).trans c34) ?_
    refine tr_aload_n dX10_worth_33 rfl ?_
    refine q_callVi hE (M' := mX10_allTurners) (as := []) dX10_worth_34 lk10_184 inX10_allTurners seX10_allTurners myX10_allTurners (by decide) ⟨by decide, by decide⟩ rfl (kR1 hS29.1 ta0) (Nat.le_of_ble_eq_true rfl) rfl rfl (by decide) (by decide) (k_X10_allTurners hS29.1 ta0) ?_
    rintro v39 cn' K' N' I35 R36 L37 ⟨rfl, rfl, rfl, rfl, rfl, rfl, h40, -⟩
    refine q_iconst dX10_worth_37 (by decide) ?_
    intro v41 h42
    refine tr_iload_n dX10_worth_38 rfl ?_
    refine q_ishlE dX10_worth_39 (by exact om_ee8a1e2d h42) (by exact om_c89a2d80 h14.2 h14.1 p15 h16) ?_
    intro v43 h44
    refine q_iconst dX10_worth_40 (by decide) ?_
    intro v45 h46
    refine q_ixor dX10_worth_41 ?_
    intro v47
    refine q_iand dX10_worth_42 ?_
    intro v48
    refine q_callVv hE (M' := mX5_play) (as := [_, _, _, _]) dX10_worth_43 lk10_188 inX5_play seX5_play myX5_play (by decide) ⟨by decide, by decide⟩ rfl (kR13 hS29.1 ta17) (Nat.le_of_ble_eq_true rfl) rfl rfl (by decide) (by decide) (k_X5_play hS29.1 ta17 ta1 ta24) ?_
    rintro cn' K' N' I49 R50 L51 ⟨rfl, rfl, rfl, rfl, g52, -⟩
    have hS54 := hS29.tr g52 (by decide +kernel) (by decide +kernel)
    have c55 : I49 a0 9 = v30 := (g52.cell ta0 (by decide +kernel)).trans c31
    refine tr_aload_n dX10_worth_46 rfl ?_
    refine tr_aload_n dX10_worth_47 rfl ?_
    refine q_callVr hE (M' := mX10_presentNight) (as := []) dX10_worth_48 lk10_155 inX10_presentNight seX10_presentNight myX10_presentNight (by decide) ⟨by decide, by decide⟩ rfl (kR1 hS54.1 ta0) (Nat.le_of_ble_eq_true rfl) rfl rfl (by decide) (by decide) (fk_X10_presentNight hS54.1 (gX) ta0 (EvQ.rc (EvQ.st hX hW0 ta0 hS54 (by decide +kernel)) hW0 ta0 (R13 hS54 (by decide +kernel))) (SkQ.rc (SkQ.st (SkQ.of rp27) hW0 ta0 g52 (by decide +kernel) (by decide +kernel)) hW0 ta0 (R13 hS54 (by decide +kernel))) (DjS.rc hD hW0 ta0 (R13 hS54 (by decide +kernel)))) ?_
    rintro a61 cn' K' N' I56 R57 L58 ⟨rfl, rfl, rfl, rfl, g59, ta61, rp62, -⟩
    have hS63 := hS54.tr g59 (by decide +kernel) (by decide +kernel)
    refine q_callVi hE (M' := mX5_sum) (as := []) dX10_worth_51 lk10_192 inX5_sum seX5_sum myX5_sum (by decide) ⟨by decide, by decide⟩ rfl (kR13 hS63.1 ta61) (Nat.le_of_ble_eq_true rfl) rfl rfl (by decide) (by decide) (k_X5_sum hS63.1 ta61) ?_
    rintro v68 cn' K' N' I64 R65 L66 ⟨rfl, rfl, rfl, rfl, rfl, rfl, -⟩
    refine tr_aload_n dX10_worth_54 rfl ?_
    refine tr_getR dX10_worth_55 fl10_68 (kR1 hS63.1 ta0) ((hS63.rcell ta0 (by decide +kernel)).trans d18) ?_
    refine q_callVi hE (M' := mX5_sum) (as := []) dX10_worth_58 lk10_192 inX5_sum seX5_sum myX5_sum (by decide) ⟨by decide, by decide⟩ rfl (kR13 hS63.1 ta17) (Nat.le_of_ble_eq_true rfl) rfl rfl (by decide) (by decide) (k_X5_sum hS63.1 ta17) ?_
    rintro v73 cn' K' N' I69 R70 L71 ⟨rfl, rfl, rfl, rfl, rfl, rfl, -⟩
    refine q_isub dX10_worth_61 ?_
    intro v74
    refine q_callVi hE (M' := mX10_answered) (as := [_]) dX10_worth_62 lk10_109 inX10_answered seX10_answered myX10_answered (by decide) ⟨by decide, by decide⟩ rfl (kR1 hS63.1 ta0) (Nat.le_of_ble_eq_true rfl) rfl rfl (by decide) (by decide) (fk_X10_answered hS63.1  ta0) ?_
    rintro v80 cn' K' N' I75 R76 L77 ⟨rfl, rfl, rfl, rfl, rfl, g78, p81, p82, -⟩
    have hS83 := hS63.tr g78 (by decide +kernel) (by decide +kernel)
    obtain ⟨v84, c85⟩ : ∃ v, I75 a0 17 = v := ⟨_, rfl⟩
    rw [c85] at p82
    exact tr_iret hZ dX10_worth_65 rfl (by decide) (by decide) ⟨v80, rfl, rfl, rfl, rfl, rfl, hS83, (SkQ.st (SkQ.rc rp62 hS54.1 ta0 (fun a j q => (R13 hS54 (by decide +kernel) a j q).symm)) hW0 ta0 g78 (by decide +kernel) (by decide +kernel)), trivial⟩
  · skip
    refine tr_aload_n dX10_worth_8 rfl ?_
    refine q_iconst dX10_worth_9 (by decide) ?_
    intro v86 h87
    refine q_callVi hE (M' := mX10_refusedTotal) (as := [_]) dX10_worth_10 lk10_178 inX10_refusedTotal seX10_refusedTotal myX10_refusedTotal (by decide) ⟨by decide, by decide⟩ rfl (kR1 hS0.1 ta0) (Nat.le_of_ble_eq_true rfl) rfl rfl (by decide) (by decide) (k_X10_refusedTotal hS0.1 ta0) ?_
    rintro v92 cn' K' N' I88 R89 L90 ⟨rfl, rfl, rfl, rfl, rfl, g91, -⟩
    have hS93 := hS0.tr g91 (by decide +kernel) (by decide +kernel)
    exact tr_iret hZ dX10_worth_13 rfl (by decide) (by decide) ⟨v92, rfl, rfl, rfl, rfl, rfl, hS93, (SkQ.st hK hW0 ta0 g91 (by decide +kernel) (by decide +kernel)), trivial⟩
def wik_X10_turned : List Nat := [73, 75, 81, 768, 769, 778, 834, 2303, 2367, 2431, 2495, 2559, 2623, 2687, 2751, 2815, 2879, 2943, 3007, 3071, 3135, 3199, 3263, 3327, 3391]
def wrk_X10_turned : List Nat := [832, 833]
set_option maxHeartbeats 4000000 in
theorem fk_X10_turned {l : Launch} {T : Nat → Nat} {cn : Nat} {K N : Nat → Nat} {I0 : cz_I} {R0 : cz_R} {L0 : cz_L} {d : Int} (hW0 : Wf T cn K N I0 R0 d) (gX : Nat → Nat → Int) {a0 : Nat} (ta0 : T a0 = 1) {x1 : Int32} {x2 : Int32} (hX : EvQ I0 R0 a0 gX) (hK : SkQ I0 R0 a0 gX) (hD : DjS R0 a0) : ConE l mX10_turned [.ref a0, .int x1, .int x2] cn K N I0 R0 L0 (ca_i (fun v cn' K' N' I' R' L' => cn = cn' ∧ K = K' ∧ N = N' ∧ L0 = L' ∧ St T cn K N d wik_X10_turned wrk_X10_turned I0 R0 I' R' ∧ (SkQ I' R0 a0 gX) ∧ True)) := by
  refine ConE.of (by decide +kernel) rfl (Nat.le_of_ble_eq_true rfl) rfl (fun X hX hZ hE => ?_)
  subst hX
  have hS0 : St T cn K N d wik_X10_turned wrk_X10_turned I0 R0 I0 R0 := St.rf0 hW0
  obtain ⟨a1, d2, ta1⟩ := rf1_2 hW0 ta0
  obtain ⟨a3, d4, ta3⟩ := rf1_6 hW0 ta0
  obtain ⟨a5, d6, ta5⟩ := rf1_8 hW0 ta0
  obtain ⟨a7, d8, ta7⟩ := rf1_13 hW0 ta0
  refine tr_aload_n dX10_turned_0 rfl ?_
  refine tr_iload_n dX10_turned_1 rfl ?_
  refine q_callVi hE (M' := mX10_isCheese) (as := [_]) dX10_turned_2 lk10_195 inX10_isCheese seX10_isCheese myX10_isCheese (by decide) ⟨by decide, by decide⟩ rfl (kR1 hS0.1 ta0) (Nat.le_of_ble_eq_true rfl) rfl rfl (by decide) (by decide) (k_X10_isCheese hS0.1 ta0) ?_
  rintro v13 cn' K' N' I9 R10 L11 ⟨rfl, rfl, rfl, rfl, rfl, rfl, h14, p15, -⟩
  refine q_if_ne 14 dX10_turned_5 (by decide) (fun h16 => ?_) (fun h16 => ?_)
  · skip
    refine tr_aload_n dX10_turned_14 rfl ?_
    refine tr_iload_n dX10_turned_15 rfl ?_
    obtain ⟨v17, c18⟩ : ∃ v, I0 a1 0 = v := ⟨_, rfl⟩
    have b19 := iv2_0 hW0 ta1 c18
    refine q_callVi hE (M' := mX10_isMinute) (as := [_]) dX10_turned_16 lk10_115 inX10_isMinute seX10_isMinute myX10_isMinute (by decide) ⟨by decide, by decide⟩ rfl (kR1 hS0.1 ta0) (Nat.le_of_ble_eq_true rfl) rfl rfl (by decide) (by decide) (fk_X10_isMinute hS0.1  ta0) ?_
    rintro v25 cn' K' N' I20 R21 L22 ⟨rfl, rfl, rfl, rfl, rfl, rfl, h26, p27, p28, -⟩
    have p29 := p27 _ d2
    clear p27
    rw [c18] at p29
    have p30 := p28 _ d2
    clear p28
    rw [c18] at p30
    refine q_if_ne 28 dX10_turned_19 (by decide) (fun h31 => ?_) (fun h31 => ?_)
    · skip
      refine tr_aload_n dX10_turned_28 rfl ?_
      refine tr_aload_n dX10_turned_29 rfl ?_
      refine q_callVr hE (M' := mX10_presentNight) (as := []) dX10_turned_30 lk10_155 inX10_presentNight seX10_presentNight myX10_presentNight (by decide) ⟨by decide, by decide⟩ rfl (kR1 hS0.1 ta0) (Nat.le_of_ble_eq_true rfl) rfl rfl (by decide) (by decide) (fk_X10_presentNight hS0.1 (gX) ta0 hX hK hD) ?_
      rintro a37 cn' K' N' I32 R33 L34 ⟨rfl, rfl, rfl, rfl, g35, ta37, rp38, -⟩
      have hS39 := hS0.tr g35 (by decide +kernel) (by decide +kernel)
      refine tr_iload_n dX10_turned_33 rfl ?_
      refine tr_iload_n dX10_turned_34 rfl ?_
      refine q_callVi hE (M' := mX5_turnerOf) (as := [_, _]) dX10_turned_35 lk10_198 inX5_turnerOf seX5_turnerOf myX5_turnerOf (by decide) ⟨by decide, by decide⟩ rfl (kR13 hS39.1 ta37) (Nat.le_of_ble_eq_true rfl) rfl rfl (by decide) (by decide) (k_X5_turnerOf hS39.1 ta37 (by exact om_9c52401f b19.2 b19.1 h26.2 h26.1 p29 p30 h31)) ?_
      rintro v44 cn' K' N' I40 R41 L42 ⟨rfl, rfl, rfl, rfl, rfl, rfl, -⟩
      refine q_callVi hE (M' := mX10_answered) (as := [_]) dX10_turned_38 lk10_109 inX10_answered seX10_answered myX10_answered (by decide) ⟨by decide, by decide⟩ rfl (kR1 hS39.1 ta0) (Nat.le_of_ble_eq_true rfl) rfl rfl (by decide) (by decide) (fk_X10_answered hS39.1  ta0) ?_
      rintro v50 cn' K' N' I45 R46 L47 ⟨rfl, rfl, rfl, rfl, rfl, g48, p51, p52, -⟩
      have hS53 := hS39.tr g48 (by decide +kernel) (by decide +kernel)
      obtain ⟨v54, c55⟩ : ∃ v, I45 a0 17 = v := ⟨_, rfl⟩
      rw [c55] at p52
      exact tr_iret hZ dX10_turned_41 rfl (by decide) (by decide) ⟨v50, rfl, rfl, rfl, rfl, rfl, hS53, (SkQ.st rp38 hW0 ta0 g48 (by decide +kernel) (by decide +kernel)), trivial⟩
    · skip
      refine tr_aload_n dX10_turned_22 rfl ?_
      refine q_iconst dX10_turned_23 (by decide) ?_
      intro v56 h57
      refine q_callVi hE (M' := mX10_refused) (as := [_]) dX10_turned_24 lk10_79 inX10_refused seX10_refused myX10_refused (by decide) ⟨by decide, by decide⟩ rfl (kR1 hS0.1 ta0) (Nat.le_of_ble_eq_true rfl) rfl rfl (by decide) (by decide) (fk_X10_refused hS0.1  ta0) ?_
      rintro v63 cn' K' N' I58 R59 L60 ⟨rfl, rfl, rfl, rfl, rfl, g61, p64, p65, -⟩
      have hS66 := hS0.tr g61 (by decide +kernel) (by decide +kernel)
      obtain ⟨v67, c68⟩ : ∃ v, I58 a0 17 = v := ⟨_, rfl⟩
      rw [c68] at p65
      exact tr_iret hZ dX10_turned_27 rfl (by decide) (by decide) ⟨v63, rfl, rfl, rfl, rfl, rfl, hS66, (SkQ.st hK hW0 ta0 g61 (by decide +kernel) (by decide +kernel)), trivial⟩
  · skip
    refine tr_aload_n dX10_turned_8 rfl ?_
    refine q_iconst dX10_turned_9 (by decide) ?_
    intro v69 h70
    refine q_callVi hE (M' := mX10_refused) (as := [_]) dX10_turned_10 lk10_79 inX10_refused seX10_refused myX10_refused (by decide) ⟨by decide, by decide⟩ rfl (kR1 hS0.1 ta0) (Nat.le_of_ble_eq_true rfl) rfl rfl (by decide) (by decide) (fk_X10_refused hS0.1  ta0) ?_
    rintro v76 cn' K' N' I71 R72 L73 ⟨rfl, rfl, rfl, rfl, rfl, g74, p77, p78, -⟩
    have hS79 := hS0.tr g74 (by decide +kernel) (by decide +kernel)
    obtain ⟨v80, c81⟩ : ∃ v, I71 a0 17 = v := ⟨_, rfl⟩
    rw [c81] at p78
    exact tr_iret hZ dX10_turned_13 rfl (by decide) (by decide) ⟨v76, rfl, rfl, rfl, rfl, rfl, hS79, (SkQ.st hK hW0 ta0 g74 (by decide +kernel) (by decide +kernel)), trivial⟩
def wik_X10_up : List Nat := [73, 75, 81, 768, 769, 778, 834, 2303, 2367, 2431, 2495, 2559, 2623, 2687, 2751, 2815, 2879, 2943, 3007, 3071, 3135, 3199, 3263, 3327, 3391]
def wrk_X10_up : List Nat := [832, 833]
set_option maxHeartbeats 4000000 in
theorem fk_X10_up {l : Launch} {T : Nat → Nat} {cn : Nat} {K N : Nat → Nat} {I0 : cz_I} {R0 : cz_R} {L0 : cz_L} {d : Int} (hW0 : Wf T cn K N I0 R0 d) (gX : Nat → Nat → Int) {a0 : Nat} (ta0 : T a0 = 1) {x1 : Int32} {x2 : Int32} (hX : EvQ I0 R0 a0 gX) (hK : SkQ I0 R0 a0 gX) (hD : DjS R0 a0) : ConE l mX10_up [.ref a0, .int x1, .int x2] cn K N I0 R0 L0 (ca_i (fun v cn' K' N' I' R' L' => cn = cn' ∧ K = K' ∧ N = N' ∧ L0 = L' ∧ St T cn K N d wik_X10_up wrk_X10_up I0 R0 I' R' ∧ (SkQ I' R0 a0 gX) ∧ True)) := by
  refine ConE.of (by decide +kernel) rfl (Nat.le_of_ble_eq_true rfl) rfl (fun X hX hZ hE => ?_)
  subst hX
  have hS0 : St T cn K N d wik_X10_up wrk_X10_up I0 R0 I0 R0 := St.rf0 hW0
  obtain ⟨a1, d2, ta1⟩ := rf1_2 hW0 ta0
  obtain ⟨a3, d4, ta3⟩ := rf1_6 hW0 ta0
  obtain ⟨a5, d6, ta5⟩ := rf1_8 hW0 ta0
  obtain ⟨a7, d8, ta7⟩ := rf1_13 hW0 ta0
  refine tr_aload_n dX10_up_0 rfl ?_
  refine tr_iload_n dX10_up_1 rfl ?_
  refine q_callVi hE (M' := mX10_isCheese) (as := [_]) dX10_up_2 lk10_195 inX10_isCheese seX10_isCheese myX10_isCheese (by decide) ⟨by decide, by decide⟩ rfl (kR1 hS0.1 ta0) (Nat.le_of_ble_eq_true rfl) rfl rfl (by decide) (by decide) (k_X10_isCheese hS0.1 ta0) ?_
  rintro v13 cn' K' N' I9 R10 L11 ⟨rfl, rfl, rfl, rfl, rfl, rfl, h14, p15, -⟩
  refine q_if_ne 14 dX10_up_5 (by decide) (fun h16 => ?_) (fun h16 => ?_)
  · skip
    refine tr_aload_n dX10_up_14 rfl ?_
    refine tr_iload_n dX10_up_15 rfl ?_
    obtain ⟨v17, c18⟩ : ∃ v, I0 a1 0 = v := ⟨_, rfl⟩
    have b19 := iv2_0 hW0 ta1 c18
    refine q_callVi hE (M' := mX10_isMinute) (as := [_]) dX10_up_16 lk10_115 inX10_isMinute seX10_isMinute myX10_isMinute (by decide) ⟨by decide, by decide⟩ rfl (kR1 hS0.1 ta0) (Nat.le_of_ble_eq_true rfl) rfl rfl (by decide) (by decide) (fk_X10_isMinute hS0.1  ta0) ?_
    rintro v25 cn' K' N' I20 R21 L22 ⟨rfl, rfl, rfl, rfl, rfl, rfl, h26, p27, p28, -⟩
    have p29 := p27 _ d2
    clear p27
    rw [c18] at p29
    have p30 := p28 _ d2
    clear p28
    rw [c18] at p30
    refine q_if_ne 28 dX10_up_19 (by decide) (fun h31 => ?_) (fun h31 => ?_)
    · skip
      refine tr_aload_n dX10_up_28 rfl ?_
      refine tr_aload_n dX10_up_29 rfl ?_
      refine q_callVr hE (M' := mX10_presentNight) (as := []) dX10_up_30 lk10_155 inX10_presentNight seX10_presentNight myX10_presentNight (by decide) ⟨by decide, by decide⟩ rfl (kR1 hS0.1 ta0) (Nat.le_of_ble_eq_true rfl) rfl rfl (by decide) (by decide) (fk_X10_presentNight hS0.1 (gX) ta0 hX hK hD) ?_
      rintro a37 cn' K' N' I32 R33 L34 ⟨rfl, rfl, rfl, rfl, g35, ta37, rp38, -⟩
      have hS39 := hS0.tr g35 (by decide +kernel) (by decide +kernel)
      refine tr_iload_n dX10_up_33 rfl ?_
      refine tr_iload_n dX10_up_34 rfl ?_
      refine q_callVi hE (M' := mX5_liesUp) (as := [_, _]) dX10_up_35 lk10_201 inX5_liesUp seX5_liesUp myX5_liesUp (by decide) ⟨by decide, by decide⟩ rfl (kR13 hS39.1 ta37) (Nat.le_of_ble_eq_true rfl) rfl rfl (by decide) (by decide) (k_X5_liesUp hS39.1 ta37 (by exact om_9c52401f b19.2 b19.1 h26.2 h26.1 p29 p30 h31)) ?_
      rintro v44 cn' K' N' I40 R41 L42 ⟨rfl, rfl, rfl, rfl, rfl, rfl, h45, -⟩
      refine q_if_eq 45 dX10_up_38 (by decide) (fun h46 => ?_) (fun h46 => ?_)
      · skip
        refine q_iconst dX10_up_45 (by decide) ?_
        intro v47 h48
        refine q_callVi hE (M' := mX10_answered) (as := [_]) dX10_up_46 lk10_109 inX10_answered seX10_answered myX10_answered (by decide) ⟨by decide, by decide⟩ rfl (kR1 hS39.1 ta0) (Nat.le_of_ble_eq_true rfl) rfl rfl (by decide) (by decide) (fk_X10_answered hS39.1  ta0) ?_
        rintro v54 cn' K' N' I49 R50 L51 ⟨rfl, rfl, rfl, rfl, rfl, g52, p55, p56, -⟩
        have hS57 := hS39.tr g52 (by decide +kernel) (by decide +kernel)
        obtain ⟨v58, c59⟩ : ∃ v, I49 a0 17 = v := ⟨_, rfl⟩
        rw [c59] at p56
        exact tr_iret hZ dX10_up_49 rfl (by decide) (by decide) ⟨v54, rfl, rfl, rfl, rfl, rfl, hS57, (SkQ.st rp38 hW0 ta0 g52 (by decide +kernel) (by decide +kernel)), trivial⟩
      · skip
        refine q_iconst dX10_up_41 (by decide) ?_
        intro v60 h61
        refine tr_goto 46 dX10_up_42 (by decide) ?_
        refine q_callVi hE (M' := mX10_answered) (as := [_]) dX10_up_46 lk10_109 inX10_answered seX10_answered myX10_answered (by decide) ⟨by decide, by decide⟩ rfl (kR1 hS39.1 ta0) (Nat.le_of_ble_eq_true rfl) rfl rfl (by decide) (by decide) (fk_X10_answered hS39.1  ta0) ?_
        rintro v67 cn' K' N' I62 R63 L64 ⟨rfl, rfl, rfl, rfl, rfl, g65, p68, p69, -⟩
        have hS70 := hS39.tr g65 (by decide +kernel) (by decide +kernel)
        obtain ⟨v71, c72⟩ : ∃ v, I62 a0 17 = v := ⟨_, rfl⟩
        rw [c72] at p69
        exact tr_iret hZ dX10_up_49 rfl (by decide) (by decide) ⟨v67, rfl, rfl, rfl, rfl, rfl, hS70, (SkQ.st rp38 hW0 ta0 g65 (by decide +kernel) (by decide +kernel)), trivial⟩
    · skip
      refine tr_aload_n dX10_up_22 rfl ?_
      refine q_iconst dX10_up_23 (by decide) ?_
      intro v73 h74
      refine q_callVi hE (M' := mX10_refused) (as := [_]) dX10_up_24 lk10_79 inX10_refused seX10_refused myX10_refused (by decide) ⟨by decide, by decide⟩ rfl (kR1 hS0.1 ta0) (Nat.le_of_ble_eq_true rfl) rfl rfl (by decide) (by decide) (fk_X10_refused hS0.1  ta0) ?_
      rintro v80 cn' K' N' I75 R76 L77 ⟨rfl, rfl, rfl, rfl, rfl, g78, p81, p82, -⟩
      have hS83 := hS0.tr g78 (by decide +kernel) (by decide +kernel)
      obtain ⟨v84, c85⟩ : ∃ v, I75 a0 17 = v := ⟨_, rfl⟩
      rw [c85] at p82
      exact tr_iret hZ dX10_up_27 rfl (by decide) (by decide) ⟨v80, rfl, rfl, rfl, rfl, rfl, hS83, (SkQ.st hK hW0 ta0 g78 (by decide +kernel) (by decide +kernel)), trivial⟩
  · skip
    refine tr_aload_n dX10_up_8 rfl ?_
    refine q_iconst dX10_up_9 (by decide) ?_
    intro v86 h87
    refine q_callVi hE (M' := mX10_refused) (as := [_]) dX10_up_10 lk10_79 inX10_refused seX10_refused myX10_refused (by decide) ⟨by decide, by decide⟩ rfl (kR1 hS0.1 ta0) (Nat.le_of_ble_eq_true rfl) rfl rfl (by decide) (by decide) (fk_X10_refused hS0.1  ta0) ?_
    rintro v93 cn' K' N' I88 R89 L90 ⟨rfl, rfl, rfl, rfl, rfl, g91, p94, p95, -⟩
    have hS96 := hS0.tr g91 (by decide +kernel) (by decide +kernel)
    obtain ⟨v97, c98⟩ : ∃ v, I88 a0 17 = v := ⟨_, rfl⟩
    rw [c98] at p95
    exact tr_iret hZ dX10_up_13 rfl (by decide) (by decide) ⟨v93, rfl, rfl, rfl, rfl, rfl, hS96, (SkQ.st hK hW0 ta0 g91 (by decide +kernel) (by decide +kernel)), trivial⟩
def wik_X10_cheese : List Nat := [73, 75, 81, 768, 769, 778, 834, 2303, 2367, 2431, 2495, 2559, 2623, 2687, 2751, 2815, 2879, 2943, 3007, 3071, 3135, 3199, 3263, 3327, 3391]
def wrk_X10_cheese : List Nat := [832, 833]
set_option maxHeartbeats 4000000 in
theorem fk_X10_cheese {l : Launch} {T : Nat → Nat} {cn : Nat} {K N : Nat → Nat} {I0 : cz_I} {R0 : cz_R} {L0 : cz_L} {d : Int} (hW0 : Wf T cn K N I0 R0 d) (gX : Nat → Nat → Int) {a0 : Nat} (ta0 : T a0 = 1) {x1 : Int32} {x2 : Int32} (hX : EvQ I0 R0 a0 gX) (hK : SkQ I0 R0 a0 gX) (hD : DjS R0 a0) : ConE l mX10_cheese [.ref a0, .int x1, .int x2] cn K N I0 R0 L0 (ca_i (fun v cn' K' N' I' R' L' => cn = cn' ∧ K = K' ∧ N = N' ∧ L0 = L' ∧ St T cn K N d wik_X10_cheese wrk_X10_cheese I0 R0 I' R' ∧ (SkQ I' R0 a0 gX) ∧ True)) := by
  refine ConE.of (by decide +kernel) rfl (Nat.le_of_ble_eq_true rfl) rfl (fun X hX hZ hE => ?_)
  subst hX
  have hS0 : St T cn K N d wik_X10_cheese wrk_X10_cheese I0 R0 I0 R0 := St.rf0 hW0
  obtain ⟨a1, d2, ta1⟩ := rf1_2 hW0 ta0
  obtain ⟨a3, d4, ta3⟩ := rf1_6 hW0 ta0
  obtain ⟨a5, d6, ta5⟩ := rf1_8 hW0 ta0
  obtain ⟨a7, d8, ta7⟩ := rf1_13 hW0 ta0
  refine tr_aload_n dX10_cheese_0 rfl ?_
  refine tr_iload_n dX10_cheese_1 rfl ?_
  refine q_callVi hE (M' := mX10_isCheese) (as := [_]) dX10_cheese_2 lk10_195 inX10_isCheese seX10_isCheese myX10_isCheese (by decide) ⟨by decide, by decide⟩ rfl (kR1 hS0.1 ta0) (Nat.le_of_ble_eq_true rfl) rfl rfl (by decide) (by decide) (k_X10_isCheese hS0.1 ta0) ?_
  rintro v13 cn' K' N' I9 R10 L11 ⟨rfl, rfl, rfl, rfl, rfl, rfl, h14, p15, -⟩
  refine q_if_ne 14 dX10_cheese_5 (by decide) (fun h16 => ?_) (fun h16 => ?_)
  · skip
    refine tr_aload_n dX10_cheese_14 rfl ?_
    refine q_callVr hE (M' := mX10_presentNight) (as := []) dX10_cheese_15 lk10_155 inX10_presentNight seX10_presentNight myX10_presentNight (by decide) ⟨by decide, by decide⟩ rfl (kR1 hS0.1 ta0) (Nat.le_of_ble_eq_true rfl) rfl rfl (by decide) (by decide) (fk_X10_presentNight hS0.1 (gX) ta0 hX hK hD) ?_
    rintro a22 cn' K' N' I17 R18 L19 ⟨rfl, rfl, rfl, rfl, g20, ta22, rp23, -⟩
    have hS24 := hS0.tr g20 (by decide +kernel) (by decide +kernel)
    refine tr_astore_n dX10_cheese_18 (by decide) (by decide) ?_
    refine tr_iload_n dX10_cheese_19 rfl ?_
    by_cases h25 : x2.toInt = 0
    · skip
      refine tr_tabIn (off := 44) 64 dX10_cheese_20 (by exact om_7c055b42 h25) (by exact om_ab57bba8 h25) (by rw [h25]; decide +kernel) (by decide) ?_
      refine tr_aload_n dX10_cheese_64 rfl ?_
      refine tr_aload_n dX10_cheese_65 rfl ?_
      refine tr_getR dX10_cheese_66 fl10_16 (kR1 hS24.1 ta0) ((hS24.rcell ta0 (by decide +kernel)).trans d2) ?_
      obtain ⟨a26, d27, ta26⟩ := rf2_6 hW0 ta1
      refine tr_getR dX10_cheese_69 fl10_204 (kR2 hS24.1 ta1) ((hS24.rcell ta1 (by decide +kernel)).trans d27) ?_
      refine tr_iload_n dX10_cheese_72 rfl ?_
      refine q_iald dX10_cheese_73 (kR20 hS24.1 ta26) (ti_in (nR20 hS24.1 ta26) (by exact om_af8ae0bb h14.2 h14.1 p15 h16) (by exact om_185c49a6 h14.2 h14.1 p15 h16)) ?_
      intro v28 c29
      refine q_callVi hE (M' := mX10_answered) (as := [_]) dX10_cheese_74 lk10_109 inX10_answered seX10_answered myX10_answered (by decide) ⟨by decide, by decide⟩ rfl (kR1 hS24.1 ta0) (Nat.le_of_ble_eq_true rfl) rfl rfl (by decide) (by decide) (fk_X10_answered hS24.1  ta0) ?_
      rintro v35 cn' K' N' I30 R31 L32 ⟨rfl, rfl, rfl, rfl, rfl, g33, p36, p37, -⟩
      have hS38 := hS24.tr g33 (by decide +kernel) (by decide +kernel)
      obtain ⟨v39, c40⟩ : ∃ v, I30 a0 17 = v := ⟨_, rfl⟩
      rw [c40] at p37
      exact tr_iret hZ dX10_cheese_77 rfl (by decide) (by decide) ⟨v35, rfl, rfl, rfl, rfl, rfl, hS38, (SkQ.st rp23 hW0 ta0 g33 (by decide +kernel) (by decide +kernel)), trivial⟩
    · skip
      by_cases h41 : x2.toInt = 1
      · skip
        refine tr_tabIn (off := 58) 78 dX10_cheese_20 (by exact om_6183b2fb h41) (by exact om_f5df1e08 h41) (by rw [h41]; decide +kernel) (by decide) ?_
        refine tr_aload_n dX10_cheese_78 rfl ?_
        refine tr_aload_n dX10_cheese_79 rfl ?_
        obtain ⟨a42, d43, ta42⟩ := rf13_4 hW0 ta22
        refine tr_getR dX10_cheese_80 fl10_207 (kR13 hS24.1 ta22) ((hS24.rcell ta22 (by decide +kernel)).trans d43) ?_
        refine tr_iload_n dX10_cheese_83 rfl ?_
        refine q_iald dX10_cheese_84 (kR45 hS24.1 ta42) (ti_in (nR45 hS24.1 ta42) (by exact om_97cc775b h14.2 h14.1 p15 h16 h25 h41) (by exact om_d6639f2c h14.2 h14.1 p15 h16 h25 h41)) ?_
        intro v44 c45
        refine tr_aload_n dX10_cheese_85 rfl ?_
        obtain ⟨a46, d47, ta46⟩ := rf13_5 hW0 ta22
        refine tr_getR dX10_cheese_86 fl10_210 (kR13 hS24.1 ta22) ((hS24.rcell ta22 (by decide +kernel)).trans d47) ?_
        refine tr_iload_n dX10_cheese_89 rfl ?_
        refine q_iald dX10_cheese_90 (kR46 hS24.1 ta46) (ti_in (nR46 hS24.1 ta46) (by exact om_97cc775b h14.2 h14.1 p15 h16 h25 h41) (by exact om_d6639f2c h14.2 h14.1 p15 h16 h25 h41)) ?_
        intro v48 c49
        refine q_iadd dX10_cheese_91 ?_
        intro v50
        refine q_callVi hE (M' := mX10_answered) (as := [_]) dX10_cheese_92 lk10_109 inX10_answered seX10_answered myX10_answered (by decide) ⟨by decide, by decide⟩ rfl (kR1 hS24.1 ta0) (Nat.le_of_ble_eq_true rfl) rfl rfl (by decide) (by decide) (fk_X10_answered hS24.1  ta0) ?_
        rintro v56 cn' K' N' I51 R52 L53 ⟨rfl, rfl, rfl, rfl, rfl, g54, p57, p58, -⟩
        have hS59 := hS24.tr g54 (by decide +kernel) (by decide +kernel)
        obtain ⟨v60, c61⟩ : ∃ v, I51 a0 17 = v := ⟨_, rfl⟩
        rw [c61] at p58
        exact tr_iret hZ dX10_cheese_95 rfl (by decide) (by decide) ⟨v56, rfl, rfl, rfl, rfl, rfl, hS59, (SkQ.st rp23 hW0 ta0 g54 (by decide +kernel) (by decide +kernel)), trivial⟩
      · skip
        by_cases h62 : x2.toInt = 2
        · skip
          refine tr_tabIn (off := 76) 96 dX10_cheese_20 (by exact om_1174f472 h62) (by exact om_09477008 h62) (by rw [h62]; decide +kernel) (by decide) ?_
          refine tr_aload_n dX10_cheese_96 rfl ?_
          refine tr_aload_n dX10_cheese_97 rfl ?_
          obtain ⟨a63, d64, ta63⟩ := rf13_4 hW0 ta22
          refine tr_getR dX10_cheese_98 fl10_207 (kR13 hS24.1 ta22) ((hS24.rcell ta22 (by decide +kernel)).trans d64) ?_
          refine tr_iload_n dX10_cheese_101 rfl ?_
          refine q_iald dX10_cheese_102 (kR45 hS24.1 ta63) (ti_in (nR45 hS24.1 ta63) (by exact om_973ef151 h14.2 h14.1 p15 h16 h25 h41 h62) (by exact om_010f5f24 h14.2 h14.1 p15 h16 h25 h41 h62)) ?_
          intro v65 c66
          refine q_callVi hE (M' := mX10_answered) (as := [_]) dX10_cheese_103 lk10_109 inX10_answered seX10_answered myX10_answered (by decide) ⟨by decide, by decide⟩ rfl (kR1 hS24.1 ta0) (Nat.le_of_ble_eq_true rfl) rfl rfl (by decide) (by decide) (fk_X10_answered hS24.1  ta0) ?_
          rintro v72 cn' K' N' I67 R68 L69 ⟨rfl, rfl, rfl, rfl, rfl, g70, p73, p74, -⟩
          have hS75 := hS24.tr g70 (by decide +kernel) (by decide +kernel)
          obtain ⟨v76, c77⟩ : ∃ v, I67 a0 17 = v := ⟨_, rfl⟩
          rw [c77] at p74
          exact tr_iret hZ dX10_cheese_106 rfl (by decide) (by decide) ⟨v72, rfl, rfl, rfl, rfl, rfl, hS75, (SkQ.st rp23 hW0 ta0 g70 (by decide +kernel) (by decide +kernel)), trivial⟩
        · skip
          by_cases h78 : x2.toInt = 3
          · skip
            refine tr_tabIn (off := 87) 107 dX10_cheese_20 (by exact om_d4b200a6 h78) (by exact om_f42089d7 h78) (by rw [h78]; decide +kernel) (by decide) ?_
            refine tr_aload_n dX10_cheese_107 rfl ?_
            refine tr_aload_n dX10_cheese_108 rfl ?_
            obtain ⟨a79, d80, ta79⟩ := rf13_6 hW0 ta22
            refine tr_getR dX10_cheese_109 fl10_213 (kR13 hS24.1 ta22) ((hS24.rcell ta22 (by decide +kernel)).trans d80) ?_
            refine tr_iload_n dX10_cheese_112 rfl ?_
            refine q_iald dX10_cheese_113 (kR47 hS24.1 ta79) (ti_in (nR47 hS24.1 ta79) (by exact om_0409615a h14.2 h14.1 p15 h16 h25 h41 h62 h78) (by exact om_da0fbbf3 h14.2 h14.1 p15 h16 h25 h41 h62 h78)) ?_
            intro v81 c82
            refine q_callVi hE (M' := mX10_answered) (as := [_]) dX10_cheese_114 lk10_109 inX10_answered seX10_answered myX10_answered (by decide) ⟨by decide, by decide⟩ rfl (kR1 hS24.1 ta0) (Nat.le_of_ble_eq_true rfl) rfl rfl (by decide) (by decide) (fk_X10_answered hS24.1  ta0) ?_
            rintro v88 cn' K' N' I83 R84 L85 ⟨rfl, rfl, rfl, rfl, rfl, g86, p89, p90, -⟩
            have hS91 := hS24.tr g86 (by decide +kernel) (by decide +kernel)
            obtain ⟨v92, c93⟩ : ∃ v, I83 a0 17 = v := ⟨_, rfl⟩
            rw [c93] at p90
            exact tr_iret hZ dX10_cheese_117 rfl (by decide) (by decide) ⟨v88, rfl, rfl, rfl, rfl, rfl, hS91, (SkQ.st rp23 hW0 ta0 g86 (by decide +kernel) (by decide +kernel)), trivial⟩
          · skip
            by_cases h94 : x2.toInt = 4
            · skip
              refine tr_tabIn (off := 98) 118 dX10_cheese_20 (by exact om_d336d452 h94) (by exact om_34590e7d h94) (by rw [h94]; decide +kernel) (by decide) ?_
              refine tr_aload_n dX10_cheese_118 rfl ?_
              refine tr_aload_n dX10_cheese_119 rfl ?_
              obtain ⟨a95, d96, ta95⟩ := rf13_5 hW0 ta22
              refine tr_getR dX10_cheese_120 fl10_210 (kR13 hS24.1 ta22) ((hS24.rcell ta22 (by decide +kernel)).trans d96) ?_
              refine tr_iload_n dX10_cheese_123 rfl ?_
              refine q_iald dX10_cheese_124 (kR46 hS24.1 ta95) (ti_in (nR46 hS24.1 ta95) (by exact om_45fd7246 h14.2 h14.1 p15 h16 h25 h41 h62 h78 h94) (by exact om_8f3c4cb6 h14.2 h14.1 p15 h16 h25 h41 h62 h78 h94)) ?_
              intro v97 c98
              refine q_callVi hE (M' := mX10_answered) (as := [_]) dX10_cheese_125 lk10_109 inX10_answered seX10_answered myX10_answered (by decide) ⟨by decide, by decide⟩ rfl (kR1 hS24.1 ta0) (Nat.le_of_ble_eq_true rfl) rfl rfl (by decide) (by decide) (fk_X10_answered hS24.1  ta0) ?_
              rintro v104 cn' K' N' I99 R100 L101 ⟨rfl, rfl, rfl, rfl, rfl, g102, p105, p106, -⟩
              have hS107 := hS24.tr g102 (by decide +kernel) (by decide +kernel)
              obtain ⟨v108, c109⟩ : ∃ v, I99 a0 17 = v := ⟨_, rfl⟩
              rw [c109] at p106
              exact tr_iret hZ dX10_cheese_128 rfl (by decide) (by decide) ⟨v104, rfl, rfl, rfl, rfl, rfl, hS107, (SkQ.st rp23 hW0 ta0 g102 (by decide +kernel) (by decide +kernel)), trivial⟩
            · skip
              by_cases h110 : x2.toInt = 5
              · skip
                refine tr_tabIn (off := 109) 129 dX10_cheese_20 (by exact om_d3aa380d h110) (by exact om_39b766e3 h110) (by rw [h110]; decide +kernel) (by decide) ?_
                refine tr_aload_n dX10_cheese_129 rfl ?_
                refine tr_aload_n dX10_cheese_130 rfl ?_
                obtain ⟨a111, d112, ta111⟩ := rf13_7 hW0 ta22
                refine tr_getR dX10_cheese_131 fl10_216 (kR13 hS24.1 ta22) ((hS24.rcell ta22 (by decide +kernel)).trans d112) ?_
                refine tr_iload_n dX10_cheese_134 rfl ?_
                refine q_iald dX10_cheese_135 (kR48 hS24.1 ta111) (ti_in (nR48 hS24.1 ta111) (by exact om_e8222fe9 h14.2 h14.1 p15 h16 h25 h41 h62 h78 h94 h110) (by exact om_2faadfca h14.2 h14.1 p15 h16 h25 h41 h62 h78 h94 h110)) ?_
                intro v113 c114
                refine q_callVi hE (M' := mX10_answered) (as := [_]) dX10_cheese_136 lk10_109 inX10_answered seX10_answered myX10_answered (by decide) ⟨by decide, by decide⟩ rfl (kR1 hS24.1 ta0) (Nat.le_of_ble_eq_true rfl) rfl rfl (by decide) (by decide) (fk_X10_answered hS24.1  ta0) ?_
                rintro v120 cn' K' N' I115 R116 L117 ⟨rfl, rfl, rfl, rfl, rfl, g118, p121, p122, -⟩
                have hS123 := hS24.tr g118 (by decide +kernel) (by decide +kernel)
                obtain ⟨v124, c125⟩ : ∃ v, I115 a0 17 = v := ⟨_, rfl⟩
                rw [c125] at p122
                exact tr_iret hZ dX10_cheese_139 rfl (by decide) (by decide) ⟨v120, rfl, rfl, rfl, rfl, rfl, hS123, (SkQ.st rp23 hW0 ta0 g118 (by decide +kernel) (by decide +kernel)), trivial⟩
              · skip
                by_cases h126 : x2.toInt = 6
                · skip
                  refine tr_tabIn (off := 120) 140 dX10_cheese_20 (by exact om_59370c92 h126) (by exact om_a607b469 h126) (by rw [h126]; decide +kernel) (by decide) ?_
                  refine tr_aload_n dX10_cheese_140 rfl ?_
                  refine tr_aload_n dX10_cheese_141 rfl ?_
                  refine tr_iload_n dX10_cheese_142 rfl ?_
                  refine q_callVi hE (M' := mX5_price) (as := [_]) dX10_cheese_143 lk10_219 inX5_price seX5_price myX5_price (by decide) ⟨by decide, by decide⟩ rfl (kR13 hS24.1 ta22) (Nat.le_of_ble_eq_true rfl) rfl rfl (by decide) (by decide) (k_X5_price hS24.1 ta22 (by exact om_e3d5b501 h14.2 h14.1 p15 h16 h25 h41 h62 h78 h94 h110 h126)) ?_
                  rintro v131 cn' K' N' I127 R128 L129 ⟨rfl, rfl, rfl, rfl, rfl, rfl, -⟩
                  refine q_callVi hE (M' := mX10_answered) (as := [_]) dX10_cheese_146 lk10_109 inX10_answered seX10_answered myX10_answered (by decide) ⟨by decide, by decide⟩ rfl (kR1 hS24.1 ta0) (Nat.le_of_ble_eq_true rfl) rfl rfl (by decide) (by decide) (fk_X10_answered hS24.1  ta0) ?_
                  rintro v137 cn' K' N' I132 R133 L134 ⟨rfl, rfl, rfl, rfl, rfl, g135, p138, p139, -⟩
                  have hS140 := hS24.tr g135 (by decide +kernel) (by decide +kernel)
                  obtain ⟨v141, c142⟩ : ∃ v, I132 a0 17 = v := ⟨_, rfl⟩
                  rw [c142] at p139
                  exact tr_iret hZ dX10_cheese_149 rfl (by decide) (by decide) ⟨v137, rfl, rfl, rfl, rfl, rfl, hS140, (SkQ.st rp23 hW0 ta0 g135 (by decide +kernel) (by decide +kernel)), trivial⟩
                · skip
                  refine tr_tabOut 150 dX10_cheese_20 (by exact om_cd5ee703 h25 h41 h62 h78 h94 h110 h126) (by decide) ?_
                  refine tr_aload_n dX10_cheese_150 rfl ?_
                  refine q_iconst dX10_cheese_151 (by decide) ?_
                  intro v143 h144
                  refine q_callVi hE (M' := mX10_refused) (as := [_]) dX10_cheese_152 lk10_79 inX10_refused seX10_refused myX10_refused (by decide) ⟨by decide, by decide⟩ rfl (kR1 hS24.1 ta0) (Nat.le_of_ble_eq_true rfl) rfl rfl (by decide) (by decide) (fk_X10_refused hS24.1  ta0) ?_
                  rintro v150 cn' K' N' I145 R146 L147 ⟨rfl, rfl, rfl, rfl, rfl, g148, p151, p152, -⟩
                  have hS153 := hS24.tr g148 (by decide +kernel) (by decide +kernel)
                  obtain ⟨v154, c155⟩ : ∃ v, I145 a0 17 = v := ⟨_, rfl⟩
                  rw [c155] at p152
                  exact tr_iret hZ dX10_cheese_155 rfl (by decide) (by decide) ⟨v150, rfl, rfl, rfl, rfl, rfl, hS153, (SkQ.st rp23 hW0 ta0 g148 (by decide +kernel) (by decide +kernel)), trivial⟩
  · skip
    refine tr_aload_n dX10_cheese_8 rfl ?_
    refine q_iconst dX10_cheese_9 (by decide) ?_
    intro v156 h157
    refine q_callVi hE (M' := mX10_refused) (as := [_]) dX10_cheese_10 lk10_79 inX10_refused seX10_refused myX10_refused (by decide) ⟨by decide, by decide⟩ rfl (kR1 hS0.1 ta0) (Nat.le_of_ble_eq_true rfl) rfl rfl (by decide) (by decide) (fk_X10_refused hS0.1  ta0) ?_
    rintro v163 cn' K' N' I158 R159 L160 ⟨rfl, rfl, rfl, rfl, rfl, g161, p164, p165, -⟩
    have hS166 := hS0.tr g161 (by decide +kernel) (by decide +kernel)
    obtain ⟨v167, c168⟩ : ∃ v, I158 a0 17 = v := ⟨_, rfl⟩
    rw [c168] at p165
    exact tr_iret hZ dX10_cheese_13 rfl (by decide) (by decide) ⟨v163, rfl, rfl, rfl, rfl, rfl, hS166, (SkQ.st hK hW0 ta0 g161 (by decide +kernel) (by decide +kernel)), trivial⟩
def wik_X10_vein : List Nat := [73, 75, 81, 768, 769, 778, 834, 2303, 2367, 2431, 2495, 2559, 2623, 2687, 2751, 2815, 2879, 2943, 3007, 3071, 3135, 3199, 3263, 3327, 3391]
def wrk_X10_vein : List Nat := [832, 833]
set_option maxHeartbeats 4000000 in
theorem fk_X10_vein {l : Launch} {T : Nat → Nat} {cn : Nat} {K N : Nat → Nat} {I0 : cz_I} {R0 : cz_R} {L0 : cz_L} {d : Int} (hW0 : Wf T cn K N I0 R0 d) (gX : Nat → Nat → Int) {a0 : Nat} (ta0 : T a0 = 1) {x1 : Int32} {x2 : Int32} (hX : EvQ I0 R0 a0 gX) (hK : SkQ I0 R0 a0 gX) (hD : DjS R0 a0) : ConE l mX10_vein [.ref a0, .int x1, .int x2] cn K N I0 R0 L0 (ca_i (fun v cn' K' N' I' R' L' => cn = cn' ∧ K = K' ∧ N = N' ∧ L0 = L' ∧ St T cn K N d wik_X10_vein wrk_X10_vein I0 R0 I' R' ∧ (SkQ I' R0 a0 gX) ∧ True)) := by
  refine ConE.of (by decide +kernel) rfl (Nat.le_of_ble_eq_true rfl) rfl (fun X hX hZ hE => ?_)
  subst hX
  have hS0 : St T cn K N d wik_X10_vein wrk_X10_vein I0 R0 I0 R0 := St.rf0 hW0
  obtain ⟨a1, d2, ta1⟩ := rf1_2 hW0 ta0
  obtain ⟨a3, d4, ta3⟩ := rf1_6 hW0 ta0
  obtain ⟨a5, d6, ta5⟩ := rf1_8 hW0 ta0
  obtain ⟨a7, d8, ta7⟩ := rf1_13 hW0 ta0
  refine tr_aload_n dX10_vein_0 rfl ?_
  refine tr_iload_n dX10_vein_1 rfl ?_
  refine tr_iload_n dX10_vein_2 rfl ?_
  refine q_callVi hE (M' := mX10_veinMinute) (as := [_, _]) dX10_vein_3 lk10_222 inX10_veinMinute seX10_veinMinute myX10_veinMinute (by decide) ⟨by decide, by decide⟩ rfl (kR1 hS0.1 ta0) (Nat.le_of_ble_eq_true rfl) rfl rfl (by decide) (by decide) (fk_X10_veinMinute hS0.1 (gX) ta0 hX hK hD) ?_
  rintro v14 cn' K' N' I9 R10 L11 ⟨rfl, rfl, rfl, rfl, g12, rp15, -⟩
  have hS16 := hS0.tr g12 (by decide +kernel) (by decide +kernel)
  refine tr_istore_n dX10_vein_6 (by decide) (by decide) ?_
  refine tr_iload_n dX10_vein_7 rfl ?_
  refine q_iconst dX10_vein_8 (by decide) ?_
  intro v17 h18
  refine q_icmp_ne 20 dX10_vein_9 (by decide) (fun h19 => ?_) (fun h19 => ?_)
  · skip
    refine tr_aload_n dX10_vein_20 rfl ?_
    refine tr_iload_n dX10_vein_21 rfl ?_
    refine q_callVi hE (M' := mX10_answered) (as := [_]) dX10_vein_22 lk10_109 inX10_answered seX10_answered myX10_answered (by decide) ⟨by decide, by decide⟩ rfl (kR1 hS16.1 ta0) (Nat.le_of_ble_eq_true rfl) rfl rfl (by decide) (by decide) (fk_X10_answered hS16.1  ta0) ?_
    rintro v25 cn' K' N' I20 R21 L22 ⟨rfl, rfl, rfl, rfl, rfl, g23, p26, p27, -⟩
    have hS28 := hS16.tr g23 (by decide +kernel) (by decide +kernel)
    obtain ⟨v29, c30⟩ : ∃ v, I20 a0 17 = v := ⟨_, rfl⟩
    rw [c30] at p27
    exact tr_iret hZ dX10_vein_25 rfl (by decide) (by decide) ⟨v25, rfl, rfl, rfl, rfl, rfl, hS28, (SkQ.st rp15 hW0 ta0 g23 (by decide +kernel) (by decide +kernel)), trivial⟩
  · skip
    refine tr_aload_n dX10_vein_12 rfl ?_
    refine q_iconst dX10_vein_13 (by decide) ?_
    intro v31 h32
    refine q_callVi hE (M' := mX10_refused) (as := [_]) dX10_vein_14 lk10_79 inX10_refused seX10_refused myX10_refused (by decide) ⟨by decide, by decide⟩ rfl (kR1 hS16.1 ta0) (Nat.le_of_ble_eq_true rfl) rfl rfl (by decide) (by decide) (fk_X10_refused hS16.1  ta0) ?_
    rintro v38 cn' K' N' I33 R34 L35 ⟨rfl, rfl, rfl, rfl, rfl, g36, p39, p40, -⟩
    have hS41 := hS16.tr g36 (by decide +kernel) (by decide +kernel)
    obtain ⟨v42, c43⟩ : ∃ v, I33 a0 17 = v := ⟨_, rfl⟩
    rw [c43] at p40
    refine tr_goto 25 dX10_vein_17 (by decide) ?_
    exact tr_iret hZ dX10_vein_25 rfl (by decide) (by decide) ⟨v38, rfl, rfl, rfl, rfl, rfl, hS41, (SkQ.st rp15 hW0 ta0 g36 (by decide +kernel) (by decide +kernel)), trivial⟩
def wik_X10_cause : List Nat := [73, 75, 81, 768, 769, 778, 834, 2303, 2367, 2431, 2495, 2559, 2623, 2687, 2751, 2815, 2879, 2943, 3007, 3071, 3135, 3199, 3263, 3327, 3391]
def wrk_X10_cause : List Nat := [832, 833]
set_option maxHeartbeats 4000000 in
theorem fk_X10_cause {l : Launch} {T : Nat → Nat} {cn : Nat} {K N : Nat → Nat} {I0 : cz_I} {R0 : cz_R} {L0 : cz_L} {d : Int} (hW0 : Wf T cn K N I0 R0 d) (gX : Nat → Nat → Int) {a0 : Nat} (ta0 : T a0 = 1) {x1 : Int32} {x2 : Int32} (hX : EvQ I0 R0 a0 gX) (hK : SkQ I0 R0 a0 gX) (hD : DjS R0 a0) : ConE l mX10_cause [.ref a0, .int x1, .int x2] cn K N I0 R0 L0 (ca_i (fun v cn' K' N' I' R' L' => cn = cn' ∧ K = K' ∧ N = N' ∧ L0 = L' ∧ St T cn K N d wik_X10_cause wrk_X10_cause I0 R0 I' R' ∧ (SkQ I' R0 a0 gX) ∧ True)) := by
  refine ConE.of (by decide +kernel) rfl (Nat.le_of_ble_eq_true rfl) rfl (fun X hX hZ hE => ?_)
  subst hX
  have hS0 : St T cn K N d wik_X10_cause wrk_X10_cause I0 R0 I0 R0 := St.rf0 hW0
  obtain ⟨a1, d2, ta1⟩ := rf1_2 hW0 ta0
  obtain ⟨a3, d4, ta3⟩ := rf1_6 hW0 ta0
  obtain ⟨a5, d6, ta5⟩ := rf1_8 hW0 ta0
  obtain ⟨a7, d8, ta7⟩ := rf1_13 hW0 ta0
  refine tr_aload_n dX10_cause_0 rfl ?_
  refine tr_iload_n dX10_cause_1 rfl ?_
  refine tr_iload_n dX10_cause_2 rfl ?_
  refine q_callVi hE (M' := mX10_veinMinute) (as := [_, _]) dX10_cause_3 lk10_222 inX10_veinMinute seX10_veinMinute myX10_veinMinute (by decide) ⟨by decide, by decide⟩ rfl (kR1 hS0.1 ta0) (Nat.le_of_ble_eq_true rfl) rfl rfl (by decide) (by decide) (fk_X10_veinMinute hS0.1 (gX) ta0 hX hK hD) ?_
  rintro v14 cn' K' N' I9 R10 L11 ⟨rfl, rfl, rfl, rfl, g12, rp15, -⟩
  have hS16 := hS0.tr g12 (by decide +kernel) (by decide +kernel)
  refine tr_istore_n dX10_cause_6 (by decide) (by decide) ?_
  refine tr_iload_n dX10_cause_7 rfl ?_
  refine q_iconst dX10_cause_8 (by decide) ?_
  intro v17 h18
  refine q_icmp_ne 18 dX10_cause_9 (by decide) (fun h19 => ?_) (fun h19 => ?_)
  · skip
    refine q_iconst dX10_cause_18 (by decide) ?_
    intro v20 h21
    refine tr_istore dX10_cause_19 (by decide) (by decide) ?_
    have lp33 : ∀ (fu : Nat) (ls : Nat → Option Value) (v22 : Int32) (I28 : cz_I) (R29 : cz_R), ls 0 = some (.ref a0) → ls 1 = some (.int x1) → ls 2 = some (.int x2) → ls 3 = some (.int v14) → ls 4 = some (.int v22) → St T cn K N d wik_X10_cause wrk_X10_cause I0 R0 I28 R29 → 0 ≤ v22.toInt → (SkQ I28 R0 a0 gX) → (-v22.toInt + 2147483647).toNat < fu → Tr X mX10_cause 21 ls [] cn K N I28 R29 L0 0 0 := by
      intro fu
      induction fu with
      | zero => intros; rename_i hz; exact absurd hz (Nat.not_lt_zero _)
      | succ fu ih33 =>
        intro ls v22 I28 R29 hl23 hl24 hl25 hl26 hl27 hS30 g31 rw32 hm33
        refine tr_iload dX10_cause_21 hl27 ?_
        refine tr_aload_n dX10_cause_23 hl23 ?_
        obtain ⟨v35, c36⟩ : ∃ v, I0 a1 3 = v := ⟨_, rfl⟩
        have b37 := iv2_3 hW0 ta1 c36
        obtain ⟨v38, c39⟩ : ∃ v, I0 a3 2 = v := ⟨_, rfl⟩
        have b40 := iv8_2 hW0 ta3 c39
        refine q_callVi hE (M' := mX10_eventCount) (as := []) dX10_cause_24 lk10_225 inX10_eventCount seX10_eventCount myX10_eventCount (by decide) ⟨by decide, by decide⟩ rfl (kR1 hS30.1 ta0) (Nat.le_of_ble_eq_true rfl) rfl rfl (by decide) (by decide) (k_X10_eventCount hS30.1 ta0) ?_
        rintro v45 cn' K' N' I41 R42 L43 ⟨rfl, rfl, rfl, rfl, rfl, rfl, h46, p47, -⟩
        have p48 := p47 _ ((hS30.rcell ta0 (by decide +kernel)).trans d2) _ ((hS30.rcell ta0 (by decide +kernel)).trans d4)
        clear p47
        rw [((hS30.cell ta1 (by decide +kernel)).trans c36)] at p48
        rw [((hS30.cell ta3 (by decide +kernel)).trans c39)] at p48
        refine q_icmp_ge 63 dX10_cause_27 (by decide) (fun h49 => ?_) (fun h49 => ?_)
        · skip
          refine tr_aload_n dX10_cause_63 hl23 ?_
          refine q_bipush dX10_cause_64 (by decide +kernel) ?_
          intro v50 h51
          refine q_callVi hE (M' := mX10_answered) (as := [_]) dX10_cause_66 lk10_109 inX10_answered seX10_answered myX10_answered (by decide) ⟨by decide, by decide⟩ rfl (kR1 hS30.1 ta0) (Nat.le_of_ble_eq_true rfl) rfl rfl (by decide) (by decide) (fk_X10_answered hS30.1  ta0) ?_
          rintro v57 cn' K' N' I52 R53 L54 ⟨rfl, rfl, rfl, rfl, rfl, g55, p58, p59, -⟩
          have hS60 := hS30.tr g55 (by decide +kernel) (by decide +kernel)
          obtain ⟨v61, c62⟩ : ∃ v, I52 a0 17 = v := ⟨_, rfl⟩
          rw [c62] at p59
          exact tr_iret hZ dX10_cause_69 rfl (by decide) (by decide) ⟨v57, rfl, rfl, rfl, rfl, rfl, hS60, (SkQ.st rw32 hW0 ta0 g55 (by decide +kernel) (by decide +kernel)), trivial⟩
        · skip
          refine tr_aload_n dX10_cause_30 hl23 ?_
          refine tr_iload dX10_cause_31 hl27 ?_
          refine q_callVi hE (M' := mX10_eventFrom) (as := [_]) dX10_cause_33 lk10_228 inX10_eventFrom seX10_eventFrom myX10_eventFrom (by decide) ⟨by decide, by decide⟩ rfl (kR1 hS30.1 ta0) (Nat.le_of_ble_eq_true rfl) rfl rfl (by decide) (by decide) (k_X10_eventFrom hS30.1 ta0 (by exact om_2cfcd5a5 g31) (fun q0 z0 => fun q1 z1 => by obtain rfl := Option.some.inj ((((hS30.rcell ta0 (by decide +kernel)).trans d2)).symm.trans z0); obtain rfl := Option.some.inj ((((hS30.rcell ta0 (by decide +kernel)).trans d4)).symm.trans z1); (try rw [((hS30.cell ta1 (by decide +kernel)).trans c36)]); (try rw [((hS30.cell ta3 (by decide +kernel)).trans c39)]); (try exact om_af2a18fa p48 h49))) ?_
          rintro v67 cn' K' N' I63 R64 L65 ⟨rfl, rfl, rfl, rfl, rfl, rfl, -⟩
          refine tr_iload_n dX10_cause_36 hl26 ?_
          refine q_icmp_eq 50 dX10_cause_37 (by decide) (fun h68 => ?_) (fun h68 => ?_)
          · skip
            refine tr_aload_n dX10_cause_50 hl23 ?_
            refine tr_iload dX10_cause_51 hl27 ?_
            refine q_callVi hE (M' := mX10_answered) (as := [_]) dX10_cause_53 lk10_109 inX10_answered seX10_answered myX10_answered (by decide) ⟨by decide, by decide⟩ rfl (kR1 hS30.1 ta0) (Nat.le_of_ble_eq_true rfl) rfl rfl (by decide) (by decide) (fk_X10_answered hS30.1  ta0) ?_
            rintro v74 cn' K' N' I69 R70 L71 ⟨rfl, rfl, rfl, rfl, rfl, g72, p75, p76, -⟩
            have hS77 := hS30.tr g72 (by decide +kernel) (by decide +kernel)
            obtain ⟨v78, c79⟩ : ∃ v, I69 a0 17 = v := ⟨_, rfl⟩
            rw [c79] at p76
            exact tr_iret hZ dX10_cause_56 rfl (by decide) (by decide) ⟨v74, rfl, rfl, rfl, rfl, rfl, hS77, (SkQ.st rw32 hW0 ta0 g72 (by decide +kernel) (by decide +kernel)), trivial⟩
          · skip
            refine tr_aload_n dX10_cause_40 hl23 ?_
            refine tr_iload dX10_cause_41 hl27 ?_
            refine q_callVi hE (M' := mX10_eventTo) (as := [_]) dX10_cause_43 lk10_231 inX10_eventTo seX10_eventTo myX10_eventTo (by decide) ⟨by decide, by decide⟩ rfl (kR1 hS30.1 ta0) (Nat.le_of_ble_eq_true rfl) rfl rfl (by decide) (by decide) (k_X10_eventTo hS30.1 ta0 (by exact om_2cfcd5a5 g31) (fun q0 z0 => fun q1 z1 => by obtain rfl := Option.some.inj ((((hS30.rcell ta0 (by decide +kernel)).trans d2)).symm.trans z0); obtain rfl := Option.some.inj ((((hS30.rcell ta0 (by decide +kernel)).trans d4)).symm.trans z1); (try rw [((hS30.cell ta1 (by decide +kernel)).trans c36)]); (try rw [((hS30.cell ta3 (by decide +kernel)).trans c39)]); (try exact om_af2a18fa p48 h49))) ?_
            rintro v84 cn' K' N' I80 R81 L82 ⟨rfl, rfl, rfl, rfl, rfl, rfl, -⟩
            refine tr_iload_n dX10_cause_46 hl26 ?_
            refine q_icmp_ne 57 dX10_cause_47 (by decide) (fun h85 => ?_) (fun h85 => ?_)
            · skip
              refine q_iincE dX10_cause_57 hl27 (by decide) (by decide) (by intro j1 j2; exact om_8a01fdcf g31 h46.2 h46.1 h49 j2) ?_
              intro v86 h87
              refine tr_goto 21 dX10_cause_60 (by decide) ?_
              exact ih33 _ v86 I28 R29 hl23 hl24 hl25 hl26 rfl hS30 (by exact om_68881c41 g31 h87) rw32 (by exact om_43ba554c g31 hm33 h46.2 h46.1 h49 h68 h85 h87)
            · skip
              refine tr_aload_n dX10_cause_50 hl23 ?_
              refine tr_iload dX10_cause_51 hl27 ?_
              refine q_callVi hE (M' := mX10_answered) (as := [_]) dX10_cause_53 lk10_109 inX10_answered seX10_answered myX10_answered (by decide) ⟨by decide, by decide⟩ rfl (kR1 hS30.1 ta0) (Nat.le_of_ble_eq_true rfl) rfl rfl (by decide) (by decide) (fk_X10_answered hS30.1  ta0) ?_
              rintro v93 cn' K' N' I88 R89 L90 ⟨rfl, rfl, rfl, rfl, rfl, g91, p94, p95, -⟩
              have hS96 := hS30.tr g91 (by decide +kernel) (by decide +kernel)
              obtain ⟨v97, c98⟩ : ∃ v, I88 a0 17 = v := ⟨_, rfl⟩
              rw [c98] at p95
              exact tr_iret hZ dX10_cause_56 rfl (by decide) (by decide) ⟨v93, rfl, rfl, rfl, rfl, rfl, hS96, (SkQ.st rw32 hW0 ta0 g91 (by decide +kernel) (by decide +kernel)), trivial⟩
    exact lp33 _ _ v20 I9 R10 rfl rfl rfl rfl rfl hS16 (by exact om_d99fa9e4 h21) rp15 (Nat.lt_succ_self _)
  · skip
    refine tr_aload_n dX10_cause_12 rfl ?_
    refine q_iconst dX10_cause_13 (by decide) ?_
    intro v99 h100
    refine q_callVi hE (M' := mX10_refused) (as := [_]) dX10_cause_14 lk10_79 inX10_refused seX10_refused myX10_refused (by decide) ⟨by decide, by decide⟩ rfl (kR1 hS16.1 ta0) (Nat.le_of_ble_eq_true rfl) rfl rfl (by decide) (by decide) (fk_X10_refused hS16.1  ta0) ?_
    rintro v106 cn' K' N' I101 R102 L103 ⟨rfl, rfl, rfl, rfl, rfl, g104, p107, p108, -⟩
    have hS109 := hS16.tr g104 (by decide +kernel) (by decide +kernel)
    obtain ⟨v110, c111⟩ : ∃ v, I101 a0 17 = v := ⟨_, rfl⟩
    rw [c111] at p108
    exact tr_iret hZ dX10_cause_17 rfl (by decide) (by decide) ⟨v106, rfl, rfl, rfl, rfl, rfl, hS109, (SkQ.st rp15 hW0 ta0 g104 (by decide +kernel) (by decide +kernel)), trivial⟩
def wik_X10_total : List Nat := [73, 75, 81, 768, 769, 778, 834, 2303, 2367, 2431, 2495, 2559, 2623, 2687, 2751, 2815, 2879, 2943, 3007, 3071, 3135, 3199, 3263, 3327, 3391]
def wrk_X10_total : List Nat := [832, 833]
set_option maxHeartbeats 4000000 in
theorem fk_X10_total {l : Launch} {T : Nat → Nat} {cn : Nat} {K N : Nat → Nat} {I0 : cz_I} {R0 : cz_R} {L0 : cz_L} {d : Int} (hW0 : Wf T cn K N I0 R0 d) (gX : Nat → Nat → Int) {a0 : Nat} (ta0 : T a0 = 1) (hX : EvQ I0 R0 a0 gX) (hK : SkQ I0 R0 a0 gX) (hD : DjS R0 a0) : ConE l mX10_total [.ref a0] cn K N I0 R0 L0 (ca_i (fun v cn' K' N' I' R' L' => cn = cn' ∧ K = K' ∧ N = N' ∧ L0 = L' ∧ St T cn K N d wik_X10_total wrk_X10_total I0 R0 I' R' ∧ (SkQ I' R0 a0 gX) ∧ True)) := by
  refine ConE.of (by decide +kernel) rfl (Nat.le_of_ble_eq_true rfl) rfl (fun X hX hZ hE => ?_)
  subst hX
  have hS0 : St T cn K N d wik_X10_total wrk_X10_total I0 R0 I0 R0 := St.rf0 hW0
  obtain ⟨a1, d2, ta1⟩ := rf1_2 hW0 ta0
  obtain ⟨a3, d4, ta3⟩ := rf1_6 hW0 ta0
  obtain ⟨a5, d6, ta5⟩ := rf1_8 hW0 ta0
  obtain ⟨a7, d8, ta7⟩ := rf1_13 hW0 ta0
  refine tr_aload_n dX10_total_0 rfl ?_
  obtain ⟨v9, c10⟩ : ∃ v, I0 a0 5 = v := ⟨_, rfl⟩
  have b11 := iv1_5 hW0 ta0 c10
  refine q_getZ dX10_total_1 fl10_95 (kR1 hS0.1 ta0) c10 ?_
  refine q_if_eq 21 dX10_total_4 (by decide) (fun h12 => ?_) (fun h12 => ?_)
  · skip
    refine tr_aload_n dX10_total_21 rfl ?_
    refine q_iconst dX10_total_22 (by decide) ?_
    intro v13 h14
    refine q_callVi hE (M' := mX10_refusedTotal) (as := [_]) dX10_total_23 lk10_178 inX10_refusedTotal seX10_refusedTotal myX10_refusedTotal (by decide) ⟨by decide, by decide⟩ rfl (kR1 hS0.1 ta0) (Nat.le_of_ble_eq_true rfl) rfl rfl (by decide) (by decide) (k_X10_refusedTotal hS0.1 ta0) ?_
    rintro v19 cn' K' N' I15 R16 L17 ⟨rfl, rfl, rfl, rfl, rfl, g18, -⟩
    have hS20 := hS0.tr g18 (by decide +kernel) (by decide +kernel)
    exact tr_iret hZ dX10_total_26 rfl (by decide) (by decide) ⟨v19, rfl, rfl, rfl, rfl, rfl, hS20, (SkQ.st hK hW0 ta0 g18 (by decide +kernel) (by decide +kernel)), trivial⟩
  · skip
    refine tr_aload_n dX10_total_7 rfl ?_
    refine tr_aload_n dX10_total_8 rfl ?_
    refine q_callVr hE (M' := mX10_presentNight) (as := []) dX10_total_9 lk10_155 inX10_presentNight seX10_presentNight myX10_presentNight (by decide) ⟨by decide, by decide⟩ rfl (kR1 hS0.1 ta0) (Nat.le_of_ble_eq_true rfl) rfl rfl (by decide) (by decide) (fk_X10_presentNight hS0.1 (gX) ta0 hX hK hD) ?_
    rintro a26 cn' K' N' I21 R22 L23 ⟨rfl, rfl, rfl, rfl, g24, ta26, rp27, -⟩
    have hS28 := hS0.tr g24 (by decide +kernel) (by decide +kernel)
    refine q_callVi hE (M' := mX5_sum) (as := []) dX10_total_12 lk10_192 inX5_sum seX5_sum myX5_sum (by decide) ⟨by decide, by decide⟩ rfl (kR13 hS28.1 ta26) (Nat.le_of_ble_eq_true rfl) rfl rfl (by decide) (by decide) (k_X5_sum hS28.1 ta26) ?_
    rintro v33 cn' K' N' I29 R30 L31 ⟨rfl, rfl, rfl, rfl, rfl, rfl, -⟩
    refine q_callVi hE (M' := mX10_answered) (as := [_]) dX10_total_15 lk10_109 inX10_answered seX10_answered myX10_answered (by decide) ⟨by decide, by decide⟩ rfl (kR1 hS28.1 ta0) (Nat.le_of_ble_eq_true rfl) rfl rfl (by decide) (by decide) (fk_X10_answered hS28.1  ta0) ?_
    rintro v39 cn' K' N' I34 R35 L36 ⟨rfl, rfl, rfl, rfl, rfl, g37, p40, p41, -⟩
    have hS42 := hS28.tr g37 (by decide +kernel) (by decide +kernel)
    obtain ⟨v43, c44⟩ : ∃ v, I34 a0 17 = v := ⟨_, rfl⟩
    rw [c44] at p41
    refine tr_goto 26 dX10_total_18 (by decide) ?_
    exact tr_iret hZ dX10_total_26 rfl (by decide) (by decide) ⟨v39, rfl, rfl, rfl, rfl, rfl, hS42, (SkQ.st rp27 hW0 ta0 g37 (by decide +kernel) (by decide +kernel)), trivial⟩
def wik_X10_without : List Nat := [73, 75, 81, 768, 769, 778, 834, 2303, 2367, 2431, 2495, 2559, 2623, 2687, 2751, 2815, 2879, 2943, 3007, 3071, 3135, 3199, 3263, 3327, 3391]
def wrk_X10_without : List Nat := [832, 833]
set_option maxHeartbeats 4000000 in
theorem fk_X10_without {l : Launch} {T : Nat → Nat} {cn : Nat} {K N : Nat → Nat} {I0 : cz_I} {R0 : cz_R} {L0 : cz_L} {d : Int} (hW0 : Wf T cn K N I0 R0 d) (gX : Nat → Nat → Int) {a0 : Nat} (ta0 : T a0 = 1) {x1 : Int32} (hX : EvQ I0 R0 a0 gX) (hK : SkQ I0 R0 a0 gX) (hD : DjS R0 a0) : ConE l mX10_without [.ref a0, .int x1] cn K N I0 R0 L0 (ca_i (fun v cn' K' N' I' R' L' => cn = cn' ∧ K = K' ∧ N = N' ∧ L0 = L' ∧ St T cn K N d wik_X10_without wrk_X10_without I0 R0 I' R' ∧ (SkQ I' R0 a0 gX) ∧ True)) := by
  refine ConE.of (by decide +kernel) rfl (Nat.le_of_ble_eq_true rfl) rfl (fun X hX hZ hE => ?_)
  subst hX
  have hS0 : St T cn K N d wik_X10_without wrk_X10_without I0 R0 I0 R0 := St.rf0 hW0
  obtain ⟨a1, d2, ta1⟩ := rf1_2 hW0 ta0
  obtain ⟨a3, d4, ta3⟩ := rf1_6 hW0 ta0
  obtain ⟨a5, d6, ta5⟩ := rf1_8 hW0 ta0
  obtain ⟨a7, d8, ta7⟩ := rf1_13 hW0 ta0
  refine tr_aload_n dX10_without_0 rfl ?_
  refine tr_iload_n dX10_without_1 rfl ?_
  obtain ⟨v9, c10⟩ : ∃ v, I0 a1 3 = v := ⟨_, rfl⟩
  have b11 := iv2_3 hW0 ta1 c10
  obtain ⟨v12, c13⟩ : ∃ v, I0 a3 2 = v := ⟨_, rfl⟩
  have b14 := iv8_2 hW0 ta3 c13
  refine q_callVi hE (M' := mX10_isEvent) (as := [_]) dX10_without_2 lk10_234 inX10_isEvent seX10_isEvent myX10_isEvent (by decide) ⟨by decide, by decide⟩ rfl (kR1 hS0.1 ta0) (Nat.le_of_ble_eq_true rfl) rfl rfl (by decide) (by decide) (k_X10_isEvent hS0.1 ta0) ?_
  rintro v19 cn' K' N' I15 R16 L17 ⟨rfl, rfl, rfl, rfl, rfl, rfl, h20, p21, -⟩
  have p22 := p21 _ d2 _ d4
  clear p21
  rw [c10] at p22
  rw [c13] at p22
  refine q_if_ne 14 dX10_without_5 (by decide) (fun h23 => ?_) (fun h23 => ?_)
  · skip
    refine tr_aload_n dX10_without_14 rfl ?_
    refine tr_getR dX10_without_15 fl10_65 (kR1 hS0.1 ta0) d8 ?_
    refine tr_aload_n dX10_without_18 rfl ?_
    refine tr_getR dX10_without_19 fl10_16 (kR1 hS0.1 ta0) d2 ?_
    refine tr_aload_n dX10_without_22 rfl ?_
    refine tr_getR dX10_without_23 fl10_35 (kR1 hS0.1 ta0) d4 ?_
    refine tr_iload_n dX10_without_26 rfl ?_
    refine q_callVv hE (M' := mX8_build) (as := [_, _, _]) dX10_without_27 lk10_237 inX8_build seX8_build myX8_build (by decide) ⟨by decide, by decide⟩ rfl (kR12 hS0.1 ta7) (Nat.le_of_ble_eq_true rfl) rfl rfl (by decide) (by decide) (fk_X8_build hS0.1 (gX) ta7 ta1 ta3 (hX _ _ d2 d4)) ?_
    rintro cn' K' N' I24 R25 L26 ⟨rfl, rfl, rfl, rfl, rfl, g27, rp30, rp31, -⟩
    have hS32 := hS0.tr g27 (by decide +kernel) (by decide +kernel)
    refine tr_aload_n dX10_without_30 rfl ?_
    obtain ⟨a33, d34, ta33⟩ := rf1_14 hW0 ta0
    refine tr_getR dX10_without_31 fl10_68 (kR1 hS32.1 ta0) d34 ?_
    refine tr_aload_n dX10_without_34 rfl ?_
    refine tr_getR dX10_without_35 fl10_16 (kR1 hS32.1 ta0) d2 ?_
    refine tr_aload_n dX10_without_38 rfl ?_
    refine tr_getR dX10_without_39 fl10_65 (kR1 hS32.1 ta0) d8 ?_
    refine tr_aload_n dX10_without_42 rfl ?_
    refine tr_getR dX10_without_43 fl10_35 (kR1 hS32.1 ta0) d4 ?_
    obtain ⟨v35, c36⟩ : ∃ v, I0 a3 0 = v := ⟨_, rfl⟩
    refine q_getI dX10_without_46 fl10_181 (kR8 hS32.1 ta3) ((hS32.cell ta3 (by decide +kernel)).trans c36) ?_
    refine tr_aload_n dX10_without_49 rfl ?_
    refine q_callVi hE (M' := mX10_allTurners) (as := []) dX10_without_50 lk10_184 inX10_allTurners seX10_allTurners myX10_allTurners (by decide) ⟨by decide, by decide⟩ rfl (kR1 hS32.1 ta0) (Nat.le_of_ble_eq_true rfl) rfl rfl (by decide) (by decide) (k_X10_allTurners hS32.1 ta0) ?_
    rintro v41 cn' K' N' I37 R38 L39 ⟨rfl, rfl, rfl, rfl, rfl, rfl, h42, -⟩
    refine q_callVv hE (M' := mX5_play) (as := [_, _, _, _]) dX10_without_53 lk10_188 inX5_play seX5_play myX5_play (by decide) ⟨by decide, by decide⟩ rfl (kR13 hS32.1 ta33) (Nat.le_of_ble_eq_true rfl) rfl rfl (by decide) (by decide) (k_X5_play hS32.1 ta33 ta1 ta7) ?_
    rintro cn' K' N' I43 R44 L45 ⟨rfl, rfl, rfl, rfl, g46, -⟩
    have hS48 := hS32.tr g46 (by decide +kernel) (by decide +kernel)
    refine tr_aload_n dX10_without_56 rfl ?_
    refine tr_aload_n dX10_without_57 rfl ?_
    refine tr_getR dX10_without_58 fl10_68 (kR1 hS48.1 ta0) ((hS48.rcell ta0 (by decide +kernel)).trans d34) ?_
    refine q_callVi hE (M' := mX5_sum) (as := []) dX10_without_61 lk10_192 inX5_sum seX5_sum myX5_sum (by decide) ⟨by decide, by decide⟩ rfl (kR13 hS48.1 ta33) (Nat.le_of_ble_eq_true rfl) rfl rfl (by decide) (by decide) (k_X5_sum hS48.1 ta33) ?_
    rintro v53 cn' K' N' I49 R50 L51 ⟨rfl, rfl, rfl, rfl, rfl, rfl, -⟩
    refine tr_aload_n dX10_without_64 rfl ?_
    refine q_callVr hE (M' := mX10_presentNight) (as := []) dX10_without_65 lk10_155 inX10_presentNight seX10_presentNight myX10_presentNight (by decide) ⟨by decide, by decide⟩ rfl (kR1 hS48.1 ta0) (Nat.le_of_ble_eq_true rfl) rfl rfl (by decide) (by decide) (fk_X10_presentNight hS48.1 (gX) ta0 (EvQ.rc (EvQ.st hX hW0 ta0 hS48 (by decide +kernel)) hW0 ta0 (R13 hS48 (by decide +kernel))) (SkQ.rc (SkQ.st (SkQ.fs hK hW0 ta0 g27 hD d8 rp31 (by decide +kernel) (by decide +kernel)) hW0 ta0 g46 (by decide +kernel) (by decide +kernel)) hW0 ta0 (R13 hS48 (by decide +kernel))) (DjS.rc hD hW0 ta0 (R13 hS48 (by decide +kernel)))) ?_
    rintro a59 cn' K' N' I54 R55 L56 ⟨rfl, rfl, rfl, rfl, g57, ta59, rp60, -⟩
    have hS61 := hS48.tr g57 (by decide +kernel) (by decide +kernel)
    refine q_callVi hE (M' := mX5_sum) (as := []) dX10_without_68 lk10_192 inX5_sum seX5_sum myX5_sum (by decide) ⟨by decide, by decide⟩ rfl (kR13 hS61.1 ta59) (Nat.le_of_ble_eq_true rfl) rfl rfl (by decide) (by decide) (k_X5_sum hS61.1 ta59) ?_
    rintro v66 cn' K' N' I62 R63 L64 ⟨rfl, rfl, rfl, rfl, rfl, rfl, -⟩
    refine q_isub dX10_without_71 ?_
    intro v67
    refine q_callVi hE (M' := mX10_answered) (as := [_]) dX10_without_72 lk10_109 inX10_answered seX10_answered myX10_answered (by decide) ⟨by decide, by decide⟩ rfl (kR1 hS61.1 ta0) (Nat.le_of_ble_eq_true rfl) rfl rfl (by decide) (by decide) (fk_X10_answered hS61.1  ta0) ?_
    rintro v73 cn' K' N' I68 R69 L70 ⟨rfl, rfl, rfl, rfl, rfl, g71, p74, p75, -⟩
    have hS76 := hS61.tr g71 (by decide +kernel) (by decide +kernel)
    obtain ⟨v77, c78⟩ : ∃ v, I68 a0 17 = v := ⟨_, rfl⟩
    rw [c78] at p75
    exact tr_iret hZ dX10_without_75 rfl (by decide) (by decide) ⟨v73, rfl, rfl, rfl, rfl, rfl, hS76, (SkQ.st (SkQ.rc rp60 hS48.1 ta0 (fun a j q => (R13 hS48 (by decide +kernel) a j q).symm)) hW0 ta0 g71 (by decide +kernel) (by decide +kernel)), trivial⟩
  · skip
    refine tr_aload_n dX10_without_8 rfl ?_
    refine q_iconst dX10_without_9 (by decide) ?_
    intro v79 h80
    refine q_callVi hE (M' := mX10_refusedTotal) (as := [_]) dX10_without_10 lk10_178 inX10_refusedTotal seX10_refusedTotal myX10_refusedTotal (by decide) ⟨by decide, by decide⟩ rfl (kR1 hS0.1 ta0) (Nat.le_of_ble_eq_true rfl) rfl rfl (by decide) (by decide) (k_X10_refusedTotal hS0.1 ta0) ?_
    rintro v85 cn' K' N' I81 R82 L83 ⟨rfl, rfl, rfl, rfl, rfl, g84, -⟩
    have hS86 := hS0.tr g84 (by decide +kernel) (by decide +kernel)
    exact tr_iret hZ dX10_without_13 rfl (by decide) (by decide) ⟨v85, rfl, rfl, rfl, rfl, rfl, hS86, (SkQ.st hK hW0 ta0 g84 (by decide +kernel) (by decide +kernel)), trivial⟩
def wik_X10_wake : List Nat := [73, 81, 768, 769, 778, 834, 2303, 2367, 2431, 2495, 2559, 2623, 2687, 2751, 2815, 2879, 2943, 3007, 3071, 3135, 3199, 3263, 3327, 3391]
def wrk_X10_wake : List Nat := [832, 833]
set_option maxHeartbeats 4000000 in
theorem fk_X10_wake {l : Launch} {T : Nat → Nat} {cn : Nat} {K N : Nat → Nat} {I0 : cz_I} {R0 : cz_R} {L0 : cz_L} {d : Int} (hW0 : Wf T cn K N I0 R0 d) (gX : Nat → Nat → Int) {a0 : Nat} (ta0 : T a0 = 1) (hX : EvQ I0 R0 a0 gX) (hK : SkQ I0 R0 a0 gX) (hD : DjS R0 a0) : ConE l mX10_wake [.ref a0] cn K N I0 R0 L0 (ca_i (fun v cn' K' N' I' R' L' => cn = cn' ∧ K = K' ∧ N = N' ∧ L0 = L' ∧ St T cn K N d wik_X10_wake wrk_X10_wake I0 R0 I' R' ∧ (SkQ I' R0 a0 gX) ∧ True)) := by
  refine ConE.of (by decide +kernel) rfl (Nat.le_of_ble_eq_true rfl) rfl (fun X hX hZ hE => ?_)
  subst hX
  have hS0 : St T cn K N d wik_X10_wake wrk_X10_wake I0 R0 I0 R0 := St.rf0 hW0
  obtain ⟨a1, d2, ta1⟩ := rf1_2 hW0 ta0
  obtain ⟨a3, d4, ta3⟩ := rf1_6 hW0 ta0
  obtain ⟨a5, d6, ta5⟩ := rf1_8 hW0 ta0
  obtain ⟨a7, d8, ta7⟩ := rf1_13 hW0 ta0
  refine tr_aload_n dX10_wake_0 rfl ?_
  obtain ⟨v9, c10⟩ : ∃ v, I0 a0 5 = v := ⟨_, rfl⟩
  have b11 := iv1_5 hW0 ta0 c10
  refine q_getZ dX10_wake_1 fl10_95 (kR1 hS0.1 ta0) c10 ?_
  refine q_if_eq 18 dX10_wake_4 (by decide) (fun h12 => ?_) (fun h12 => ?_)
  · skip
    refine tr_aload_n dX10_wake_18 rfl ?_
    refine q_iconst dX10_wake_19 (by decide) ?_
    intro v13 h14
    refine q_callVi hE (M' := mX10_refused) (as := [_]) dX10_wake_20 lk10_79 inX10_refused seX10_refused myX10_refused (by decide) ⟨by decide, by decide⟩ rfl (kR1 hS0.1 ta0) (Nat.le_of_ble_eq_true rfl) rfl rfl (by decide) (by decide) (fk_X10_refused hS0.1  ta0) ?_
    rintro v20 cn' K' N' I15 R16 L17 ⟨rfl, rfl, rfl, rfl, rfl, g18, p21, p22, -⟩
    have hS23 := hS0.tr g18 (by decide +kernel) (by decide +kernel)
    obtain ⟨v24, c25⟩ : ∃ v, I15 a0 17 = v := ⟨_, rfl⟩
    rw [c25] at p22
    exact tr_iret hZ dX10_wake_23 rfl (by decide) (by decide) ⟨v20, rfl, rfl, rfl, rfl, rfl, hS23, (SkQ.st hK hW0 ta0 g18 (by decide +kernel) (by decide +kernel)), trivial⟩
  · skip
    refine tr_aload_n dX10_wake_7 rfl ?_
    refine tr_aload_n dX10_wake_8 rfl ?_
    refine q_callVi hE (M' := mX10_bestCalls) (as := []) dX10_wake_9 lk10_241 inX10_bestCalls seX10_bestCalls myX10_bestCalls (by decide) ⟨by decide, by decide⟩ rfl (kR1 hS0.1 ta0) (Nat.le_of_ble_eq_true rfl) rfl rfl (by decide) (by decide) (fk_X10_bestCalls hS0.1 (gX) ta0 hX hK hD) ?_
    rintro v31 cn' K' N' I26 R27 L28 ⟨rfl, rfl, rfl, rfl, g29, rp32, -⟩
    have hS33 := hS0.tr g29 (by decide +kernel) (by decide +kernel)
    refine q_callVi hE (M' := mX10_answered) (as := [_]) dX10_wake_12 lk10_109 inX10_answered seX10_answered myX10_answered (by decide) ⟨by decide, by decide⟩ rfl (kR1 hS33.1 ta0) (Nat.le_of_ble_eq_true rfl) rfl rfl (by decide) (by decide) (fk_X10_answered hS33.1  ta0) ?_
    rintro v39 cn' K' N' I34 R35 L36 ⟨rfl, rfl, rfl, rfl, rfl, g37, p40, p41, -⟩
    have hS42 := hS33.tr g37 (by decide +kernel) (by decide +kernel)
    obtain ⟨v43, c44⟩ : ∃ v, I34 a0 17 = v := ⟨_, rfl⟩
    rw [c44] at p41
    refine tr_goto 23 dX10_wake_15 (by decide) ?_
    exact tr_iret hZ dX10_wake_23 rfl (by decide) (by decide) ⟨v39, rfl, rfl, rfl, rfl, rfl, hS42, (SkQ.st rp32 hW0 ta0 g37 (by decide +kernel) (by decide +kernel)), trivial⟩
def wik_X10_wakeTotal : List Nat := [73, 81, 768, 769, 778, 834, 2303, 2367, 2431, 2495, 2559, 2623, 2687, 2751, 2815, 2879, 2943, 3007, 3071, 3135, 3199, 3263, 3327, 3391]
def wrk_X10_wakeTotal : List Nat := [832, 833]
set_option maxHeartbeats 4000000 in
theorem fk_X10_wakeTotal {l : Launch} {T : Nat → Nat} {cn : Nat} {K N : Nat → Nat} {I0 : cz_I} {R0 : cz_R} {L0 : cz_L} {d : Int} (hW0 : Wf T cn K N I0 R0 d) (gX : Nat → Nat → Int) {a0 : Nat} (ta0 : T a0 = 1) (hX : EvQ I0 R0 a0 gX) (hK : SkQ I0 R0 a0 gX) (hD : DjS R0 a0) : ConE l mX10_wakeTotal [.ref a0] cn K N I0 R0 L0 (ca_i (fun v cn' K' N' I' R' L' => cn = cn' ∧ K = K' ∧ N = N' ∧ L0 = L' ∧ St T cn K N d wik_X10_wakeTotal wrk_X10_wakeTotal I0 R0 I' R' ∧ (SkQ I' R0 a0 gX) ∧ True)) := by
  refine ConE.of (by decide +kernel) rfl (Nat.le_of_ble_eq_true rfl) rfl (fun X hX hZ hE => ?_)
  subst hX
  have hS0 : St T cn K N d wik_X10_wakeTotal wrk_X10_wakeTotal I0 R0 I0 R0 := St.rf0 hW0
  obtain ⟨a1, d2, ta1⟩ := rf1_2 hW0 ta0
  obtain ⟨a3, d4, ta3⟩ := rf1_6 hW0 ta0
  obtain ⟨a5, d6, ta5⟩ := rf1_8 hW0 ta0
  obtain ⟨a7, d8, ta7⟩ := rf1_13 hW0 ta0
  refine tr_aload_n dX10_wakeTotal_0 rfl ?_
  obtain ⟨v9, c10⟩ : ∃ v, I0 a0 5 = v := ⟨_, rfl⟩
  have b11 := iv1_5 hW0 ta0 c10
  refine q_getZ dX10_wakeTotal_1 fl10_95 (kR1 hS0.1 ta0) c10 ?_
  refine q_if_ne 13 dX10_wakeTotal_4 (by decide) (fun h12 => ?_) (fun h12 => ?_)
  · skip
    refine tr_aload_n dX10_wakeTotal_13 rfl ?_
    obtain ⟨a13, d14, ta13⟩ := rf1_14 hW0 ta0
    refine tr_getR dX10_wakeTotal_14 fl10_68 (kR1 hS0.1 ta0) d14 ?_
    refine tr_aload_n dX10_wakeTotal_17 rfl ?_
    refine tr_getR dX10_wakeTotal_18 fl10_16 (kR1 hS0.1 ta0) d2 ?_
    refine tr_aload_n dX10_wakeTotal_21 rfl ?_
    refine q_callVr hE (M' := mX10_presentSky) (as := []) dX10_wakeTotal_22 lk10_119 inX10_presentSky seX10_presentSky myX10_presentSky (by decide) ⟨by decide, by decide⟩ rfl (kR1 hS0.1 ta0) (Nat.le_of_ble_eq_true rfl) rfl rfl (by decide) (by decide) (fk_X10_presentSky hS0.1 (gX) ta0 hX hK hD) ?_
    rintro a20 cn' K' N' I15 R16 L17 ⟨rfl, rfl, rfl, rfl, rfl, g18, ta20, p21, rp22, rp23, rp24, -⟩
    have hS25 := hS0.tr g18 (by decide +kernel) (by decide +kernel)
    obtain ⟨v26, c27⟩ : ∃ v, I15 a0 9 = v := ⟨_, rfl⟩
    have b28 := iv1_9 hS25.1 ta0 c27
    rw [c27] at p21
    refine tr_aload_n dX10_wakeTotal_25 rfl ?_
    refine q_callVi hE (M' := mX10_bestCalls) (as := []) dX10_wakeTotal_26 lk10_241 inX10_bestCalls seX10_bestCalls myX10_bestCalls (by decide) ⟨by decide, by decide⟩ rfl (kR1 hS25.1 ta0) (Nat.le_of_ble_eq_true rfl) rfl rfl (by decide) (by decide) (fk_X10_bestCalls hS25.1 (gX) ta0 (EvQ.st hX hW0 ta0 hS25 (by decide +kernel)) (SkQ.of rp23) hD) ?_
    rintro v34 cn' K' N' I29 R30 L31 ⟨rfl, rfl, rfl, rfl, g32, rp35, -⟩
    have hS36 := hS25.tr g32 (by decide +kernel) (by decide +kernel)
    refine tr_aload_n dX10_wakeTotal_29 rfl ?_
    refine q_callVi hE (M' := mX10_allTurners) (as := []) dX10_wakeTotal_30 lk10_184 inX10_allTurners seX10_allTurners myX10_allTurners (by decide) ⟨by decide, by decide⟩ rfl (kR1 hS36.1 ta0) (Nat.le_of_ble_eq_true rfl) rfl rfl (by decide) (by decide) (k_X10_allTurners hS36.1 ta0) ?_
    rintro v41 cn' K' N' I37 R38 L39 ⟨rfl, rfl, rfl, rfl, rfl, rfl, h42, -⟩
    refine q_callVv hE (M' := mX5_play) (as := [_, _, _, _]) dX10_wakeTotal_33 lk10_188 inX5_play seX5_play myX5_play (by decide) ⟨by decide, by decide⟩ rfl (kR13 hS36.1 ta13) (Nat.le_of_ble_eq_true rfl) rfl rfl (by decide) (by decide) (k_X5_play hS36.1 ta13 ta1 ta20) ?_
    rintro cn' K' N' I43 R44 L45 ⟨rfl, rfl, rfl, rfl, g46, -⟩
    have hS48 := hS36.tr g46 (by decide +kernel) (by decide +kernel)
    refine tr_aload_n dX10_wakeTotal_36 rfl ?_
    refine tr_aload_n dX10_wakeTotal_37 rfl ?_
    refine tr_getR dX10_wakeTotal_38 fl10_68 (kR1 hS48.1 ta0) ((hS48.rcell ta0 (by decide +kernel)).trans d14) ?_
    refine q_callVi hE (M' := mX5_sum) (as := []) dX10_wakeTotal_41 lk10_192 inX5_sum seX5_sum myX5_sum (by decide) ⟨by decide, by decide⟩ rfl (kR13 hS48.1 ta13) (Nat.le_of_ble_eq_true rfl) rfl rfl (by decide) (by decide) (k_X5_sum hS48.1 ta13) ?_
    rintro v53 cn' K' N' I49 R50 L51 ⟨rfl, rfl, rfl, rfl, rfl, rfl, -⟩
    refine q_callVi hE (M' := mX10_answered) (as := [_]) dX10_wakeTotal_44 lk10_109 inX10_answered seX10_answered myX10_answered (by decide) ⟨by decide, by decide⟩ rfl (kR1 hS48.1 ta0) (Nat.le_of_ble_eq_true rfl) rfl rfl (by decide) (by decide) (fk_X10_answered hS48.1  ta0) ?_
    rintro v59 cn' K' N' I54 R55 L56 ⟨rfl, rfl, rfl, rfl, rfl, g57, p60, p61, -⟩
    have hS62 := hS48.tr g57 (by decide +kernel) (by decide +kernel)
    obtain ⟨v63, c64⟩ : ∃ v, I54 a0 17 = v := ⟨_, rfl⟩
    rw [c64] at p61
    exact tr_iret hZ dX10_wakeTotal_47 rfl (by decide) (by decide) ⟨v59, rfl, rfl, rfl, rfl, rfl, hS62, (SkQ.st (SkQ.st rp35 hW0 ta0 g46 (by decide +kernel) (by decide +kernel)) hW0 ta0 g57 (by decide +kernel) (by decide +kernel)), trivial⟩
  · skip
    refine tr_aload_n dX10_wakeTotal_7 rfl ?_
    refine q_iconst dX10_wakeTotal_8 (by decide) ?_
    intro v65 h66
    refine q_callVi hE (M' := mX10_refusedTotal) (as := [_]) dX10_wakeTotal_9 lk10_178 inX10_refusedTotal seX10_refusedTotal myX10_refusedTotal (by decide) ⟨by decide, by decide⟩ rfl (kR1 hS0.1 ta0) (Nat.le_of_ble_eq_true rfl) rfl rfl (by decide) (by decide) (k_X10_refusedTotal hS0.1 ta0) ?_
    rintro v71 cn' K' N' I67 R68 L69 ⟨rfl, rfl, rfl, rfl, rfl, g70, -⟩
    have hS72 := hS0.tr g70 (by decide +kernel) (by decide +kernel)
    exact tr_iret hZ dX10_wakeTotal_12 rfl (by decide) (by decide) ⟨v71, rfl, rfl, rfl, rfl, rfl, hS72, (SkQ.st hK hW0 ta0 g70 (by decide +kernel) (by decide +kernel)), trivial⟩
def wik_X10_fewest : List Nat := [73, 75, 81, 768, 769, 778, 834, 2303, 2367, 2431, 2495, 2559, 2623, 2687, 2751, 2815, 2879, 2943, 3007, 3071, 3135, 3199, 3263, 3327, 3391]
def wrk_X10_fewest : List Nat := [832, 833]
set_option maxHeartbeats 4000000 in
theorem fk_X10_fewest {l : Launch} {T : Nat → Nat} {cn : Nat} {K N : Nat → Nat} {I0 : cz_I} {R0 : cz_R} {L0 : cz_L} {d : Int} (hW0 : Wf T cn K N I0 R0 d) (gX : Nat → Nat → Int) {a0 : Nat} (ta0 : T a0 = 1) (hX : EvQ I0 R0 a0 gX) (hK : SkQ I0 R0 a0 gX) (hD : DjS R0 a0) : ConE l mX10_fewest [.ref a0] cn K N I0 R0 L0 (ca_i (fun v cn' K' N' I' R' L' => cn = cn' ∧ K = K' ∧ N = N' ∧ L0 = L' ∧ St T cn K N d wik_X10_fewest wrk_X10_fewest I0 R0 I' R' ∧ (SkQ I' R0 a0 gX) ∧ True)) := by
  refine ConE.of (by decide +kernel) rfl (Nat.le_of_ble_eq_true rfl) rfl (fun X hX hZ hE => ?_)
  subst hX
  have hS0 : St T cn K N d wik_X10_fewest wrk_X10_fewest I0 R0 I0 R0 := St.rf0 hW0
  obtain ⟨a1, d2, ta1⟩ := rf1_2 hW0 ta0
  obtain ⟨a3, d4, ta3⟩ := rf1_6 hW0 ta0
  obtain ⟨a5, d6, ta5⟩ := rf1_8 hW0 ta0
  obtain ⟨a7, d8, ta7⟩ := rf1_13 hW0 ta0
  refine tr_aload_n dX10_fewest_0 rfl ?_
  obtain ⟨v9, c10⟩ : ∃ v, I0 a0 5 = v := ⟨_, rfl⟩
  have b11 := iv1_5 hW0 ta0 c10
  refine q_getZ dX10_fewest_1 fl10_95 (kR1 hS0.1 ta0) c10 ?_
  refine q_if_ne 13 dX10_fewest_4 (by decide) (fun h12 => ?_) (fun h12 => ?_)
  · skip
    refine tr_aload_n dX10_fewest_13 rfl ?_
    refine q_callVi hE (M' := mX10_fewestTurners) (as := []) dX10_fewest_14 lk10_244 inX10_fewestTurners seX10_fewestTurners myX10_fewestTurners (by decide) ⟨by decide, by decide⟩ rfl (kR1 hS0.1 ta0) (Nat.le_of_ble_eq_true rfl) rfl rfl (by decide) (by decide) (fk_X10_fewestTurners hS0.1 (gX) ta0 hX hK hD) ?_
    rintro v18 cn' K' N' I13 R14 L15 ⟨rfl, rfl, rfl, rfl, g16, rp19, -⟩
    have hS20 := hS0.tr g16 (by decide +kernel) (by decide +kernel)
    refine tr_istore_n dX10_fewest_17 (by decide) (by decide) ?_
    refine tr_aload_n dX10_fewest_18 rfl ?_
    refine tr_iload_n dX10_fewest_19 rfl ?_
    refine q_bipush dX10_fewest_20 (by decide +kernel) ?_
    intro v21 h22
    refine q_icmp_ne 30 dX10_fewest_22 (by decide) (fun h23 => ?_) (fun h23 => ?_)
    · skip
      refine tr_iload_n dX10_fewest_30 rfl ?_
      refine q_callSi hE (M' := mJ6_bitCount_0f7a4) (as := [_]) dX10_fewest_31 lk10_247 inJ6_bitCount_0f7a4 myJ6_bitCount_0f7a4 ⟨by decide, by decide⟩ rfl (Nat.le_of_ble_eq_true rfl) rfl rfl (by decide) (by decide) (k_J6_bitCount_0f7a4 hS20.1 ) ?_
      rintro v28 cn' K' N' I24 R25 L26 ⟨rfl, rfl, rfl, rfl, rfl, rfl, -⟩
      refine q_callVi hE (M' := mX10_answered) (as := [_]) dX10_fewest_34 lk10_109 inX10_answered seX10_answered myX10_answered (by decide) ⟨by decide, by decide⟩ rfl (kR1 hS20.1 ta0) (Nat.le_of_ble_eq_true rfl) rfl rfl (by decide) (by decide) (fk_X10_answered hS20.1  ta0) ?_
      rintro v34 cn' K' N' I29 R30 L31 ⟨rfl, rfl, rfl, rfl, rfl, g32, p35, p36, -⟩
      have hS37 := hS20.tr g32 (by decide +kernel) (by decide +kernel)
      obtain ⟨v38, c39⟩ : ∃ v, I29 a0 17 = v := ⟨_, rfl⟩
      rw [c39] at p36
      exact tr_iret hZ dX10_fewest_37 rfl (by decide) (by decide) ⟨v34, rfl, rfl, rfl, rfl, rfl, hS37, (SkQ.st rp19 hW0 ta0 g32 (by decide +kernel) (by decide +kernel)), trivial⟩
    · skip
      refine q_bipush dX10_fewest_25 (by decide +kernel) ?_
      intro v40 h41
      refine tr_goto 34 dX10_fewest_27 (by decide) ?_
      refine q_callVi hE (M' := mX10_answered) (as := [_]) dX10_fewest_34 lk10_109 inX10_answered seX10_answered myX10_answered (by decide) ⟨by decide, by decide⟩ rfl (kR1 hS20.1 ta0) (Nat.le_of_ble_eq_true rfl) rfl rfl (by decide) (by decide) (fk_X10_answered hS20.1  ta0) ?_
      rintro v47 cn' K' N' I42 R43 L44 ⟨rfl, rfl, rfl, rfl, rfl, g45, p48, p49, -⟩
      have hS50 := hS20.tr g45 (by decide +kernel) (by decide +kernel)
      obtain ⟨v51, c52⟩ : ∃ v, I42 a0 17 = v := ⟨_, rfl⟩
      rw [c52] at p49
      exact tr_iret hZ dX10_fewest_37 rfl (by decide) (by decide) ⟨v47, rfl, rfl, rfl, rfl, rfl, hS50, (SkQ.st rp19 hW0 ta0 g45 (by decide +kernel) (by decide +kernel)), trivial⟩
  · skip
    refine tr_aload_n dX10_fewest_7 rfl ?_
    refine q_iconst dX10_fewest_8 (by decide) ?_
    intro v53 h54
    refine q_callVi hE (M' := mX10_refused) (as := [_]) dX10_fewest_9 lk10_79 inX10_refused seX10_refused myX10_refused (by decide) ⟨by decide, by decide⟩ rfl (kR1 hS0.1 ta0) (Nat.le_of_ble_eq_true rfl) rfl rfl (by decide) (by decide) (fk_X10_refused hS0.1  ta0) ?_
    rintro v60 cn' K' N' I55 R56 L57 ⟨rfl, rfl, rfl, rfl, rfl, g58, p61, p62, -⟩
    have hS63 := hS0.tr g58 (by decide +kernel) (by decide +kernel)
    obtain ⟨v64, c65⟩ : ∃ v, I55 a0 17 = v := ⟨_, rfl⟩
    rw [c65] at p62
    exact tr_iret hZ dX10_fewest_12 rfl (by decide) (by decide) ⟨v60, rfl, rfl, rfl, rfl, rfl, hS63, (SkQ.st hK hW0 ta0 g58 (by decide +kernel) (by decide +kernel)), trivial⟩
def wik_X10_fewestBy : List Nat := [73, 75, 81, 768, 769, 778, 834, 2303, 2367, 2431, 2495, 2559, 2623, 2687, 2751, 2815, 2879, 2943, 3007, 3071, 3135, 3199, 3263, 3327, 3391]
def wrk_X10_fewestBy : List Nat := [832, 833]
set_option maxHeartbeats 4000000 in
theorem fk_X10_fewestBy {l : Launch} {T : Nat → Nat} {cn : Nat} {K N : Nat → Nat} {I0 : cz_I} {R0 : cz_R} {L0 : cz_L} {d : Int} (hW0 : Wf T cn K N I0 R0 d) (gX : Nat → Nat → Int) {a0 : Nat} (ta0 : T a0 = 1) (hX : EvQ I0 R0 a0 gX) (hK : SkQ I0 R0 a0 gX) (hD : DjS R0 a0) : ConE l mX10_fewestBy [.ref a0] cn K N I0 R0 L0 (ca_i (fun v cn' K' N' I' R' L' => cn = cn' ∧ K = K' ∧ N = N' ∧ L0 = L' ∧ St T cn K N d wik_X10_fewestBy wrk_X10_fewestBy I0 R0 I' R' ∧ (SkQ I' R0 a0 gX) ∧ True)) := by
  refine ConE.of (by decide +kernel) rfl (Nat.le_of_ble_eq_true rfl) rfl (fun X hX hZ hE => ?_)
  subst hX
  have hS0 : St T cn K N d wik_X10_fewestBy wrk_X10_fewestBy I0 R0 I0 R0 := St.rf0 hW0
  obtain ⟨a1, d2, ta1⟩ := rf1_2 hW0 ta0
  obtain ⟨a3, d4, ta3⟩ := rf1_6 hW0 ta0
  obtain ⟨a5, d6, ta5⟩ := rf1_8 hW0 ta0
  obtain ⟨a7, d8, ta7⟩ := rf1_13 hW0 ta0
  refine tr_aload_n dX10_fewestBy_0 rfl ?_
  obtain ⟨v9, c10⟩ : ∃ v, I0 a0 5 = v := ⟨_, rfl⟩
  have b11 := iv1_5 hW0 ta0 c10
  refine q_getZ dX10_fewestBy_1 fl10_95 (kR1 hS0.1 ta0) c10 ?_
  refine q_if_eq 18 dX10_fewestBy_4 (by decide) (fun h12 => ?_) (fun h12 => ?_)
  · skip
    refine tr_aload_n dX10_fewestBy_18 rfl ?_
    refine q_iconst dX10_fewestBy_19 (by decide) ?_
    intro v13 h14
    refine q_callVi hE (M' := mX10_refused) (as := [_]) dX10_fewestBy_20 lk10_79 inX10_refused seX10_refused myX10_refused (by decide) ⟨by decide, by decide⟩ rfl (kR1 hS0.1 ta0) (Nat.le_of_ble_eq_true rfl) rfl rfl (by decide) (by decide) (fk_X10_refused hS0.1  ta0) ?_
    rintro v20 cn' K' N' I15 R16 L17 ⟨rfl, rfl, rfl, rfl, rfl, g18, p21, p22, -⟩
    have hS23 := hS0.tr g18 (by decide +kernel) (by decide +kernel)
    obtain ⟨v24, c25⟩ : ∃ v, I15 a0 17 = v := ⟨_, rfl⟩
    rw [c25] at p22
    exact tr_iret hZ dX10_fewestBy_23 rfl (by decide) (by decide) ⟨v20, rfl, rfl, rfl, rfl, rfl, hS23, (SkQ.st hK hW0 ta0 g18 (by decide +kernel) (by decide +kernel)), trivial⟩
  · skip
    refine tr_aload_n dX10_fewestBy_7 rfl ?_
    refine tr_aload_n dX10_fewestBy_8 rfl ?_
    refine q_callVi hE (M' := mX10_fewestTurners) (as := []) dX10_fewestBy_9 lk10_244 inX10_fewestTurners seX10_fewestTurners myX10_fewestTurners (by decide) ⟨by decide, by decide⟩ rfl (kR1 hS0.1 ta0) (Nat.le_of_ble_eq_true rfl) rfl rfl (by decide) (by decide) (fk_X10_fewestTurners hS0.1 (gX) ta0 hX hK hD) ?_
    rintro v31 cn' K' N' I26 R27 L28 ⟨rfl, rfl, rfl, rfl, g29, rp32, -⟩
    have hS33 := hS0.tr g29 (by decide +kernel) (by decide +kernel)
    refine q_callVi hE (M' := mX10_answered) (as := [_]) dX10_fewestBy_12 lk10_109 inX10_answered seX10_answered myX10_answered (by decide) ⟨by decide, by decide⟩ rfl (kR1 hS33.1 ta0) (Nat.le_of_ble_eq_true rfl) rfl rfl (by decide) (by decide) (fk_X10_answered hS33.1  ta0) ?_
    rintro v39 cn' K' N' I34 R35 L36 ⟨rfl, rfl, rfl, rfl, rfl, g37, p40, p41, -⟩
    have hS42 := hS33.tr g37 (by decide +kernel) (by decide +kernel)
    obtain ⟨v43, c44⟩ : ∃ v, I34 a0 17 = v := ⟨_, rfl⟩
    rw [c44] at p41
    refine tr_goto 23 dX10_fewestBy_15 (by decide) ?_
    exact tr_iret hZ dX10_fewestBy_23 rfl (by decide) (by decide) ⟨v39, rfl, rfl, rfl, rfl, rfl, hS42, (SkQ.st rp32 hW0 ta0 g37 (by decide +kernel) (by decide +kernel)), trivial⟩
def wik_X10_fits : List Nat := [73, 75, 81, 768, 769, 778, 834, 2303, 2367, 2431, 2495, 2559, 2623, 2687, 2751, 2815, 2879, 2943, 3007, 3071, 3135, 3199, 3263, 3327, 3391]
def wrk_X10_fits : List Nat := [832, 833]
set_option maxHeartbeats 4000000 in
theorem fk_X10_fits {l : Launch} {T : Nat → Nat} {cn : Nat} {K N : Nat → Nat} {I0 : cz_I} {R0 : cz_R} {L0 : cz_L} {d : Int} (hW0 : Wf T cn K N I0 R0 d) (gX : Nat → Nat → Int) {a0 : Nat} (ta0 : T a0 = 1) {x1 : Int32} (hX : EvQ I0 R0 a0 gX) (hK : SkQ I0 R0 a0 gX) (hD : DjS R0 a0) : ConE l mX10_fits [.ref a0, .int x1] cn K N I0 R0 L0 (ca_i (fun v cn' K' N' I' R' L' => cn = cn' ∧ K = K' ∧ N = N' ∧ L0 = L' ∧ St T cn K N d wik_X10_fits wrk_X10_fits I0 R0 I' R' ∧ (SkQ I' R0 a0 gX) ∧ True)) := by
  refine ConE.of (by decide +kernel) rfl (Nat.le_of_ble_eq_true rfl) rfl (fun X hX hZ hE => ?_)
  subst hX
  have hS0 : St T cn K N d wik_X10_fits wrk_X10_fits I0 R0 I0 R0 := St.rf0 hW0
  obtain ⟨a1, d2, ta1⟩ := rf1_2 hW0 ta0
  obtain ⟨a3, d4, ta3⟩ := rf1_6 hW0 ta0
  obtain ⟨a5, d6, ta5⟩ := rf1_8 hW0 ta0
  obtain ⟨a7, d8, ta7⟩ := rf1_13 hW0 ta0
  refine tr_aload_n dX10_fits_0 rfl ?_
  refine tr_iload_n dX10_fits_1 rfl ?_
  refine q_callVi hE (M' := mX10_isSlice) (as := [_]) dX10_fits_2 lk10_252 inX10_isSlice seX10_isSlice myX10_isSlice (by decide) ⟨by decide, by decide⟩ rfl (kR1 hS0.1 ta0) (Nat.le_of_ble_eq_true rfl) rfl rfl (by decide) (by decide) (k_X10_isSlice hS0.1 ta0) ?_
  rintro v13 cn' K' N' I9 R10 L11 ⟨rfl, rfl, rfl, rfl, rfl, rfl, h14, p15, -⟩
  refine q_if_ne 14 dX10_fits_5 (by decide) (fun h16 => ?_) (fun h16 => ?_)
  · skip
    refine tr_aload_n dX10_fits_14 rfl ?_
    refine tr_aload_n dX10_fits_15 rfl ?_
    refine q_callVr hE (M' := mX10_presentNight) (as := []) dX10_fits_16 lk10_155 inX10_presentNight seX10_presentNight myX10_presentNight (by decide) ⟨by decide, by decide⟩ rfl (kR1 hS0.1 ta0) (Nat.le_of_ble_eq_true rfl) rfl rfl (by decide) (by decide) (fk_X10_presentNight hS0.1 (gX) ta0 hX hK hD) ?_
    rintro a22 cn' K' N' I17 R18 L19 ⟨rfl, rfl, rfl, rfl, g20, ta22, rp23, -⟩
    have hS24 := hS0.tr g20 (by decide +kernel) (by decide +kernel)
    refine tr_aload_n dX10_fits_19 rfl ?_
    refine tr_getR dX10_fits_20 fl10_16 (kR1 hS24.1 ta0) ((hS24.rcell ta0 (by decide +kernel)).trans d2) ?_
    obtain ⟨a25, d26, ta25⟩ := rf2_14 hW0 ta1
    refine tr_getR dX10_fits_23 fl10_255 (kR2 hS24.1 ta1) ((hS24.rcell ta1 (by decide +kernel)).trans d26) ?_
    refine tr_iload_n dX10_fits_26 rfl ?_
    obtain ⟨a27, d28, ta27⟩ := rf23 hS24.1 ta25 (j := x1.toNatClampNeg) (ti_lt (by exact om_77ab9389 h14.2 h14.1 p15 h16) (by exact om_5e4298c0 h14.2 h14.1 p15 h16))
    refine tr_aald dX10_fits_27 (kR23 hS24.1 ta25) (by decide) (by decide) (ti_in (nR23 hS24.1 ta25) (by exact om_77ab9389 h14.2 h14.1 p15 h16) (by exact om_5e4298c0 h14.2 h14.1 p15 h16)) d28 ?_
    refine q_callVi hE (M' := mX5_cheesesWithVeins) (as := [_]) dX10_fits_28 lk10_259 inX5_cheesesWithVeins seX5_cheesesWithVeins myX5_cheesesWithVeins (by decide) ⟨by decide, by decide⟩ rfl (kR13 hS24.1 ta22) (Nat.le_of_ble_eq_true rfl) rfl rfl (by decide) (by decide) (k_X5_cheesesWithVeins hS24.1 ta22 ta27) ?_
    rintro v33 cn' K' N' I29 R30 L31 ⟨rfl, rfl, rfl, rfl, rfl, rfl, -⟩
    refine q_callVi hE (M' := mX10_answered) (as := [_]) dX10_fits_31 lk10_109 inX10_answered seX10_answered myX10_answered (by decide) ⟨by decide, by decide⟩ rfl (kR1 hS24.1 ta0) (Nat.le_of_ble_eq_true rfl) rfl rfl (by decide) (by decide) (fk_X10_answered hS24.1  ta0) ?_
    rintro v39 cn' K' N' I34 R35 L36 ⟨rfl, rfl, rfl, rfl, rfl, g37, p40, p41, -⟩
    have hS42 := hS24.tr g37 (by decide +kernel) (by decide +kernel)
    obtain ⟨v43, c44⟩ : ∃ v, I34 a0 17 = v := ⟨_, rfl⟩
    rw [c44] at p41
    exact tr_iret hZ dX10_fits_34 rfl (by decide) (by decide) ⟨v39, rfl, rfl, rfl, rfl, rfl, hS42, (SkQ.st rp23 hW0 ta0 g37 (by decide +kernel) (by decide +kernel)), trivial⟩
  · skip
    refine tr_aload_n dX10_fits_8 rfl ?_
    refine q_iconst dX10_fits_9 (by decide) ?_
    intro v45 h46
    refine q_callVi hE (M' := mX10_refused) (as := [_]) dX10_fits_10 lk10_79 inX10_refused seX10_refused myX10_refused (by decide) ⟨by decide, by decide⟩ rfl (kR1 hS0.1 ta0) (Nat.le_of_ble_eq_true rfl) rfl rfl (by decide) (by decide) (fk_X10_refused hS0.1  ta0) ?_
    rintro v52 cn' K' N' I47 R48 L49 ⟨rfl, rfl, rfl, rfl, rfl, g50, p53, p54, -⟩
    have hS55 := hS0.tr g50 (by decide +kernel) (by decide +kernel)
    obtain ⟨v56, c57⟩ : ∃ v, I47 a0 17 = v := ⟨_, rfl⟩
    rw [c57] at p54
    exact tr_iret hZ dX10_fits_13 rfl (by decide) (by decide) ⟨v52, rfl, rfl, rfl, rfl, rfl, hS55, (SkQ.st hK hW0 ta0 g50 (by decide +kernel) (by decide +kernel)), trivial⟩
def wik_X10_by : List Nat := [73, 81, 768, 769, 778, 834, 2303, 2367, 2431, 2495, 2559, 2623, 2687, 2751, 2815, 2879, 2943, 3007, 3071, 3135, 3199, 3263, 3327, 3391]
def wrk_X10_by : List Nat := [832, 833]
set_option maxHeartbeats 4000000 in
theorem fk_X10_by {l : Launch} {T : Nat → Nat} {cn : Nat} {K N : Nat → Nat} {I0 : cz_I} {R0 : cz_R} {L0 : cz_L} {d : Int} (hW0 : Wf T cn K N I0 R0 d) (gX : Nat → Nat → Int) {a0 : Nat} (ta0 : T a0 = 1) {x1 : Int32} (hX : EvQ I0 R0 a0 gX) (hK : SkQ I0 R0 a0 gX) (hD : DjS R0 a0) : ConE l mX10_by [.ref a0, .int x1] cn K N I0 R0 L0 (ca_i (fun v cn' K' N' I' R' L' => cn = cn' ∧ K = K' ∧ N = N' ∧ L0 = L' ∧ St T cn K N d wik_X10_by wrk_X10_by I0 R0 I' R' ∧ (SkQ I' R0 a0 gX) ∧ True)) := by
  refine ConE.of (by decide +kernel) rfl (Nat.le_of_ble_eq_true rfl) rfl (fun X hX hZ hE => ?_)
  subst hX
  have hS0 : St T cn K N d wik_X10_by wrk_X10_by I0 R0 I0 R0 := St.rf0 hW0
  obtain ⟨a1, d2, ta1⟩ := rf1_2 hW0 ta0
  obtain ⟨a3, d4, ta3⟩ := rf1_6 hW0 ta0
  obtain ⟨a5, d6, ta5⟩ := rf1_8 hW0 ta0
  obtain ⟨a7, d8, ta7⟩ := rf1_13 hW0 ta0
  refine tr_aload_n dX10_by_0 rfl ?_
  refine tr_iload_n dX10_by_1 rfl ?_
  refine q_callVi hE (M' := mX10_isSlice) (as := [_]) dX10_by_2 lk10_252 inX10_isSlice seX10_isSlice myX10_isSlice (by decide) ⟨by decide, by decide⟩ rfl (kR1 hS0.1 ta0) (Nat.le_of_ble_eq_true rfl) rfl rfl (by decide) (by decide) (k_X10_isSlice hS0.1 ta0) ?_
  rintro v13 cn' K' N' I9 R10 L11 ⟨rfl, rfl, rfl, rfl, rfl, rfl, h14, p15, -⟩
  refine q_if_ne 14 dX10_by_5 (by decide) (fun h16 => ?_) (fun h16 => ?_)
  · skip
    refine q_bipush dX10_by_14 (by decide +kernel) ?_
    intro v17 h18
    refine tr_istore_n dX10_by_16 (by decide) (by decide) ?_
    refine q_iconst dX10_by_17 (by decide) ?_
    intro v19 h20
    refine tr_istore_n dX10_by_18 (by decide) (by decide) ?_
    have lp32 : ∀ (fu : Nat) (ls : Nat → Option Value) (v21 : Int32) (v22 : Int32) (I27 : cz_I) (R28 : cz_R), ls 0 = some (.ref a0) → ls 1 = some (.int x1) → ls 2 = some (.int v21) → ls 3 = some (.int v22) → St T cn K N d wik_X10_by wrk_X10_by I0 R0 I27 R28 → 0 ≤ v22.toInt → (SkQ I27 R0 a0 gX) → (-v22.toInt + 2147483647).toNat < fu → Tr X mX10_by 19 ls [] cn K N I27 R28 L0 0 0 := by
      intro fu
      induction fu with
      | zero => intros; rename_i hz; exact absurd hz (Nat.not_lt_zero _)
      | succ fu ih32 =>
        intro ls v21 v22 I27 R28 hl23 hl24 hl25 hl26 hS29 g30 rw31 hm32
        refine tr_iload_n dX10_by_19 hl26 ?_
        refine tr_aload_n dX10_by_20 hl23 ?_
        refine q_callVi hE (M' := mX10_allCalls) (as := []) dX10_by_21 lk10_263 inX10_allCalls seX10_allCalls myX10_allCalls (by decide) ⟨by decide, by decide⟩ rfl (kR1 hS29.1 ta0) (Nat.le_of_ble_eq_true rfl) rfl rfl (by decide) (by decide) (k_X10_allCalls hS29.1 ta0) ?_
        rintro v38 cn' K' N' I34 R35 L36 ⟨rfl, rfl, rfl, rfl, rfl, rfl, h39, -⟩
        refine q_icmp_gt 91 dX10_by_24 (by decide) (fun h40 => ?_) (fun h40 => ?_)
        · skip
          refine tr_aload_n dX10_by_91 hl23 ?_
          refine tr_iload_n dX10_by_92 hl25 ?_
          refine q_callVi hE (M' := mX10_answered) (as := [_]) dX10_by_93 lk10_109 inX10_answered seX10_answered myX10_answered (by decide) ⟨by decide, by decide⟩ rfl (kR1 hS29.1 ta0) (Nat.le_of_ble_eq_true rfl) rfl rfl (by decide) (by decide) (fk_X10_answered hS29.1  ta0) ?_
          rintro v46 cn' K' N' I41 R42 L43 ⟨rfl, rfl, rfl, rfl, rfl, g44, p47, p48, -⟩
          have hS49 := hS29.tr g44 (by decide +kernel) (by decide +kernel)
          obtain ⟨v50, c51⟩ : ∃ v, I41 a0 17 = v := ⟨_, rfl⟩
          rw [c51] at p48
          exact tr_iret hZ dX10_by_96 rfl (by decide) (by decide) ⟨v46, rfl, rfl, rfl, rfl, rfl, hS49, (SkQ.st rw31 hW0 ta0 g44 (by decide +kernel) (by decide +kernel)), trivial⟩
        · skip
          refine tr_iload_n dX10_by_27 hl25 ?_
          refine q_bipush dX10_by_28 (by decide +kernel) ?_
          intro v52 h53
          refine q_icmp_eq 44 dX10_by_30 (by decide) (fun h54 => ?_) (fun h54 => ?_)
          · skip
            refine tr_aload_n dX10_by_44 hl23 ?_
            obtain ⟨a55, d56, ta55⟩ := rf1_14 hW0 ta0
            refine tr_getR dX10_by_45 fl10_68 (kR1 hS29.1 ta0) ((hS29.rcell ta0 (by decide +kernel)).trans d56) ?_
            refine tr_aload_n dX10_by_48 hl23 ?_
            refine tr_getR dX10_by_49 fl10_16 (kR1 hS29.1 ta0) ((hS29.rcell ta0 (by decide +kernel)).trans d2) ?_
            refine tr_aload_n dX10_by_52 hl23 ?_
            refine q_callVr hE (M' := mX10_presentSky) (as := []) dX10_by_53 lk10_119 inX10_presentSky seX10_presentSky myX10_presentSky (by decide) ⟨by decide, by decide⟩ rfl (kR1 hS29.1 ta0) (Nat.le_of_ble_eq_true rfl) rfl rfl (by decide) (by decide) (fk_X10_presentSky hS29.1 (gX) ta0 (EvQ.rc (EvQ.st hX hW0 ta0 hS29 (by decide +kernel)) hW0 ta0 (R13 hS29 (by decide +kernel))) (SkQ.rc rw31 hW0 ta0 (R13 hS29 (by decide +kernel))) (DjS.rc hD hW0 ta0 (R13 hS29 (by decide +kernel)))) ?_
            rintro a62 cn' K' N' I57 R58 L59 ⟨rfl, rfl, rfl, rfl, rfl, g60, ta62, p63, rp64, rp65, rp66, -⟩
            have hS67 := hS29.tr g60 (by decide +kernel) (by decide +kernel)
            obtain ⟨v68, c69⟩ : ∃ v, I57 a0 9 = v := ⟨_, rfl⟩
            have b70 := iv1_9 hS67.1 ta0 c69
            rw [c69] at p63
            refine tr_iload_n dX10_by_56 hl26 ?_
            refine tr_aload_n dX10_by_57 hl23 ?_
            refine q_callVi hE (M' := mX10_allTurners) (as := []) dX10_by_58 lk10_184 inX10_allTurners seX10_allTurners myX10_allTurners (by decide) ⟨by decide, by decide⟩ rfl (kR1 hS67.1 ta0) (Nat.le_of_ble_eq_true rfl) rfl rfl (by decide) (by decide) (k_X10_allTurners hS67.1 ta0) ?_
            rintro v75 cn' K' N' I71 R72 L73 ⟨rfl, rfl, rfl, rfl, rfl, rfl, h76, -⟩
            refine q_callVv hE (M' := mX5_play) (as := [_, _, _, _]) dX10_by_61 lk10_188 inX5_play seX5_play myX5_play (by decide) ⟨by decide, by decide⟩ rfl (kR13 hS67.1 ta55) (Nat.le_of_ble_eq_true rfl) rfl rfl (by decide) (by decide) (k_X5_play hS67.1 ta55 ta1 ta62) ?_
            rintro cn' K' N' I77 R78 L79 ⟨rfl, rfl, rfl, rfl, g80, -⟩
            have hS82 := hS67.tr g80 (by decide +kernel) (by decide +kernel)
            have c83 : I77 a0 9 = v68 := (g80.cell ta0 (by decide +kernel)).trans c69
            refine tr_aload_n dX10_by_64 hl23 ?_
            refine tr_getR dX10_by_65 fl10_68 (kR1 hS82.1 ta0) ((hS82.rcell ta0 (by decide +kernel)).trans d56) ?_
            refine tr_aload_n dX10_by_68 hl23 ?_
            refine tr_getR dX10_by_69 fl10_16 (kR1 hS82.1 ta0) ((hS82.rcell ta0 (by decide +kernel)).trans d2) ?_
            obtain ⟨a84, d85, ta84⟩ := rf2_14 hW0 ta1
            refine tr_getR dX10_by_72 fl10_255 (kR2 hS82.1 ta1) ((hS82.rcell ta1 (by decide +kernel)).trans d85) ?_
            refine tr_iload_n dX10_by_75 hl24 ?_
            obtain ⟨a86, d87, ta86⟩ := rf23 hS82.1 ta84 (j := x1.toNatClampNeg) (ti_lt (by exact om_60b9a072 h14.2 h14.1 p15 h16 h39.2 h39.1 h40) (by exact om_80932db0 h14.2 h14.1 p15 h16 h39.2 h39.1 h40))
            refine tr_aald dX10_by_76 (kR23 hS82.1 ta84) (by decide) (by decide) (ti_in (nR23 hS82.1 ta84) (by exact om_60b9a072 h14.2 h14.1 p15 h16 h39.2 h39.1 h40) (by exact om_80932db0 h14.2 h14.1 p15 h16 h39.2 h39.1 h40)) d87 ?_
            refine q_callVi hE (M' := mX5_cheesesWithVeins) (as := [_]) dX10_by_77 lk10_259 inX5_cheesesWithVeins seX5_cheesesWithVeins myX5_cheesesWithVeins (by decide) ⟨by decide, by decide⟩ rfl (kR13 hS82.1 ta55) (Nat.le_of_ble_eq_true rfl) rfl rfl (by decide) (by decide) (k_X5_cheesesWithVeins hS82.1 ta55 ta86) ?_
            rintro v92 cn' K' N' I88 R89 L90 ⟨rfl, rfl, rfl, rfl, rfl, rfl, -⟩
            refine q_if_eq 85 dX10_by_80 (by decide) (fun h93 => ?_) (fun h93 => ?_)
            · skip
              refine q_iincE dX10_by_85 hl26 (by decide) (by decide) (by intro j1 j2; exact om_9c1e56ba g30 h39.2 h39.1 h40 j2) ?_
              intro v94 h95
              refine tr_goto 19 dX10_by_88 (by decide) ?_
              exact ih32 _ v21 v94 I77 R78 hl23 hl24 hl25 rfl hS82 (by exact om_68881c41 g30 h95) (SkQ.st (SkQ.of (SkW.rc rp65 hS29.1 ta0 (fun a j q => (R13 hS29 (by decide +kernel) a j q).symm))) hW0 ta0 g80 (by decide +kernel) (by decide +kernel)) (by exact om_3c5c590e g30 hm32 h39.2 h39.1 h40 h95)
            · skip
              refine tr_iload_n dX10_by_83 hl26 ?_
              refine tr_istore_n dX10_by_84 (by decide) (by decide) ?_
              refine q_iincE dX10_by_85 hl26 (by decide) (by decide) (by intro j1 j2; exact om_9c1e56ba g30 h39.2 h39.1 h40 j2) ?_
              intro v96 h97
              refine tr_goto 19 dX10_by_88 (by decide) ?_
              exact ih32 _ v22 v96 I77 R78 hl23 hl24 rfl rfl hS82 (by exact om_68881c41 g30 h97) (SkQ.st (SkQ.of (SkW.rc rp65 hS29.1 ta0 (fun a j q => (R13 hS29 (by decide +kernel) a j q).symm))) hW0 ta0 g80 (by decide +kernel) (by decide +kernel)) (by exact om_20bc2fd7 g30 hm32 h39.2 h39.1 h40 h93 h97)
          · skip
            refine tr_iload_n dX10_by_33 hl26 ?_
            refine q_callSi hE (M' := mJ6_bitCount_0f7a4) (as := [_]) dX10_by_34 lk10_247 inJ6_bitCount_0f7a4 myJ6_bitCount_0f7a4 ⟨by decide, by decide⟩ rfl (Nat.le_of_ble_eq_true rfl) rfl rfl (by decide) (by decide) (k_J6_bitCount_0f7a4 hS29.1 ) ?_
            rintro v102 cn' K' N' I98 R99 L100 ⟨rfl, rfl, rfl, rfl, rfl, rfl, -⟩
            refine tr_iload_n dX10_by_37 hl25 ?_
            refine q_callSi hE (M' := mJ6_bitCount_0f7a4) (as := [_]) dX10_by_38 lk10_247 inJ6_bitCount_0f7a4 myJ6_bitCount_0f7a4 ⟨by decide, by decide⟩ rfl (Nat.le_of_ble_eq_true rfl) rfl rfl (by decide) (by decide) (k_J6_bitCount_0f7a4 hS29.1 ) ?_
            rintro v107 cn' K' N' I103 R104 L105 ⟨rfl, rfl, rfl, rfl, rfl, rfl, -⟩
            refine q_icmp_ge 85 dX10_by_41 (by decide) (fun h108 => ?_) (fun h108 => ?_)
            · skip
              refine q_iincE dX10_by_85 hl26 (by decide) (by decide) (by intro j1 j2; exact om_9c1e56ba g30 h39.2 h39.1 h40 j2) ?_
              intro v109 h110
              refine tr_goto 19 dX10_by_88 (by decide) ?_
              exact ih32 _ v21 v109 I27 R28 hl23 hl24 hl25 rfl hS29 (by exact om_68881c41 g30 h110) rw31 (by exact om_80aacbaa g30 hm32 h39.2 h39.1 h40 h54 h110)
            · skip
              refine tr_aload_n dX10_by_44 hl23 ?_
              obtain ⟨a111, d112, ta111⟩ := rf1_14 hW0 ta0
              refine tr_getR dX10_by_45 fl10_68 (kR1 hS29.1 ta0) ((hS29.rcell ta0 (by decide +kernel)).trans d112) ?_
              refine tr_aload_n dX10_by_48 hl23 ?_
              refine tr_getR dX10_by_49 fl10_16 (kR1 hS29.1 ta0) ((hS29.rcell ta0 (by decide +kernel)).trans d2) ?_
              refine tr_aload_n dX10_by_52 hl23 ?_
              refine q_callVr hE (M' := mX10_presentSky) (as := []) dX10_by_53 lk10_119 inX10_presentSky seX10_presentSky myX10_presentSky (by decide) ⟨by decide, by decide⟩ rfl (kR1 hS29.1 ta0) (Nat.le_of_ble_eq_true rfl) rfl rfl (by decide) (by decide) (fk_X10_presentSky hS29.1 (gX) ta0 (EvQ.rc (EvQ.st hX hW0 ta0 hS29 (by decide +kernel)) hW0 ta0 (R13 hS29 (by decide +kernel))) (SkQ.rc rw31 hW0 ta0 (R13 hS29 (by decide +kernel))) (DjS.rc hD hW0 ta0 (R13 hS29 (by decide +kernel)))) ?_
              rintro a118 cn' K' N' I113 R114 L115 ⟨rfl, rfl, rfl, rfl, rfl, g116, ta118, p119, rp120, rp121, rp122, -⟩
              have hS123 := hS29.tr g116 (by decide +kernel) (by decide +kernel)
              obtain ⟨v124, c125⟩ : ∃ v, I113 a0 9 = v := ⟨_, rfl⟩
              have b126 := iv1_9 hS123.1 ta0 c125
              rw [c125] at p119
              refine tr_iload_n dX10_by_56 hl26 ?_
              refine tr_aload_n dX10_by_57 hl23 ?_
              refine q_callVi hE (M' := mX10_allTurners) (as := []) dX10_by_58 lk10_184 inX10_allTurners seX10_allTurners myX10_allTurners (by decide) ⟨by decide, by decide⟩ rfl (kR1 hS123.1 ta0) (Nat.le_of_ble_eq_true rfl) rfl rfl (by decide) (by decide) (k_X10_allTurners hS123.1 ta0) ?_
              rintro v131 cn' K' N' I127 R128 L129 ⟨rfl, rfl, rfl, rfl, rfl, rfl, h132, -⟩
              refine q_callVv hE (M' := mX5_play) (as := [_, _, _, _]) dX10_by_61 lk10_188 inX5_play seX5_play myX5_play (by decide) ⟨by decide, by decide⟩ rfl (kR13 hS123.1 ta111) (Nat.le_of_ble_eq_true rfl) rfl rfl (by decide) (by decide) (k_X5_play hS123.1 ta111 ta1 ta118) ?_
              rintro cn' K' N' I133 R134 L135 ⟨rfl, rfl, rfl, rfl, g136, -⟩
              have hS138 := hS123.tr g136 (by decide +kernel) (by decide +kernel)
              have c139 : I133 a0 9 = v124 := (g136.cell ta0 (by decide +kernel)).trans c125
              refine tr_aload_n dX10_by_64 hl23 ?_
              refine tr_getR dX10_by_65 fl10_68 (kR1 hS138.1 ta0) ((hS138.rcell ta0 (by decide +kernel)).trans d112) ?_
              refine tr_aload_n dX10_by_68 hl23 ?_
              refine tr_getR dX10_by_69 fl10_16 (kR1 hS138.1 ta0) ((hS138.rcell ta0 (by decide +kernel)).trans d2) ?_
              obtain ⟨a140, d141, ta140⟩ := rf2_14 hW0 ta1
              refine tr_getR dX10_by_72 fl10_255 (kR2 hS138.1 ta1) ((hS138.rcell ta1 (by decide +kernel)).trans d141) ?_
              refine tr_iload_n dX10_by_75 hl24 ?_
              obtain ⟨a142, d143, ta142⟩ := rf23 hS138.1 ta140 (j := x1.toNatClampNeg) (ti_lt (by exact om_9f2ac036 h14.2 h14.1 p15 h16 h39.2 h39.1 h40 h54) (by exact om_c0aa9524 h14.2 h14.1 p15 h16 h39.2 h39.1 h40 h54))
              refine tr_aald dX10_by_76 (kR23 hS138.1 ta140) (by decide) (by decide) (ti_in (nR23 hS138.1 ta140) (by exact om_9f2ac036 h14.2 h14.1 p15 h16 h39.2 h39.1 h40 h54) (by exact om_c0aa9524 h14.2 h14.1 p15 h16 h39.2 h39.1 h40 h54)) d143 ?_
              refine q_callVi hE (M' := mX5_cheesesWithVeins) (as := [_]) dX10_by_77 lk10_259 inX5_cheesesWithVeins seX5_cheesesWithVeins myX5_cheesesWithVeins (by decide) ⟨by decide, by decide⟩ rfl (kR13 hS138.1 ta111) (Nat.le_of_ble_eq_true rfl) rfl rfl (by decide) (by decide) (k_X5_cheesesWithVeins hS138.1 ta111 ta142) ?_
              rintro v148 cn' K' N' I144 R145 L146 ⟨rfl, rfl, rfl, rfl, rfl, rfl, -⟩
              refine q_if_eq 85 dX10_by_80 (by decide) (fun h149 => ?_) (fun h149 => ?_)
              · skip
                refine q_iincE dX10_by_85 hl26 (by decide) (by decide) (by intro j1 j2; exact om_9c1e56ba g30 h39.2 h39.1 h40 j2) ?_
                intro v150 h151
                refine tr_goto 19 dX10_by_88 (by decide) ?_
                exact ih32 _ v21 v150 I133 R134 hl23 hl24 hl25 rfl hS138 (by exact om_68881c41 g30 h151) (SkQ.st (SkQ.of (SkW.rc rp121 hS29.1 ta0 (fun a j q => (R13 hS29 (by decide +kernel) a j q).symm))) hW0 ta0 g136 (by decide +kernel) (by decide +kernel)) (by exact om_80aacbaa g30 hm32 h39.2 h39.1 h40 h54 h151)
              · skip
                refine tr_iload_n dX10_by_83 hl26 ?_
                refine tr_istore_n dX10_by_84 (by decide) (by decide) ?_
                refine q_iincE dX10_by_85 hl26 (by decide) (by decide) (by intro j1 j2; exact om_9c1e56ba g30 h39.2 h39.1 h40 j2) ?_
                intro v152 h153
                refine tr_goto 19 dX10_by_88 (by decide) ?_
                exact ih32 _ v22 v152 I133 R134 hl23 hl24 rfl rfl hS138 (by exact om_68881c41 g30 h153) (SkQ.st (SkQ.of (SkW.rc rp121 hS29.1 ta0 (fun a j q => (R13 hS29 (by decide +kernel) a j q).symm))) hW0 ta0 g136 (by decide +kernel) (by decide +kernel)) (by exact om_70d674ec g30 hm32 h39.2 h39.1 h40 h54 h149 h153)
    exact lp32 _ _ v17 v19 I0 R0 rfl rfl rfl rfl hS0 (by exact om_d99fa9e4 h20) hK (Nat.lt_succ_self _)
  · skip
    refine tr_aload_n dX10_by_8 rfl ?_
    refine q_iconst dX10_by_9 (by decide) ?_
    intro v154 h155
    refine q_callVi hE (M' := mX10_refused) (as := [_]) dX10_by_10 lk10_79 inX10_refused seX10_refused myX10_refused (by decide) ⟨by decide, by decide⟩ rfl (kR1 hS0.1 ta0) (Nat.le_of_ble_eq_true rfl) rfl rfl (by decide) (by decide) (fk_X10_refused hS0.1  ta0) ?_
    rintro v161 cn' K' N' I156 R157 L158 ⟨rfl, rfl, rfl, rfl, rfl, g159, p162, p163, -⟩
    have hS164 := hS0.tr g159 (by decide +kernel) (by decide +kernel)
    obtain ⟨v165, c166⟩ : ∃ v, I156 a0 17 = v := ⟨_, rfl⟩
    rw [c166] at p163
    exact tr_iret hZ dX10_by_13 rfl (by decide) (by decide) ⟨v161, rfl, rfl, rfl, rfl, rfl, hS164, (SkQ.st hK hW0 ta0 g159 (by decide +kernel) (by decide +kernel)), trivial⟩
def wik_X8_build_1 : List Nat := [768, 769, 778, 2303, 2367, 2431, 2495, 2559, 2623, 2687, 2751, 2815]
def wrk_X8_build_1 : List Nat := []
set_option maxHeartbeats 4000000 in
theorem fk_X8_build_1 {l : Launch} {T : Nat → Nat} {cn : Nat} {K N : Nat → Nat} {I0 : cz_I} {R0 : cz_R} {L0 : cz_L} {d : Int} (hW0 : Wf T cn K N I0 R0 d) (gX : Nat → Nat → Int) {a0 : Nat} (ta0 : T a0 = 12) {a1 : Nat} (ta1 : T a1 = 2) {a2 : Nat} (ta2 : T a2 = 9) {x3 : Int32} (hX : EvX I0 R0 a1 a2 gX) : ConE l mX8_build [.ref a0, .ref a1, .ref a2, .int x3] cn K N I0 R0 L0 (ca_v (fun cn' K' N' I' R' L' => cn = cn' ∧ K = K' ∧ N = N' ∧ R0 = R' ∧ L0 = L' ∧ St T cn K N d wik_X8_build_1 wrk_X8_build_1 I0 R0 I' R0 ∧ (SkF I' R0 a0 (I0 a1 0).toInt (I0 a1 1).toInt x3.toInt gX ((I0 a1 3).toInt.toNat + (I0 a2 2).toInt.toNat) (I0 a1 0).toInt) ∧ (FrS R0 a0 T I0 I') ∧ True)) := by
  refine ConE.of (by decide +kernel) rfl (Nat.le_of_ble_eq_true rfl) rfl (fun X hX hZ hE => ?_)
  subst hX
  have hS0 : St T cn K N d wik_X8_build_1 wrk_X8_build_1 I0 R0 I0 R0 := St.rf0 hW0
  obtain ⟨a11, d12, ta11⟩ := rf12_2 hW0 ta0
  obtain ⟨a13, d14, ta13⟩ := rf12_3 hW0 ta0
  obtain ⟨a15, d16, ta15⟩ := rf12_4 hW0 ta0
  obtain ⟨a17, d18, ta17⟩ := rf12_5 hW0 ta0
  obtain ⟨a19, d20, ta19⟩ := rf12_6 hW0 ta0
  obtain ⟨a21, d22, ta21⟩ := rf12_7 hW0 ta0
  obtain ⟨a23, d24, ta23⟩ := rf12_8 hW0 ta0
  obtain ⟨a25, d26, ta25⟩ := rf12_9 hW0 ta0
  obtain ⟨a27, d28, ta27⟩ := rf12_11 hW0 ta0
  obtain ⟨v29, c30⟩ : ∃ v, I0 a1 0 = v := ⟨_, rfl⟩
  have b31 := iv2_0 hW0 ta1 c30
  obtain ⟨v32, c33⟩ : ∃ v, I0 a1 1 = v := ⟨_, rfl⟩
  have b34 := iv2_1 hW0 ta1 c33
  obtain ⟨v35, c36⟩ : ∃ v, I0 a1 3 = v := ⟨_, rfl⟩
  have b37 := iv2_3 hW0 ta1 c36
  obtain ⟨v38, c39⟩ : ∃ v, I0 a2 2 = v := ⟨_, rfl⟩
  have b40 := iv9_2 hW0 ta2 c39
  obtain ⟨a41, d42, ta41⟩ := rf2_4 hW0 ta1
  obtain ⟨a43, d44, ta43⟩ := rf9_3 hW0 ta2
  obtain ⟨a45, d46, ta45⟩ := rf9_4 hW0 ta2
  refine tr_aload_n dX8_build_0 rfl ?_
  refine tr_aload_n dX8_build_1 rfl ?_
  refine q_getI dX8_build_2 fl8_40 (kR2 hS0.1 ta1) c30 ?_
  refine q_putI dX8_build_5 fl8_46 (kR12 hS0.1 ta0) (Or.inl rfl) hS0 ta0 (by show (0 : Int) ≤ v29.toInt ∧ v29.toInt ≤ (240 : Int); exact om_d956ef70 b31) rfl (by decide +kernel) ?_
  intro I47 hS48 e49 f50
  refine tr_aload_n dX8_build_8 rfl ?_
  refine q_iconst dX8_build_9 (by decide) ?_
  intro v51 h52
  refine tr_aload_n dX8_build_10 rfl ?_
  refine q_getI dX8_build_11 fl8_47 (kR2 hS48.1 ta1) ((hS48.cell ta1 (by decide +kernel)).trans c33) ?_
  refine tr_ishl dX8_build_14 ?_
  obtain ⟨v53, lx54⟩ : ∃ z, z = v51 <<< (v32 &&& 31) := ⟨_, rfl⟩
  rw [← lx54]
  refine q_iconst dX8_build_15 (by decide) ?_
  intro v55 h56
  refine tr_isub dX8_build_16 ?_
  obtain ⟨v57, lx58⟩ : ∃ z, z = v53 - v55 := ⟨_, rfl⟩
  rw [← lx58]
  refine q_putI dX8_build_17 fl8_50 (kR12 hS48.1 ta0) (Or.inl rfl) hS48 ta0 (iokF rfl) rfl (by decide +kernel) ?_
  intro I59 hS60 e61 f62
  have c63 : I59 a0 0 = v29 := (f62 _ _ (fun q => absurd q.2 (by decide))).trans e49
  refine tr_aload_n dX8_build_20 rfl ?_
  refine q_callVv hE (M' := mX8_wipe) (as := []) dX8_build_21 lk8_53 inX8_wipe seX8_wipe myX8_wipe (by decide) ⟨by decide, by decide⟩ rfl (kR12 hS60.1 ta0) (Nat.le_of_ble_eq_true rfl) rfl rfl (by decide) (by decide) (fk_X8_wipe hS60.1  ta0) ?_
  rintro cn' K' N' I64 R65 L66 ⟨rfl, rfl, rfl, rfl, rfl, g67, rp70, rp71, -⟩
  have hS72 := hS60.tr g67 (by decide +kernel) (by decide +kernel)
  have c73 : I64 a0 0 = v29 := (g67.cell ta0 (by decide +kernel)).trans c63
  have c74 : I64 a0 1 = v57 := (g67.cell ta0 (by decide +kernel)).trans e61
  refine q_iconst dX8_build_24 (by decide) ?_
  intro v75 h76
  refine tr_istore dX8_build_25 (by decide) (by decide) ?_
  have lp93 : ∀ (fu : Nat) (ls : Nat → Option Value) (v77 : Int32) (I83 : cz_I) (v85 : Int32), ls 0 = some (.ref a0) → ls 1 = some (.ref a1) → ls 2 = some (.ref a2) → ls 3 = some (.int x3) → ls 4 = some (.int v77) → St T cn K N d wik_X8_build_1 wrk_X8_build_1 I0 R0 I83 R0 → I83 a0 0 = v85 → 0 ≤ v77.toInt → v77.toInt ≤ v35.toInt → (SkR I83 R0 a0 v29.toInt x3.toInt gX (v77.toInt.toNat)) → (Bts (I83 a0 1) (fun j => if (j : Int) < v32.toInt then 1 else 0)) → (FrS R0 a0 T I0 I83) → (v85.toInt = v29.toInt) → (-v77.toInt + 2147483647).toNat < fu → Tr X mX8_build 27 ls [] cn K N I83 R0 L0 0 0 := by
    intro fu
    induction fu with
    | zero => intros; rename_i hz; exact absurd hz (Nat.not_lt_zero _)
    | succ fu ih93 =>
      intro ls v77 I83 v85 hl78 hl79 hl80 hl81 hl82 hS84 c86 g87 g88 rw89 rw90 rw91 rw92 hm93
      have b95 := iv12_0 hS84.1 ta0 c86
      refine tr_iload dX8_build_27 hl82 ?_
      refine tr_aload_n dX8_build_29 hl79 ?_
      refine q_getI dX8_build_30 fl8_56 (kR2 hS84.1 ta1) ((hS84.cell ta1 (by decide +kernel)).trans c36) ?_
      refine q_icmp_ge 59 dX8_build_33 (by decide) (fun h96 => ?_) (fun h96 => ?_)
      · skip
        refine q_iconst dX8_build_59 (by decide) ?_
        intro v97 h98
        refine tr_istore dX8_build_60 (by decide) (by decide) ?_
        have lp115 : ∀ (fu : Nat) (ls : Nat → Option Value) (v99 : Int32) (I105 : cz_I) (v107 : Int32), ls 0 = some (.ref a0) → ls 1 = some (.ref a1) → ls 2 = some (.ref a2) → ls 3 = some (.int x3) → ls 4 = some (.int v99) → St T cn K N d wik_X8_build_1 wrk_X8_build_1 I0 R0 I105 R0 → I105 a0 0 = v107 → 0 ≤ v99.toInt → v99.toInt ≤ v38.toInt → (SkR I105 R0 a0 v29.toInt x3.toInt gX (v35.toInt.toNat + v99.toInt.toNat)) → (Bts (I105 a0 1) (fun j => if (j : Int) < v32.toInt then 1 else 0)) → (FrS R0 a0 T I0 I105) → (v107.toInt = v29.toInt) → (-v99.toInt + 2147483647).toNat < fu → Tr X mX8_build 62 ls [] cn K N I105 R0 L0 0 0 := by
          intro fu
          induction fu with
          | zero => intros; rename_i hz; exact absurd hz (Nat.not_lt_zero _)
          | succ fu ih115 =>
            intro ls v99 I105 v107 hl100 hl101 hl102 hl103 hl104 hS106 c108 g109 g110 rw111 rw112 rw113 rw114 hm115
            have b117 := iv12_0 hS106.1 ta0 c108
            refine tr_iload dX8_build_62 hl104 ?_
            refine tr_aload_n dX8_build_64 hl102 ?_
            refine q_getI dX8_build_65 fl8_67 (kR9 hS106.1 ta2) ((hS106.cell ta2 (by decide +kernel)).trans c39) ?_
            refine q_icmp_ge 106 dX8_build_68 (by decide) (fun h118 => ?_) (fun h118 => ?_)
            · skip
              refine tr_aload_n dX8_build_106 hl100 ?_
              refine q_callVv hE (M' := mX8_findLight) (as := []) dX8_build_107 lk8_82 inX8_findLight seX8_findLight myX8_findLight (by decide) ⟨by decide, by decide⟩ rfl (kR12 hS106.1 ta0) (Nat.le_of_ble_eq_true rfl) rfl rfl (by decide) (by decide) (fk_X8_findLight hS106.1 (gX) (v35.toInt.toNat + v38.toInt.toNat) (x3.toInt) (v32.toInt) ta0 (by have z := rw111; rw [show v99.toInt.toNat = v38.toInt.toNat by exact om_b24f5785 b40.2 b40.1 g110 h118, show v29.toInt = v107.toInt by exact om_e0c98d2f rw92 rw114] at z; rw [c108]; exact z) rw112) ?_
              rintro cn' K' N' I119 R120 L121 ⟨rfl, rfl, rfl, rfl, rfl, g122, rp125, rp126, -⟩
              have hS127 := hS106.tr g122 (by decide +kernel) (by decide +kernel)
              have c128 : I119 a0 0 = v107 := (g122.cell ta0 (by decide +kernel)).trans c108
              refine tr_aload_n dX8_build_110 hl100 ?_
              refine tr_aload_n dX8_build_111 hl101 ?_
              obtain ⟨a129, d130, ta129⟩ := rf2_8 hW0 ta1
              refine tr_getR dX8_build_112 fl8_85 (kR2 hS127.1 ta1) d130 ?_
              refine q_callVv hE (M' := mX8_findStirs) (as := [_]) dX8_build_115 lk8_89 inX8_findStirs seX8_findStirs myX8_findStirs (by decide) ⟨by decide, by decide⟩ rfl (kR12 hS127.1 ta0) (Nat.le_of_ble_eq_true rfl) rfl rfl (by decide) (by decide) (fk_X8_findStirs hS127.1  ta0 ta129) ?_
              rintro cn' K' N' I131 R132 L133 ⟨rfl, rfl, rfl, rfl, rfl, g134, rp137, -⟩
              have hS138 := hS127.tr g134 (by decide +kernel) (by decide +kernel)
              have c139 : I131 a0 0 = v107 := (g134.cell ta0 (by decide +kernel)).trans c128
              exact tr_vret hZ dX8_build_118 rfl (by decide) (by decide) ⟨rfl, rfl, rfl, rfl, rfl, rfl, hS138, (by rw [c30, c33, c36, c39]; have z := SkF.kp rp125 (fun r m k h2 h9 hr => by have hk : k = 2 ∨ k = 3 ∨ k = 4 ∨ k = 5 ∨ k = 6 ∨ k = 7 ∨ k = 8 ∨ k = 9 := (by exact om_35773e17 h2 h9); rcases hk with rfl | rfl | rfl | rfl | rfl | rfl | rfl | rfl; exact g134.cell (hS106.1.rs ta0 rfl rfl hr : T r = 35) (wm_no (by decide +kernel)); exact g134.cell (hS106.1.rs ta0 rfl rfl hr : T r = 36) (wm_no (by decide +kernel)); exact g134.cell (hS106.1.rs ta0 rfl rfl hr : T r = 37) (wm_no (by decide +kernel)); exact g134.cell (hS106.1.rs ta0 rfl rfl hr : T r = 38) (wm_no (by decide +kernel)); exact g134.cell (hS106.1.rs ta0 rfl rfl hr : T r = 39) (wm_no (by decide +kernel)); exact g134.cell (hS106.1.rs ta0 rfl rfl hr : T r = 40) (wm_no (by decide +kernel)); exact g134.cell (hS106.1.rs ta0 rfl rfl hr : T r = 41) (wm_no (by decide +kernel)); exact g134.cell (hS106.1.rs ta0 rfl rfl hr : T r = 42) (wm_no (by decide +kernel))); rw [c108, show v107.toInt = v29.toInt by exact om_acd7a85a rw114] at z; exact z), ((rw113.tr rp126).tr rp137), trivial⟩
            · skip
              refine tr_aload_n dX8_build_71 hl101 ?_
              refine q_getI dX8_build_72 fl8_56 (kR2 hS106.1 ta1) ((hS106.cell ta1 (by decide +kernel)).trans c36) ?_
              refine tr_iload dX8_build_75 hl104 ?_
              refine q_iaddE dX8_build_77 (by intro j1 j2 j3 j4; exact om_75112dae b37.2 b37.1 b40.2 b40.1 g88 h96 g109 h118 j4) ?_
              intro v140 h141
              refine tr_iload_n dX8_build_78 hl103 ?_
              refine q_icmp_eq 100 dX8_build_79 (by decide) (fun h142 => ?_) (fun h142 => ?_)
              · skip
                refine q_iincE dX8_build_100 hl104 (by decide) (by decide) (by intro j1 j2; exact om_c595e85a b40.2 b40.1 g109 h118 j2) ?_
                intro v143 h144
                refine tr_goto 62 dX8_build_103 (by decide) ?_
                exact ih115 _ v143 I105 v107 hl100 hl101 hl102 hl103 rfl hS106 c108 (by exact om_68881c41 g109 h144) (by exact om_ed6eac99 h118 h144) (by rw [show v35.toInt.toNat + v143.toInt.toNat = v35.toInt.toNat + v99.toInt.toNat + 1 by exact om_c193f19a g109 h144]; exact SkR.skip rw111 (by exact om_351b2f94 b37.2 b37.1 g88 h96 g109 h141 h142 h144)) (by rw [show (0 : Int) = 0 from rfl]; exact rw112) rw113 (by exact om_acd7a85a rw114) (by exact om_1a7a8c09 b40.2 b40.1 g109 hm115 h118 h144)
              · skip
                refine tr_aload_n dX8_build_82 hl100 ?_
                refine tr_aload_n dX8_build_83 hl102 ?_
                refine tr_getR dX8_build_84 fl8_72 (kR9 hS106.1 ta2) d44 ?_
                refine tr_iload dX8_build_87 hl104 ?_
                refine q_iald dX8_build_89 (kR29 hS106.1 ta43) (ti_in (nR29 hS106.1 ta43) (by exact om_2cfcd5a5 g109) (by exact om_2b874313 b40.2 b40.1 h118)) ?_
                intro v145 c146
                have b147 := iv29 hS106.1 ta43 c146
                refine tr_aload_n dX8_build_90 hl102 ?_
                refine tr_getR dX8_build_91 fl8_75 (kR9 hS106.1 ta2) d46 ?_
                refine tr_iload dX8_build_94 hl104 ?_
                refine q_iald dX8_build_96 (kR30 hS106.1 ta45) (ti_in (nR30 hS106.1 ta45) (by exact om_2cfcd5a5 g109) (by exact om_2b874313 b40.2 b40.1 h118)) ?_
                intro v148 c149
                have b150 := iv30 hS106.1 ta45 c149
                refine q_callVv hE (M' := mX8_layCloud) (as := [_, _]) dX8_build_97 lk8_78 inX8_layCloud seX8_layCloud myX8_layCloud (by decide) ⟨by decide, by decide⟩ rfl (kR12 hS106.1 ta0) (Nat.le_of_ble_eq_true rfl) rfl rfl (by decide) (by decide) (fk_X8_layCloud hS106.1  ta0 (by exact om_d956ef70 b147) (by exact om_d956ef70 b150)) ?_
                rintro cn' K' N' I151 R152 L153 ⟨rfl, rfl, rfl, rfl, rfl, g154, rp157, rp158, -⟩
                have hS159 := hS106.tr g154 (by decide +kernel) (by decide +kernel)
                have c160 : I151 a0 0 = v107 := (g154.cell ta0 (by decide +kernel)).trans c108
                refine q_iincE dX8_build_100 hl104 (by decide) (by decide) (by intro j1 j2; exact om_c595e85a b40.2 b40.1 g109 h118 j2) ?_
                intro v161 h162
                refine tr_goto 62 dX8_build_103 (by decide) ?_
                exact ih115 _ v161 I151 v107 hl100 hl101 hl102 hl103 rfl hS159 c160 (by exact om_68881c41 g109 h162) (by exact om_ed6eac99 h118 h162) (by have hx := (hX.2 _ _ v99.toInt.toNat d44 d46 (by rw [c39]; exact om_e6cc3510 g109 h118 h162)); rw [c36, (show (I0 a43 v99.toInt.toNat) = v145 from (hS106.cell ta43 (wm_no (by decide +kernel))).symm.trans c146), (show (I0 a45 v99.toInt.toNat) = v148 from (hS106.cell ta45 (wm_no (by decide +kernel))).symm.trans c149)] at hx; rw [show v35.toInt.toNat + v161.toInt.toNat = v35.toInt.toNat + v99.toInt.toNat + 1 by exact om_c193f19a g109 h162]; exact SkR.lay (kd := 0) (fr := v145.toInt) (to := v148.toInt) (hut := 0) rw111 (by exact om_9ef9e281 b37.2 b37.1 g88 h96 g109 h141 h142 h162) hx.1 hx.2.1 hx.2.2 (fun w => by exfalso; exact om_10a4a942 w) (fun r hr => LyI.z (fun m => (g154.cell (hS106.1.rs ta0 rfl rfl hr : T r = 35) (wm_no (by decide +kernel)))) (by split <;> omega)) (fun r hr => LyI.z (fun m => (g154.cell (hS106.1.rs ta0 rfl rfl hr : T r = 36) (wm_no (by decide +kernel)))) (by split <;> omega)) (fun r hr => by rw [if_pos rfl]; exact rp157 _ hr) (fun r hr => LyB.z (fun m => (g154.cell (hS106.1.rs ta0 rfl rfl hr : T r = 38) (wm_no (by decide +kernel)))) (by split <;> omega)) (fun r hr => LyB.z (fun m => (g154.cell (hS106.1.rs ta0 rfl rfl hr : T r = 40) (wm_no (by decide +kernel)))) (by split <;> omega))) (by rw [show I151 a0 1 = _ from (g154.cell ta0 (wm_no (by decide +kernel)))]; exact rw112) (rw113.tr rp158) (by exact om_acd7a85a rw114) (by exact om_3727aaeb b40.2 b40.1 g109 hm115 h118 h142 h162)
        exact lp115 _ _ v97 I83 v85 hl78 hl79 hl80 hl81 rfl hS84 c86 (by exact om_d99fa9e4 h98) (by exact om_8dd4330e b40.2 b40.1 h98) (by have z := rw89; rw [show v77.toInt.toNat = v35.toInt.toNat + v97.toInt.toNat by exact om_e991116b b37.2 b37.1 g88 h96 h98] at z; exact z) (by rw [show (0 : Int) = 0 from rfl]; exact rw90) rw91 (by exact om_acd7a85a rw92) (Nat.lt_succ_self _)
      · skip
        refine tr_iload dX8_build_36 hl82 ?_
        refine tr_iload_n dX8_build_38 hl81 ?_
        refine q_icmp_eq 53 dX8_build_39 (by decide) (fun h163 => ?_) (fun h163 => ?_)
        · skip
          refine q_iincE dX8_build_53 hl82 (by decide) (by decide) (by intro j1 j2; exact om_ea605c05 b37.2 b37.1 g87 h96 h163 j2) ?_
          intro v164 h165
          refine tr_goto 27 dX8_build_56 (by decide) ?_
          exact ih93 _ v164 I83 v85 hl78 hl79 hl80 hl81 rfl hS84 c86 (by exact om_075c04dc g87 h163 h165) (by exact om_be2a04d7 h96 h163 h165) (by rw [show v164.toInt.toNat = v77.toInt.toNat + 1 by exact om_a0c7ed41 g87 h163 h165]; exact SkR.skip rw89 (by exact om_6b98728a g87 h163 h165)) (by rw [show (0 : Int) = 0 from rfl]; exact rw90) rw91 (by exact om_acd7a85a rw92) (by exact om_cdf17a06 b37.2 b37.1 g87 hm93 h96 h163 h165)
        · skip
          refine tr_aload_n dX8_build_42 hl78 ?_
          refine tr_aload_n dX8_build_43 hl79 ?_
          refine tr_getR dX8_build_44 fl8_59 (kR2 hS84.1 ta1) d42 ?_
          refine tr_iload dX8_build_47 hl82 ?_
          obtain ⟨a166, d167, ta166⟩ := rf19 hS84.1 ta41 (j := v77.toNatClampNeg) (ti_lt (by exact om_2cfcd5a5 g87) (by exact om_d7ac722a b37.2 b37.1 h96))
          refine tr_aald dX8_build_49 (kR19 hS84.1 ta41) (by decide) (by decide) (ti_in (nR19 hS84.1 ta41) (by exact om_2cfcd5a5 g87) (by exact om_d7ac722a b37.2 b37.1 h96)) d167 ?_
          obtain ⟨v168, c169⟩ : ∃ v, I0 a166 0 = v := ⟨_, rfl⟩
          obtain ⟨v171, c172⟩ : ∃ v, I0 a166 1 = v := ⟨_, rfl⟩
          obtain ⟨v173, c174⟩ : ∃ v, I0 a166 2 = v := ⟨_, rfl⟩
          have b175 := iv3_2 hW0 ta166 c174
          obtain ⟨v176, c177⟩ : ∃ v, I0 a166 3 = v := ⟨_, rfl⟩
          have b178 := iv3_3 hW0 ta166 c177
          have hq170 := hX.1 _ d42 v77.toInt.toNat _ (by rw [c36]; exact om_479568b2 g87 h96) d167
          have hq170k : 0 ≤ v168.toInt ∧ v168.toInt ≤ 4 := by obtain ⟨q0, -, -, -, q4, q5, -⟩ := hq170; rw [c169] at q0; exact om_37240190 q0 q4 q5
          refine q_callVv hE (M' := mX8_layEvent) (as := [_]) dX8_build_50 lk8_63 inX8_layEvent seX8_layEvent myX8_layEvent (by decide) ⟨by decide, by decide⟩ rfl (kR12 hS84.1 ta0) (Nat.le_of_ble_eq_true rfl) rfl rfl (by decide) (by decide) (fk_X8_layEvent hS84.1  ta0 ta166 (by (try rw [((hS84.cell ta166 (by decide +kernel)).trans c169)]); first | done | with_reducible assumption | exact om_e221d927 hq170k.2 hq170k.1) (by (try rw [((hS84.cell ta166 (by decide +kernel)).trans c169)]); first | done | with_reducible assumption | exact om_6205cb58 hq170k.2 hq170k.1)) ?_
          rintro cn' K' N' I179 R180 L181 ⟨rfl, rfl, rfl, rfl, rfl, g182, rp185, rp186, rp187, rp188, rp189, rp190, -⟩
          have hS191 := hS84.tr g182 (by decide +kernel) (by decide +kernel)
          have c192 : I179 a0 0 = v85 := (g182.cell ta0 (by decide +kernel)).trans c86
          refine q_iincE dX8_build_53 hl82 (by decide) (by decide) (by have z0 := x3.toInt_lt; have y0 := x3.le_toInt; intros; omega) ?_
          intro v193 h194
          refine tr_goto 27 dX8_build_56 (by decide) ?_
          exact ih93 _ v193 I179 v85 hl78 hl79 hl80 hl81 rfl hS191 c192 (by exact om_68881c41 g87 h194) (by exact om_ed6eac99 h96 h194) (by rw [show v193.toInt.toNat = v77.toInt.toNat + 1 by exact om_79cef90a g87 h194]; exact SkR.lay rw89 (by exact om_81b3d7ea g87 h163 hq170.2.2.2.2.2.2 hq170.2.2.2.2.2.1 hq170.2.2.2.2.1 h194) (by rw [(hS84.cell ta166 (by decide +kernel))]; exact (hq170.1).symm) (by rw [(hS84.cell ta166 (by decide +kernel))]; exact (hq170.2.2.1).symm) (by rw [(hS84.cell ta166 (by decide +kernel))]; exact (hq170.2.2.2.1).symm) (fun w => by rw [(hS84.cell ta166 (by decide +kernel))] at w; rw [(hS84.cell ta166 (by decide +kernel))]; obtain ⟨q0, q1, -, -, -, -, q6⟩ := hq170; have y := q6 (by exact om_4cd56517 w q0 q6); exact om_4dbe6cd5 q1 y.2 y.1) rp185 rp186 rp187 rp188 rp189) (by rw [show I179 a0 1 = _ from (g182.cell ta0 (wm_no (by decide +kernel)))]; exact rw90) (rw91.tr rp190) (by exact om_acd7a85a rw92) (by exact om_8ed6cffe b37.2 b37.1 g87 hm93 h96 h163 hq170.2.2.2.2.2.2 hq170.2.2.2.2.2.1 hq170.2.2.2.2.1 h194)
  exact lp93 _ _ v75 I64 v29 rfl rfl rfl rfl rfl hS72 c73 (by exact om_d99fa9e4 h76) (by exact om_53c874f4 b37.2 b37.1 h76) (by rw [show v75.toInt.toNat = 0 by exact om_8b46d78f h76]; exact SkR.z (fun r m h hm => rp70 r m h (by rw [c63]; exact om_0880b626 hm))) (by rw [c74, lx58, lx54]; exact Bts.all (by exact om_ee8a1e2d h52) (by exact om_ee8a1e2d h56) (by exact om_e221d927 b34.2 b34.1) (by exact om_6205cb58 b34.2 b34.1)) ((((FrS.rf (R := R0) (sk := a0) (T := T)).po f50 rfl ta0).po f62 rfl ta0).tr rp71) (by exact om_4ee7209a) (Nat.lt_succ_self _)
def wik_X10_nights : List Nat := [81, 576, 577, 578, 768, 769, 778, 834, 1919, 1983, 2303, 2367, 2431, 2495, 2559, 2623, 2687, 2751, 2815, 2879, 2943, 3007, 3071, 3135, 3199, 3263, 3327, 3391]
def wrk_X10_nights : List Nat := [832, 833]
set_option maxHeartbeats 4000000 in
theorem fk_X10_nights {l : Launch} {T : Nat → Nat} {cn : Nat} {K N : Nat → Nat} {I0 : cz_I} {R0 : cz_R} {L0 : cz_L} {d : Int} (hW0 : Wf T cn K N I0 R0 d) (gX : Nat → Nat → Int) {a0 : Nat} (ta0 : T a0 = 1) {x1 : Int32} {x2 : Int32} {x3 : Int32} (hX : EvQ I0 R0 a0 gX) (hK : SkQ I0 R0 a0 gX) (hD : DjS R0 a0) : ConE l mX10_nights [.ref a0, .int x1, .int x2, .int x3] cn K N I0 R0 L0 (ca_i (fun v cn' K' N' I' R' L' => cn = cn' ∧ K = K' ∧ N = N' ∧ L0 = L' ∧ St T cn K N d wik_X10_nights wrk_X10_nights I0 R0 I' R' ∧ (SkQ I' R0 a0 gX) ∧ True)) := by
  refine ConE.of (by decide +kernel) rfl (Nat.le_of_ble_eq_true rfl) rfl (fun X hX hZ hE => ?_)
  subst hX
  have hS0 : St T cn K N d wik_X10_nights wrk_X10_nights I0 R0 I0 R0 := St.rf0 hW0
  obtain ⟨a1, d2, ta1⟩ := rf1_2 hW0 ta0
  obtain ⟨a3, d4, ta3⟩ := rf1_6 hW0 ta0
  obtain ⟨a5, d6, ta5⟩ := rf1_8 hW0 ta0
  obtain ⟨a7, d8, ta7⟩ := rf1_13 hW0 ta0
  refine tr_aload_n dX10_nights_0 rfl ?_
  obtain ⟨v9, c10⟩ : ∃ v, I0 a0 5 = v := ⟨_, rfl⟩
  have b11 := iv1_5 hW0 ta0 c10
  refine q_getZ dX10_nights_1 fl10_95 (kR1 hS0.1 ta0) c10 ?_
  refine q_if_ne 13 dX10_nights_4 (by decide) (fun h12 => ?_) (fun h12 => ?_)
  · skip
    refine tr_iload_n dX10_nights_13 rfl ?_
    refine q_callSi hE (M' := mX10_isSeed) (as := [_]) dX10_nights_14 lk10_266 inX10_isSeed myX10_isSeed ⟨by decide, by decide⟩ rfl (Nat.le_of_ble_eq_true rfl) rfl rfl (by decide) (by decide) (fk_X10_isSeed hS0.1  ) ?_
    rintro v18 cn' K' N' I13 R14 L15 ⟨rfl, rfl, rfl, rfl, rfl, rfl, h19, p20, p21, -⟩
    refine q_if_eq 41 dX10_nights_17 (by decide) (fun h22 => ?_) (fun h22 => ?_)
    · skip
      refine tr_aload_n dX10_nights_41 rfl ?_
      refine q_iconst dX10_nights_42 (by decide) ?_
      intro v23 h24
      refine q_callVi hE (M' := mX10_refusedTotal) (as := [_]) dX10_nights_43 lk10_178 inX10_refusedTotal seX10_refusedTotal myX10_refusedTotal (by decide) ⟨by decide, by decide⟩ rfl (kR1 hS0.1 ta0) (Nat.le_of_ble_eq_true rfl) rfl rfl (by decide) (by decide) (k_X10_refusedTotal hS0.1 ta0) ?_
      rintro v29 cn' K' N' I25 R26 L27 ⟨rfl, rfl, rfl, rfl, rfl, g28, -⟩
      have hS30 := hS0.tr g28 (by decide +kernel) (by decide +kernel)
      exact tr_iret hZ dX10_nights_46 rfl (by decide) (by decide) ⟨v29, rfl, rfl, rfl, rfl, rfl, hS30, (SkQ.st hK hW0 ta0 g28 (by decide +kernel) (by decide +kernel)), trivial⟩
    · skip
      refine tr_iload_n dX10_nights_20 rfl ?_
      refine q_iconst dX10_nights_21 (by decide) ?_
      intro v31 h32
      refine q_icmp_lt 41 dX10_nights_22 (by decide) (fun h33 => ?_) (fun h33 => ?_)
      · skip
        refine tr_aload_n dX10_nights_41 rfl ?_
        refine q_iconst dX10_nights_42 (by decide) ?_
        intro v34 h35
        refine q_callVi hE (M' := mX10_refusedTotal) (as := [_]) dX10_nights_43 lk10_178 inX10_refusedTotal seX10_refusedTotal myX10_refusedTotal (by decide) ⟨by decide, by decide⟩ rfl (kR1 hS0.1 ta0) (Nat.le_of_ble_eq_true rfl) rfl rfl (by decide) (by decide) (k_X10_refusedTotal hS0.1 ta0) ?_
        rintro v40 cn' K' N' I36 R37 L38 ⟨rfl, rfl, rfl, rfl, rfl, g39, -⟩
        have hS41 := hS0.tr g39 (by decide +kernel) (by decide +kernel)
        exact tr_iret hZ dX10_nights_46 rfl (by decide) (by decide) ⟨v40, rfl, rfl, rfl, rfl, rfl, hS41, (SkQ.st hK hW0 ta0 g39 (by decide +kernel) (by decide +kernel)), trivial⟩
      · skip
        refine tr_iload_n dX10_nights_25 rfl ?_
        refine q_bipush dX10_nights_26 (by decide +kernel) ?_
        intro v42 h43
        refine q_icmp_gt 41 dX10_nights_28 (by decide) (fun h44 => ?_) (fun h44 => ?_)
        · skip
          refine tr_aload_n dX10_nights_41 rfl ?_
          refine q_iconst dX10_nights_42 (by decide) ?_
          intro v45 h46
          refine q_callVi hE (M' := mX10_refusedTotal) (as := [_]) dX10_nights_43 lk10_178 inX10_refusedTotal seX10_refusedTotal myX10_refusedTotal (by decide) ⟨by decide, by decide⟩ rfl (kR1 hS0.1 ta0) (Nat.le_of_ble_eq_true rfl) rfl rfl (by decide) (by decide) (k_X10_refusedTotal hS0.1 ta0) ?_
          rintro v51 cn' K' N' I47 R48 L49 ⟨rfl, rfl, rfl, rfl, rfl, g50, -⟩
          have hS52 := hS0.tr g50 (by decide +kernel) (by decide +kernel)
          exact tr_iret hZ dX10_nights_46 rfl (by decide) (by decide) ⟨v51, rfl, rfl, rfl, rfl, rfl, hS52, (SkQ.st hK hW0 ta0 g50 (by decide +kernel) (by decide +kernel)), trivial⟩
        · skip
          refine tr_iload_n dX10_nights_31 rfl ?_
          refine q_if_lt 41 dX10_nights_32 (by decide) (fun h53 => ?_) (fun h53 => ?_)
          · skip
            refine tr_aload_n dX10_nights_41 rfl ?_
            refine q_iconst dX10_nights_42 (by decide) ?_
            intro v54 h55
            refine q_callVi hE (M' := mX10_refusedTotal) (as := [_]) dX10_nights_43 lk10_178 inX10_refusedTotal seX10_refusedTotal myX10_refusedTotal (by decide) ⟨by decide, by decide⟩ rfl (kR1 hS0.1 ta0) (Nat.le_of_ble_eq_true rfl) rfl rfl (by decide) (by decide) (k_X10_refusedTotal hS0.1 ta0) ?_
            rintro v60 cn' K' N' I56 R57 L58 ⟨rfl, rfl, rfl, rfl, rfl, g59, -⟩
            have hS61 := hS0.tr g59 (by decide +kernel) (by decide +kernel)
            exact tr_iret hZ dX10_nights_46 rfl (by decide) (by decide) ⟨v60, rfl, rfl, rfl, rfl, rfl, hS61, (SkQ.st hK hW0 ta0 g59 (by decide +kernel) (by decide +kernel)), trivial⟩
          · skip
            refine tr_iload_n dX10_nights_35 rfl ?_
            refine q_bipush dX10_nights_36 (by decide +kernel) ?_
            intro v62 h63
            refine q_icmp_le 47 dX10_nights_38 (by decide) (fun h64 => ?_) (fun h64 => ?_)
            · skip
              refine tr_aload_n dX10_nights_47 rfl ?_
              obtain ⟨a65, d66, ta65⟩ := rf1_12 hW0 ta0
              refine tr_getR dX10_nights_48 fl10_62 (kR1 hS0.1 ta0) d66 ?_
              refine q_callVv hE (M' := mX3_clear) (as := []) dX10_nights_51 lk10_99 inX3_clear seX3_clear myX3_clear (by decide) ⟨by decide, by decide⟩ rfl (kR9 hS0.1 ta65) (Nat.le_of_ble_eq_true rfl) rfl rfl (by decide) (by decide) (k_X3_clear_1 hS0.1 ta65) ?_
              rintro cn' K' N' I67 R68 L69 ⟨rfl, rfl, rfl, rfl, rfl, g70, -⟩
              have hS72 := hS0.tr g70 (by decide +kernel) (by decide +kernel)
              refine tr_aload_n dX10_nights_54 rfl ?_
              refine tr_getR dX10_nights_55 fl10_62 (kR1 hS72.1 ta0) d66 ?_
              refine tr_iload_n dX10_nights_58 rfl ?_
              refine q_putI dX10_nights_59 fl10_269 (kR9 hS72.1 ta65) (Or.inl rfl) hS72 ta65 (by show (0 : Int) ≤ x1.toInt ∧ x1.toInt ≤ (65536 : Int); exact om_10c3df62 h19.2 h19.1 p20 p21 h22) rfl (by decide +kernel) ?_
              intro I73 hS74 e75 f76
              refine q_iconst dX10_nights_62 (by decide) ?_
              intro v77 h78
              refine tr_istore dX10_nights_63 (by decide) (by decide) ?_
              refine q_iconst dX10_nights_65 (by decide) ?_
              intro v79 h80
              refine tr_istore dX10_nights_66 (by decide) (by decide) ?_
              have lp94 : ∀ (fu : Nat) (ls : Nat → Option Value) (v81 : Int32) (v82 : Int32) (I89 : cz_I) (R90 : cz_R), ls 0 = some (.ref a0) → ls 1 = some (.int x1) → ls 2 = some (.int x2) → ls 3 = some (.int x3) → ls 4 = some (.int v81) → ls 5 = some (.int v82) → St T cn K N d wik_X10_nights wrk_X10_nights I0 R0 I89 R90 → 0 ≤ v82.toInt → (SkQ I89 R0 a0 gX) → (-v82.toInt + 2147483647).toNat < fu → Tr X mX10_nights 68 ls [] cn K N I89 R90 L0 0 0 := by
                intro fu
                induction fu with
                | zero => intros; rename_i hz; exact absurd hz (Nat.not_lt_zero _)
                | succ fu ih94 =>
                  intro ls v81 v82 I89 R90 hl83 hl84 hl85 hl86 hl87 hl88 hS91 g92 rw93 hm94
                  refine tr_iload dX10_nights_68 hl88 ?_
                  refine tr_iload_n dX10_nights_70 hl85 ?_
                  refine q_icmp_ge 172 dX10_nights_71 (by decide) (fun h96 => ?_) (fun h96 => ?_)
                  · skip
                    refine tr_aload_n dX10_nights_172 hl83 ?_
                    refine tr_iload dX10_nights_173 hl87 ?_
                    refine q_callVi hE (M' := mX10_answered) (as := [_]) dX10_nights_175 lk10_109 inX10_answered seX10_answered myX10_answered (by decide) ⟨by decide, by decide⟩ rfl (kR1 hS91.1 ta0) (Nat.le_of_ble_eq_true rfl) rfl rfl (by decide) (by decide) (fk_X10_answered hS91.1  ta0) ?_
                    rintro v102 cn' K' N' I97 R98 L99 ⟨rfl, rfl, rfl, rfl, rfl, g100, p103, p104, -⟩
                    have hS105 := hS91.tr g100 (by decide +kernel) (by decide +kernel)
                    obtain ⟨v106, c107⟩ : ∃ v, I97 a0 17 = v := ⟨_, rfl⟩
                    rw [c107] at p104
                    exact tr_iret hZ dX10_nights_178 rfl (by decide) (by decide) ⟨v102, rfl, rfl, rfl, rfl, rfl, hS105, (SkQ.st rw93 hW0 ta0 g100 (by decide +kernel) (by decide +kernel)), trivial⟩
                  · skip
                    refine tr_aload_n dX10_nights_74 hl83 ?_
                    refine tr_getR dX10_nights_75 fl10_62 (kR1 hS91.1 ta0) ((hS91.rcell ta0 (by decide +kernel)).trans d66) ?_
                    refine q_iconst dX10_nights_78 (by decide) ?_
                    intro v108 h109
                    refine q_putI dX10_nights_79 fl10_272 (kR9 hS91.1 ta65) (Or.inl rfl) hS91 ta65 (by show (0 : Int) ≤ v108.toInt ∧ v108.toInt ≤ (6 : Int); exact om_a3bde316 h109) rfl (by decide +kernel) ?_
                    intro I110 hS111 e112 f113
                    refine q_iconst dX10_nights_82 (by decide) ?_
                    intro v114 h115
                    refine tr_istore dX10_nights_83 (by decide) (by decide) ?_
                    have lp129 : ∀ (fu : Nat) (ls : Nat → Option Value) (v116 : Int32) (I124 : cz_I) (R125 : cz_R), ls 0 = some (.ref a0) → ls 1 = some (.int x1) → ls 2 = some (.int x2) → ls 3 = some (.int x3) → ls 4 = some (.int v81) → ls 5 = some (.int v82) → ls 6 = some (.int v116) → St T cn K N d wik_X10_nights wrk_X10_nights I0 R0 I124 R125 → 0 ≤ v116.toInt → (SkQ I124 R0 a0 gX) → (-v116.toInt + 2147483647).toNat < fu → Tr X mX10_nights 85 ls [] cn K N I124 R125 L0 0 0 := by
                      intro fu
                      induction fu with
                      | zero => intros; rename_i hz; exact absurd hz (Nat.not_lt_zero _)
                      | succ fu ih129 =>
                        intro ls v116 I124 R125 hl117 hl118 hl119 hl120 hl121 hl122 hl123 hS126 g127 rw128 hm129
                        refine tr_iload dX10_nights_85 hl123 ?_
                        refine tr_iload_n dX10_nights_87 hl120 ?_
                        refine q_icmp_ge 112 dX10_nights_88 (by decide) (fun h131 => ?_) (fun h131 => ?_)
                        · skip
                          refine tr_aload_n dX10_nights_112 hl117 ?_
                          refine tr_getR dX10_nights_113 fl10_65 (kR1 hS126.1 ta0) ((hS126.rcell ta0 (by decide +kernel)).trans d8) ?_
                          refine tr_aload_n dX10_nights_116 hl117 ?_
                          refine tr_getR dX10_nights_117 fl10_16 (kR1 hS126.1 ta0) ((hS126.rcell ta0 (by decide +kernel)).trans d2) ?_
                          refine tr_aload_n dX10_nights_120 hl117 ?_
                          refine tr_getR dX10_nights_121 fl10_62 (kR1 hS126.1 ta0) ((hS126.rcell ta0 (by decide +kernel)).trans d66) ?_
                          refine q_iconst dX10_nights_124 (by decide) ?_
                          intro v132 h133
                          obtain ⟨v134, c135⟩ : ∃ v, I0 a1 3 = v := ⟨_, rfl⟩
                          have b136 := iv2_3 hW0 ta1 c135
                          refine q_callVv hE (M' := mX8_build) (as := [_, _, _]) dX10_nights_125 lk10_237 inX8_build seX8_build myX8_build (by decide) ⟨by decide, by decide⟩ rfl (kR12 hS126.1 ta7) (Nat.le_of_ble_eq_true rfl) rfl rfl (by decide) (by decide) (fk_X8_build_1 hS126.1 (XO I124 R125 a1 a65 gX) ta7 ta1 ta65 (EvX.oth ((EvQ.rc (EvQ.st hX hW0 ta0 hS126 (by decide +kernel)) hW0 ta0 (R13 hS126 (by decide +kernel))) _ _ ((hS126.rcell ta0 (by decide +kernel)).trans d2) ((hS126.rcell ta0 (by decide +kernel)).trans d4)) (by rw [((hS126.cell ta1 (by decide +kernel)).trans c135)]; exact om_93f4c4ca b136.2 b136.1))) ?_
                          rintro cn' K' N' I137 R138 L139 ⟨rfl, rfl, rfl, rfl, rfl, g140, rp143, rp144, -⟩
                          have hS145 := hS126.tr g140 (by decide +kernel) (by decide +kernel)
                          refine tr_aload_n dX10_nights_128 hl117 ?_
                          obtain ⟨a146, d147, ta146⟩ := rf1_14 hW0 ta0
                          refine tr_getR dX10_nights_129 fl10_68 (kR1 hS145.1 ta0) ((hS145.rcell ta0 (by decide +kernel)).trans d147) ?_
                          refine tr_aload_n dX10_nights_132 hl117 ?_
                          refine tr_getR dX10_nights_133 fl10_16 (kR1 hS145.1 ta0) ((hS145.rcell ta0 (by decide +kernel)).trans d2) ?_
                          refine tr_aload_n dX10_nights_136 hl117 ?_
                          refine tr_getR dX10_nights_137 fl10_65 (kR1 hS145.1 ta0) ((hS145.rcell ta0 (by decide +kernel)).trans d8) ?_
                          refine tr_aload_n dX10_nights_140 hl117 ?_
                          refine tr_getR dX10_nights_141 fl10_35 (kR1 hS145.1 ta0) ((hS145.rcell ta0 (by decide +kernel)).trans d4) ?_
                          obtain ⟨v148, c149⟩ : ∃ v, I0 a3 0 = v := ⟨_, rfl⟩
                          refine q_getI dX10_nights_144 fl10_181 (kR8 hS145.1 ta3) ((hS145.cell ta3 (by decide +kernel)).trans c149) ?_
                          refine tr_aload_n dX10_nights_147 hl117 ?_
                          refine q_callVi hE (M' := mX10_allTurners) (as := []) dX10_nights_148 lk10_184 inX10_allTurners seX10_allTurners myX10_allTurners (by decide) ⟨by decide, by decide⟩ rfl (kR1 hS145.1 ta0) (Nat.le_of_ble_eq_true rfl) rfl rfl (by decide) (by decide) (k_X10_allTurners hS145.1 ta0) ?_
                          rintro v154 cn' K' N' I150 R151 L152 ⟨rfl, rfl, rfl, rfl, rfl, rfl, h155, -⟩
                          refine q_callVv hE (M' := mX5_play) (as := [_, _, _, _]) dX10_nights_151 lk10_188 inX5_play seX5_play myX5_play (by decide) ⟨by decide, by decide⟩ rfl (kR13 hS145.1 ta146) (Nat.le_of_ble_eq_true rfl) rfl rfl (by decide) (by decide) (k_X5_play hS145.1 ta146 ta1 ta7) ?_
                          rintro cn' K' N' I156 R157 L158 ⟨rfl, rfl, rfl, rfl, g159, -⟩
                          have hS161 := hS145.tr g159 (by decide +kernel) (by decide +kernel)
                          refine tr_iload dX10_nights_154 hl121 ?_
                          refine tr_aload_n dX10_nights_156 hl117 ?_
                          refine tr_getR dX10_nights_157 fl10_68 (kR1 hS161.1 ta0) ((hS161.rcell ta0 (by decide +kernel)).trans d147) ?_
                          refine q_callVi hE (M' := mX5_sum) (as := []) dX10_nights_160 lk10_192 inX5_sum seX5_sum myX5_sum (by decide) ⟨by decide, by decide⟩ rfl (kR13 hS161.1 ta146) (Nat.le_of_ble_eq_true rfl) rfl rfl (by decide) (by decide) (k_X5_sum hS161.1 ta146) ?_
                          rintro v166 cn' K' N' I162 R163 L164 ⟨rfl, rfl, rfl, rfl, rfl, rfl, -⟩
                          refine q_iadd dX10_nights_163 ?_
                          intro v167
                          refine tr_istore dX10_nights_164 (by decide) (by decide) ?_
                          refine q_iincE dX10_nights_166 hl122 (by decide) (by decide) (by intro j1 j2; exact om_968345ed h43 h44 g92 h96 j2) ?_
                          intro v168 h169
                          refine tr_goto 68 dX10_nights_169 (by decide) ?_
                          exact ih94 _ v167 v168 I156 R157 hl117 hl118 hl119 hl120 rfl rfl hS161 (by exact om_68881c41 g92 h169) (SkQ.st (SkQ.fs rw128 hW0 ta0 g140 hD d8 (FrS.rc rp144 (fun k => (R13 hS126 (by decide +kernel) _ k (by rw [ta7]; decide)).symm)) (by decide +kernel) (by decide +kernel)) hW0 ta0 g159 (by decide +kernel) (by decide +kernel)) (by exact om_eae6c0aa h43 h44 g92 hm94 h96 h169)
                        · skip
                          refine tr_aload_n dX10_nights_91 hl117 ?_
                          refine tr_getR dX10_nights_92 fl10_62 (kR1 hS126.1 ta0) ((hS126.rcell ta0 (by decide +kernel)).trans d66) ?_
                          refine tr_aload_n dX10_nights_95 hl117 ?_
                          refine tr_getR dX10_nights_96 fl10_16 (kR1 hS126.1 ta0) ((hS126.rcell ta0 (by decide +kernel)).trans d2) ?_
                          obtain ⟨v170, c171⟩ : ∃ v, I0 a1 0 = v := ⟨_, rfl⟩
                          have b172 := iv2_0 hW0 ta1 c171
                          refine q_getI dX10_nights_99 fl10_146 (kR2 hS126.1 ta1) ((hS126.cell ta1 (by decide +kernel)).trans c171) ?_
                          refine q_callVi hE (M' := mX3_addDrawn) (as := [_]) dX10_nights_102 lk10_275 inX3_addDrawn seX3_addDrawn myX3_addDrawn (by decide) ⟨by decide, by decide⟩ rfl (kR9 hS126.1 ta65) (Nat.le_of_ble_eq_true rfl) rfl rfl (by decide) (by decide) (k_X3_addDrawn hS126.1 ta65 (by exact om_d956ef70 b172)) ?_
                          rintro v177 cn' K' N' I173 R174 L175 ⟨rfl, rfl, rfl, rfl, rfl, g176, h178, -⟩
                          have hS179 := hS126.tr g176 (by decide +kernel) (by decide +kernel)
                          refine tr_pop dX10_nights_105 rfl ?_
                          refine q_iincE dX10_nights_106 hl123 (by decide) (by decide) (by intro j1 j2; exact om_830c6524 h63 h64 g127 h131 j2) ?_
                          intro v180 h181
                          refine tr_goto 85 dX10_nights_109 (by decide) ?_
                          exact ih129 _ v180 I173 R125 hl117 hl118 hl119 hl120 hl121 hl122 rfl hS179 (by exact om_68881c41 g127 h181) (SkQ.st rw128 hW0 ta0 g176 (by decide +kernel) (by decide +kernel)) (by exact om_4dbe2747 h63 h64 g127 hm129 h131 h181)
                    exact lp129 _ _ v114 I110 R90 hl83 hl84 hl85 hl86 hl87 hl88 rfl hS111 (by exact om_d99fa9e4 h115) (SkQ.put rw93 hW0 ta0 f113 ta65 (by decide) (fun q => by have z := ta0; rw [q.1, ta65] at z; exact absurd z (by decide))) (Nat.lt_succ_self _)
              exact lp94 _ _ v77 v79 I73 R0 rfl rfl rfl rfl rfl rfl hS74 (by exact om_d99fa9e4 h80) (SkQ.put (SkQ.st hK hW0 ta0 g70 (by decide +kernel) (by decide +kernel)) hW0 ta0 f76 ta65 (by decide) (fun q => by have z := ta0; rw [q.1, ta65] at z; exact absurd z (by decide))) (Nat.lt_succ_self _)
            · skip
              refine tr_aload_n dX10_nights_41 rfl ?_
              refine q_iconst dX10_nights_42 (by decide) ?_
              intro v182 h183
              refine q_callVi hE (M' := mX10_refusedTotal) (as := [_]) dX10_nights_43 lk10_178 inX10_refusedTotal seX10_refusedTotal myX10_refusedTotal (by decide) ⟨by decide, by decide⟩ rfl (kR1 hS0.1 ta0) (Nat.le_of_ble_eq_true rfl) rfl rfl (by decide) (by decide) (k_X10_refusedTotal hS0.1 ta0) ?_
              rintro v188 cn' K' N' I184 R185 L186 ⟨rfl, rfl, rfl, rfl, rfl, g187, -⟩
              have hS189 := hS0.tr g187 (by decide +kernel) (by decide +kernel)
              exact tr_iret hZ dX10_nights_46 rfl (by decide) (by decide) ⟨v188, rfl, rfl, rfl, rfl, rfl, hS189, (SkQ.st hK hW0 ta0 g187 (by decide +kernel) (by decide +kernel)), trivial⟩
  · skip
    refine tr_aload_n dX10_nights_7 rfl ?_
    refine q_iconst dX10_nights_8 (by decide) ?_
    intro v190 h191
    refine q_callVi hE (M' := mX10_refusedTotal) (as := [_]) dX10_nights_9 lk10_178 inX10_refusedTotal seX10_refusedTotal myX10_refusedTotal (by decide) ⟨by decide, by decide⟩ rfl (kR1 hS0.1 ta0) (Nat.le_of_ble_eq_true rfl) rfl rfl (by decide) (by decide) (k_X10_refusedTotal hS0.1 ta0) ?_
    rintro v196 cn' K' N' I192 R193 L194 ⟨rfl, rfl, rfl, rfl, rfl, g195, -⟩
    have hS197 := hS0.tr g195 (by decide +kernel) (by decide +kernel)
    exact tr_iret hZ dX10_nights_12 rfl (by decide) (by decide) ⟨v196, rfl, rfl, rfl, rfl, rfl, hS197, (SkQ.st hK hW0 ta0 g195 (by decide +kernel) (by decide +kernel)), trivial⟩
