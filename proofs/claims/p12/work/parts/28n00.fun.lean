def wik_X8_wipe : List Nat := [2303, 2367, 2431, 2495, 2623]
def wrk_X8_wipe : List Nat := []
set_option maxHeartbeats 4000000 in
theorem fk_X8_wipe {l : Launch} {T : Nat → Nat} {cn : Nat} {K N : Nat → Nat} {I0 : cz_I} {R0 : cz_R} {L0 : cz_L} {d : Int} (hW0 : Wf T cn K N I0 R0 d)  {a0 : Nat} (ta0 : T a0 = 12) : ConE l mX8_wipe [.ref a0] cn K N I0 R0 L0 (ca_v (fun cn' K' N' I' R' L' => cn = cn' ∧ K = K' ∧ N = N' ∧ R0 = R' ∧ L0 = L' ∧ St T cn K N d wik_X8_wipe wrk_X8_wipe I0 R0 I' R0 ∧ (∀ r k : Nat, (R0 a0 2 = some r ∨ R0 a0 3 = some r ∨ R0 a0 4 = some r ∨ R0 a0 5 = some r ∨ R0 a0 7 = some r) → (k : Int) < (I0 a0 0).toInt → I' r k = 0) ∧ (FrS R0 a0 T I0 I') ∧ True)) := by
  refine ConE.of (by decide +kernel) rfl (Nat.le_of_ble_eq_true rfl) rfl (fun X hX hZ hE => ?_)
  subst hX
  have hS0 : St T cn K N d wik_X8_wipe wrk_X8_wipe I0 R0 I0 R0 := St.rf0 hW0
  obtain ⟨a11, d12, ta11⟩ := rf12_2 hW0 ta0
  obtain ⟨a13, d14, ta13⟩ := rf12_3 hW0 ta0
  obtain ⟨a15, d16, ta15⟩ := rf12_4 hW0 ta0
  obtain ⟨a17, d18, ta17⟩ := rf12_5 hW0 ta0
  obtain ⟨a19, d20, ta19⟩ := rf12_6 hW0 ta0
  obtain ⟨a21, d22, ta21⟩ := rf12_7 hW0 ta0
  obtain ⟨a23, d24, ta23⟩ := rf12_8 hW0 ta0
  obtain ⟨a25, d26, ta25⟩ := rf12_9 hW0 ta0
  obtain ⟨a27, d28, ta27⟩ := rf12_11 hW0 ta0
  obtain ⟨v29, c30⟩ : ∃ v, I0 a0 0 = v := ⟨_, rfl⟩
  have b31 := iv12_0 hW0 ta0 c30
  refine q_iconst dX8_wipe_0 (by decide) ?_
  intro v32 h33
  refine tr_istore_n dX8_wipe_1 (by decide) (by decide) ?_
  have lp42 : ∀ (fu : Nat) (ls : Nat → Option Value) (v34 : Int32) (I37 : cz_I), ls 0 = some (.ref a0) → ls 1 = some (.int v34) → St T cn K N d wik_X8_wipe wrk_X8_wipe I0 R0 I37 R0 → 0 ≤ v34.toInt → (∀ r k : Nat, (R0 a0 2 = some r ∨ R0 a0 3 = some r ∨ R0 a0 4 = some r ∨ R0 a0 5 = some r ∨ R0 a0 7 = some r) → (k : Int) < v34.toInt → I37 r k = 0) → (FrS R0 a0 T I0 I37) → (-v34.toInt + 2147483647).toNat < fu → Tr X mX8_wipe 2 ls [] cn K N I37 R0 L0 0 0 := by
    intro fu
    induction fu with
    | zero => intros; rename_i hz; exact absurd hz (Nat.not_lt_zero _)
    | succ fu ih42 =>
      intro ls v34 I37 hl35 hl36 hS38 g39 rw40 rw41 hm42
      refine tr_iload_n dX8_wipe_2 hl36 ?_
      refine tr_aload_n dX8_wipe_3 hl35 ?_
      refine q_getI dX8_wipe_4 fl8_46 (kR12 hS38.1 ta0) ((hS38.cell ta0 (by decide +kernel)).trans c30) ?_
      refine q_icmp_ge 51 dX8_wipe_7 (by decide) (fun h44 => ?_) (fun h44 => ?_)
      · skip
        exact tr_vret hZ dX8_wipe_51 rfl (by decide) (by decide) ⟨rfl, rfl, rfl, rfl, rfl, rfl, hS38, (fun r k h hk => rw40 r k h (by rw [c30] at hk; omega)), rw41, trivial⟩
      · skip
        refine tr_aload_n dX8_wipe_10 hl35 ?_
        refine tr_getR dX8_wipe_11 fl8_9 (kR12 hS38.1 ta0) d12 ?_
        refine tr_iload_n dX8_wipe_14 hl36 ?_
        refine q_iconst dX8_wipe_15 (by decide) ?_
        intro v45 h46
        refine q_zastE dX8_wipe_16 (kR35 hS38.1 ta11) (ti_in (nR35 hS38.1 ta11) (by omega) (by omega)) hS38 ta11 (by omega) rfl rfl (by rfl) ?_
        intro I47 hS48 e50 f49
        refine tr_aload_n dX8_wipe_17 hl35 ?_
        refine tr_getR dX8_wipe_18 fl8_15 (kR12 hS48.1 ta0) d14 ?_
        refine tr_iload_n dX8_wipe_21 hl36 ?_
        refine q_iconst dX8_wipe_22 (by decide) ?_
        intro v51 h52
        refine q_zastE dX8_wipe_23 (kR36 hS48.1 ta13) (ti_in (nR36 hS48.1 ta13) (by omega) (by omega)) hS48 ta13 (by omega) rfl rfl (by rfl) ?_
        intro I53 hS54 e56 f55
        refine tr_aload_n dX8_wipe_24 hl35 ?_
        refine tr_getR dX8_wipe_25 fl8_18 (kR12 hS54.1 ta0) d16 ?_
        refine tr_iload_n dX8_wipe_28 hl36 ?_
        refine q_iconst dX8_wipe_29 (by decide) ?_
        intro v57 h58
        refine q_zastE dX8_wipe_30 (kR37 hS54.1 ta15) (ti_in (nR37 hS54.1 ta15) (by omega) (by omega)) hS54 ta15 (by omega) rfl rfl (by rfl) ?_
        intro I59 hS60 e62 f61
        refine tr_aload_n dX8_wipe_31 hl35 ?_
        refine tr_getR dX8_wipe_32 fl8_21 (kR12 hS60.1 ta0) d18 ?_
        refine tr_iload_n dX8_wipe_35 hl36 ?_
        refine q_iconst dX8_wipe_36 (by decide) ?_
        intro v63 h64
        refine q_iast dX8_wipe_37 (kR38 hS60.1 ta17) (ti_in (nR38 hS60.1 ta17) (by omega) (by omega)) hS60 ta17 (iokF rfl) rfl (by rfl) ?_
        intro I65 hS66 e68 f67
        refine tr_aload_n dX8_wipe_38 hl35 ?_
        refine tr_getR dX8_wipe_39 fl8_28 (kR12 hS66.1 ta0) d22 ?_
        refine tr_iload_n dX8_wipe_42 hl36 ?_
        refine q_iconst dX8_wipe_43 (by decide) ?_
        intro v69 h70
        refine q_iast dX8_wipe_44 (kR40 hS66.1 ta21) (ti_in (nR40 hS66.1 ta21) (by omega) (by omega)) hS66 ta21 (iokF rfl) rfl (by rfl) ?_
        intro I71 hS72 e74 f73
        refine q_iincE dX8_wipe_45 hl36 (by decide) (by decide) (by intros; omega) ?_
        intro v75 h76
        refine tr_goto 2 dX8_wipe_48 (by decide) ?_
        exact ih42 _ v75 I71 hl35 rfl hS72 (by omega) (fun r k h hk => by rcases h with h | h | h | h | h; (obtain rfl := Option.some.inj (d12.symm.trans h); by_cases z : (k : Int) < v34.toInt; exact Eq.trans ((f73 _ _ (fun q => by have z := ta11; rw [q.1, ta21] at z; exact absurd z (by decide))).trans ((f67 _ _ (fun q => by have z := ta11; rw [q.1, ta17] at z; exact absurd z (by decide))).trans ((f61 _ _ (fun q => by have z := ta11; rw [q.1, ta15] at z; exact absurd z (by decide))).trans ((f55 _ _ (fun q => by have z := ta11; rw [q.1, ta13] at z; exact absurd z (by decide))).trans (f49 _ _ (fun q => by have z1 := q.2; have z3 := ti_nat (i := v34) (by omega); omega)))))) (rw40 _ k (by simp only [d12, true_or, or_true]) z); have y := ti_nat (i := v34) (by omega); obtain rfl : k = v34.toNatClampNeg := (by omega); exact Eq.trans (Eq.trans ((f73 _ _ (fun q => by have z := ta11; rw [q.1, ta21] at z; exact absurd z (by decide))).trans ((f67 _ _ (fun q => by have z := ta11; rw [q.1, ta17] at z; exact absurd z (by decide))).trans ((f61 _ _ (fun q => by have z := ta11; rw [q.1, ta15] at z; exact absurd z (by decide))).trans (f55 _ _ (fun q => by have z := ta11; rw [q.1, ta13] at z; exact absurd z (by decide)))))) e50) (Int32.toInt_inj.mp ((show v45.toInt = 0 by omega).trans rfl))); (obtain rfl := Option.some.inj (d14.symm.trans h); by_cases z : (k : Int) < v34.toInt; exact Eq.trans ((f73 _ _ (fun q => by have z := ta13; rw [q.1, ta21] at z; exact absurd z (by decide))).trans ((f67 _ _ (fun q => by have z := ta13; rw [q.1, ta17] at z; exact absurd z (by decide))).trans ((f61 _ _ (fun q => by have z := ta13; rw [q.1, ta15] at z; exact absurd z (by decide))).trans ((f55 _ _ (fun q => by have z1 := q.2; have z3 := ti_nat (i := v34) (by omega); omega)).trans (f49 _ _ (fun q => by have z := ta13; rw [q.1, ta11] at z; exact absurd z (by decide))))))) (rw40 _ k (by simp only [d14, true_or, or_true]) z); have y := ti_nat (i := v34) (by omega); obtain rfl : k = v34.toNatClampNeg := (by omega); exact Eq.trans (Eq.trans ((f73 _ _ (fun q => by have z := ta13; rw [q.1, ta21] at z; exact absurd z (by decide))).trans ((f67 _ _ (fun q => by have z := ta13; rw [q.1, ta17] at z; exact absurd z (by decide))).trans (f61 _ _ (fun q => by have z := ta13; rw [q.1, ta15] at z; exact absurd z (by decide))))) e56) (Int32.toInt_inj.mp ((show v51.toInt = 0 by omega).trans rfl))); (obtain rfl := Option.some.inj (d16.symm.trans h); by_cases z : (k : Int) < v34.toInt; exact Eq.trans ((f73 _ _ (fun q => by have z := ta15; rw [q.1, ta21] at z; exact absurd z (by decide))).trans ((f67 _ _ (fun q => by have z := ta15; rw [q.1, ta17] at z; exact absurd z (by decide))).trans ((f61 _ _ (fun q => by have z1 := q.2; have z3 := ti_nat (i := v34) (by omega); omega)).trans ((f55 _ _ (fun q => by have z := ta15; rw [q.1, ta13] at z; exact absurd z (by decide))).trans (f49 _ _ (fun q => by have z := ta15; rw [q.1, ta11] at z; exact absurd z (by decide))))))) (rw40 _ k (by simp only [d16, true_or, or_true]) z); have y := ti_nat (i := v34) (by omega); obtain rfl : k = v34.toNatClampNeg := (by omega); exact Eq.trans (Eq.trans ((f73 _ _ (fun q => by have z := ta15; rw [q.1, ta21] at z; exact absurd z (by decide))).trans (f67 _ _ (fun q => by have z := ta15; rw [q.1, ta17] at z; exact absurd z (by decide)))) e62) (Int32.toInt_inj.mp ((show v57.toInt = 0 by omega).trans rfl))); (obtain rfl := Option.some.inj (d18.symm.trans h); by_cases z : (k : Int) < v34.toInt; exact Eq.trans ((f73 _ _ (fun q => by have z := ta17; rw [q.1, ta21] at z; exact absurd z (by decide))).trans ((f67 _ _ (fun q => by have z1 := q.2; have z3 := ti_nat (i := v34) (by omega); omega)).trans ((f61 _ _ (fun q => by have z := ta17; rw [q.1, ta15] at z; exact absurd z (by decide))).trans ((f55 _ _ (fun q => by have z := ta17; rw [q.1, ta13] at z; exact absurd z (by decide))).trans (f49 _ _ (fun q => by have z := ta17; rw [q.1, ta11] at z; exact absurd z (by decide))))))) (rw40 _ k (by simp only [d18, true_or, or_true]) z); have y := ti_nat (i := v34) (by omega); obtain rfl : k = v34.toNatClampNeg := (by omega); exact Eq.trans (Eq.trans (f73 _ _ (fun q => by have z := ta17; rw [q.1, ta21] at z; exact absurd z (by decide))) e68) (Int32.toInt_inj.mp ((show v63.toInt = 0 by omega).trans rfl))); (obtain rfl := Option.some.inj (d22.symm.trans h); by_cases z : (k : Int) < v34.toInt; exact Eq.trans ((f73 _ _ (fun q => by have z1 := q.2; have z3 := ti_nat (i := v34) (by omega); omega)).trans ((f67 _ _ (fun q => by have z := ta21; rw [q.1, ta17] at z; exact absurd z (by decide))).trans ((f61 _ _ (fun q => by have z := ta21; rw [q.1, ta15] at z; exact absurd z (by decide))).trans ((f55 _ _ (fun q => by have z := ta21; rw [q.1, ta13] at z; exact absurd z (by decide))).trans (f49 _ _ (fun q => by have z := ta21; rw [q.1, ta11] at z; exact absurd z (by decide))))))) (rw40 _ k (by simp only [d22, true_or, or_true]) z); have y := ti_nat (i := v34) (by omega); obtain rfl : k = v34.toNatClampNeg := (by omega); exact Eq.trans e74 (Int32.toInt_inj.mp ((show v69.toInt = 0 by omega).trans rfl)))) (((((rw41.pu f49 (s := 2) (by omega) (by omega) d12 ta11 (by decide)).pu f55 (s := 3) (by omega) (by omega) d14 ta13 (by decide)).pu f61 (s := 4) (by omega) (by omega) d16 ta15 (by decide)).pu f67 (s := 5) (by omega) (by omega) d18 ta17 (by decide)).pu f73 (s := 7) (by omega) (by omega) d22 ta21 (by decide)) (by omega)
  exact lp42 _ _ v32 I0 rfl rfl hS0 (by omega) (fun r k _ h => by exfalso; omega) (FrS.rf (R := R0) (sk := a0) (T := T)) (Nat.lt_succ_self _)
set_option maxHeartbeats 4000000 in
theorem fk_X8_isBright {l : Launch} {T : Nat → Nat} {cn : Nat} {K N : Nat → Nat} {I0 : cz_I} {R0 : cz_R} {L0 : cz_L} {d : Int} (hW0 : Wf T cn K N I0 R0 d)  {a0 : Nat} (ta0 : T a0 = 12) {x1 : Int32} (hx1 : 0 ≤ x1.toInt ∧ x1.toInt ≤ 239) : ConE l mX8_isBright [.ref a0, .int x1] cn K N I0 R0 L0 (ca_i (fun v cn' K' N' I' R' L' => cn = cn' ∧ K = K' ∧ N = N' ∧ I0 = I' ∧ R0 = R' ∧ L0 = L' ∧ (0 ≤ v.toInt ∧ v.toInt ≤ 1) ∧ (∀ r2 r3 r4, R0 a0 2 = some r2 → R0 a0 3 = some r3 → R0 a0 4 = some r4 → v.toInt = if (I0 r2 x1.toInt.toNat).toInt = 0 ∧ (¬ (I0 r3 x1.toInt.toNat).toInt = 0 ∨ (I0 r4 x1.toInt.toNat).toInt = 0) then 1 else 0) ∧ True)) := by
  refine ConE.of (by decide +kernel) rfl (Nat.le_of_ble_eq_true rfl) rfl (fun X hX hZ hE => ?_)
  subst hX
  obtain ⟨a11, d12, ta11⟩ := rf12_2 hW0 ta0
  obtain ⟨a13, d14, ta13⟩ := rf12_3 hW0 ta0
  obtain ⟨a15, d16, ta15⟩ := rf12_4 hW0 ta0
  obtain ⟨a17, d18, ta17⟩ := rf12_5 hW0 ta0
  obtain ⟨a19, d20, ta19⟩ := rf12_6 hW0 ta0
  obtain ⟨a21, d22, ta21⟩ := rf12_7 hW0 ta0
  obtain ⟨a23, d24, ta23⟩ := rf12_8 hW0 ta0
  obtain ⟨a25, d26, ta25⟩ := rf12_9 hW0 ta0
  obtain ⟨a27, d28, ta27⟩ := rf12_11 hW0 ta0
  refine tr_aload_n dX8_isBright_0 rfl ?_
  refine tr_getR dX8_isBright_1 fl8_9 (kR12 hW0 ta0) d12 ?_
  refine tr_iload_n dX8_isBright_4 rfl ?_
  refine q_zald dX8_isBright_5 (kR35 hW0 ta11) (ti_in (nR35 hW0 ta11) (by omega) (by omega)) ?_
  intro v29 c30
  have b31 := iv35 hW0 ta11 c30
  refine q_if_ne 31 dX8_isBright_6 (by decide) (fun h32 => ?_) (fun h32 => ?_)
  · skip
    refine q_iconst dX8_isBright_31 (by decide) ?_
    intro v33 h34
    exact tr_zret hZ dX8_isBright_32 rfl (ti_b01 (by omega) (by omega)) (by decide) (by decide) ⟨v33, rfl, rfl, rfl, rfl, rfl, rfl, rfl, (by omega), (fun r2 r3 r4 h2 h3 h4 => by obtain rfl := Option.some.inj (d12.symm.trans h2); obtain rfl := Option.some.inj (d14.symm.trans h3); obtain rfl := Option.some.inj (d16.symm.trans h4); rw [show I0 a11 x1.toInt.toNat = v29 from c30]; split <;> omega), trivial⟩
  · skip
    refine tr_aload_n dX8_isBright_9 rfl ?_
    refine tr_getR dX8_isBright_10 fl8_15 (kR12 hW0 ta0) d14 ?_
    refine tr_iload_n dX8_isBright_13 rfl ?_
    refine q_zald dX8_isBright_14 (kR36 hW0 ta13) (ti_in (nR36 hW0 ta13) (by omega) (by omega)) ?_
    intro v35 c36
    have b37 := iv36 hW0 ta13 c36
    refine q_if_ne 27 dX8_isBright_15 (by decide) (fun h38 => ?_) (fun h38 => ?_)
    · skip
      refine q_iconst dX8_isBright_27 (by decide) ?_
      intro v39 h40
      refine tr_goto 32 dX8_isBright_28 (by decide) ?_
      exact tr_zret hZ dX8_isBright_32 rfl (ti_b01 (by omega) (by omega)) (by decide) (by decide) ⟨v39, rfl, rfl, rfl, rfl, rfl, rfl, rfl, (by omega), (fun r2 r3 r4 h2 h3 h4 => by obtain rfl := Option.some.inj (d12.symm.trans h2); obtain rfl := Option.some.inj (d14.symm.trans h3); obtain rfl := Option.some.inj (d16.symm.trans h4); rw [show I0 a11 x1.toInt.toNat = v29 from c30]; rw [show I0 a13 x1.toInt.toNat = v35 from c36]; split <;> omega), trivial⟩
    · skip
      refine tr_aload_n dX8_isBright_18 rfl ?_
      refine tr_getR dX8_isBright_19 fl8_18 (kR12 hW0 ta0) d16 ?_
      refine tr_iload_n dX8_isBright_22 rfl ?_
      refine q_zald dX8_isBright_23 (kR37 hW0 ta15) (ti_in (nR37 hW0 ta15) (by omega) (by omega)) ?_
      intro v41 c42
      have b43 := iv37 hW0 ta15 c42
      refine q_if_ne 31 dX8_isBright_24 (by decide) (fun h44 => ?_) (fun h44 => ?_)
      · skip
        refine q_iconst dX8_isBright_31 (by decide) ?_
        intro v45 h46
        exact tr_zret hZ dX8_isBright_32 rfl (ti_b01 (by omega) (by omega)) (by decide) (by decide) ⟨v45, rfl, rfl, rfl, rfl, rfl, rfl, rfl, (by omega), (fun r2 r3 r4 h2 h3 h4 => by obtain rfl := Option.some.inj (d12.symm.trans h2); obtain rfl := Option.some.inj (d14.symm.trans h3); obtain rfl := Option.some.inj (d16.symm.trans h4); rw [show I0 a11 x1.toInt.toNat = v29 from c30]; rw [show I0 a13 x1.toInt.toNat = v35 from c36]; rw [show I0 a15 x1.toInt.toNat = v41 from c42]; split <;> omega), trivial⟩
      · skip
        refine q_iconst dX8_isBright_27 (by decide) ?_
        intro v47 h48
        refine tr_goto 32 dX8_isBright_28 (by decide) ?_
        exact tr_zret hZ dX8_isBright_32 rfl (ti_b01 (by omega) (by omega)) (by decide) (by decide) ⟨v47, rfl, rfl, rfl, rfl, rfl, rfl, rfl, (by omega), (fun r2 r3 r4 h2 h3 h4 => by obtain rfl := Option.some.inj (d12.symm.trans h2); obtain rfl := Option.some.inj (d14.symm.trans h3); obtain rfl := Option.some.inj (d16.symm.trans h4); rw [show I0 a11 x1.toInt.toNat = v29 from c30]; rw [show I0 a13 x1.toInt.toNat = v35 from c36]; rw [show I0 a15 x1.toInt.toNat = v41 from c42]; split <;> omega), trivial⟩
def wik_X8_findLight : List Nat := [2559, 2623, 2687, 2751]
def wrk_X8_findLight : List Nat := []
set_option maxHeartbeats 4000000 in
theorem fk_X8_findLight {l : Launch} {T : Nat → Nat} {cn : Nat} {K N : Nat → Nat} {I0 : cz_I} {R0 : cz_R} {L0 : cz_L} {d : Int} (hW0 : Wf T cn K N I0 R0 d) (gX : Nat → Nat → Int) (gn : Nat) (gl : Int) (gc : Int) {a0 : Nat} (ta0 : T a0 = 12) (hR : SkR I0 R0 a0 (I0 a0 0).toInt gl gX gn) (hA : Bts (I0 a0 1) (fun j => if (j : Int) < gc then 1 else 0)) : ConE l mX8_findLight [.ref a0] cn K N I0 R0 L0 (ca_v (fun cn' K' N' I' R' L' => cn = cn' ∧ K = K' ∧ N = N' ∧ R0 = R' ∧ L0 = L' ∧ St T cn K N d wik_X8_findLight wrk_X8_findLight I0 R0 I' R0 ∧ (SkF I' R0 a0 (I0 a0 0).toInt gc gl gX gn (I0 a0 0).toInt) ∧ (FrS R0 a0 T I0 I') ∧ True)) := by
  refine ConE.of (by decide +kernel) rfl (Nat.le_of_ble_eq_true rfl) rfl (fun X hX hZ hE => ?_)
  subst hX
  have hS0 : St T cn K N d wik_X8_findLight wrk_X8_findLight I0 R0 I0 R0 := St.rf0 hW0
  obtain ⟨v11, c12⟩ : ∃ v, I0 a0 0 = v := ⟨_, rfl⟩
  have b13 := iv12_0 hW0 ta0 c12
  obtain ⟨a14, d15, ta14⟩ := rf12_2 hW0 ta0
  obtain ⟨a16, d17, ta16⟩ := rf12_3 hW0 ta0
  obtain ⟨a18, d19, ta18⟩ := rf12_4 hW0 ta0
  obtain ⟨a20, d21, ta20⟩ := rf12_5 hW0 ta0
  obtain ⟨a22, d23, ta22⟩ := rf12_6 hW0 ta0
  obtain ⟨a24, d25, ta24⟩ := rf12_7 hW0 ta0
  obtain ⟨a26, d27, ta26⟩ := rf12_8 hW0 ta0
  obtain ⟨a28, d29, ta28⟩ := rf12_9 hW0 ta0
  obtain ⟨a30, d31, ta30⟩ := rf12_11 hW0 ta0
  obtain ⟨v32, c33⟩ : ∃ v, I0 a0 1 = v := ⟨_, rfl⟩
  refine q_iconst dX8_findLight_0 (by decide) ?_
  intro v34 h35
  refine tr_istore_n dX8_findLight_1 (by decide) (by decide) ?_
  have lp45 : ∀ (fu : Nat) (ls : Nat → Option Value) (v36 : Int32) (I39 : cz_I), ls 0 = some (.ref a0) → ls 1 = some (.int v36) → St T cn K N d wik_X8_findLight wrk_X8_findLight I0 R0 I39 R0 → 0 ≤ v36.toInt → v36.toInt ≤ v11.toInt → (SkF I39 R0 a0 v11.toInt gc gl gX gn v36.toInt) → (FrS R0 a0 T I0 I39) → (-v36.toInt + 2147483647).toNat < fu → Tr X mX8_findLight 2 ls [] cn K N I39 R0 L0 0 0 := by
    intro fu
    induction fu with
    | zero => intros; rename_i hz; exact absurd hz (Nat.not_lt_zero _)
    | succ fu ih45 =>
      intro ls v36 I39 hl37 hl38 hS40 g41 g42 rw43 rw44 hm45
      refine tr_iload_n dX8_findLight_2 hl38 ?_
      refine tr_aload_n dX8_findLight_3 hl37 ?_
      refine q_getI dX8_findLight_4 fl8_46 (kR12 hS40.1 ta0) ((hS40.cell ta0 (by decide +kernel)).trans c12) ?_
      refine q_icmp_ge 120 dX8_findLight_7 (by decide) (fun h47 => ?_) (fun h47 => ?_)
      · skip
        exact tr_vret hZ dX8_findLight_120 rfl (by decide) (by decide) ⟨rfl, rfl, rfl, rfl, rfl, rfl, hS40, (by rw [c12]; have hq : v36.toInt = v11.toInt := (by omega); have z := rw43; rw [hq] at z; exact z), rw44, trivial⟩
      · skip
        refine tr_aload_n dX8_findLight_10 hl37 ?_
        refine tr_getR dX8_findLight_11 fl8_25 (kR12 hS40.1 ta0) d23 ?_
        refine tr_iload_n dX8_findLight_14 hl38 ?_
        refine tr_aload_n dX8_findLight_15 hl37 ?_
        refine tr_iload_n dX8_findLight_16 hl38 ?_
        refine q_callVi hE (M' := mX8_isBright) (as := [_]) dX8_findLight_17 lk8_105 inX8_isBright seX8_isBright myX8_isBright (by decide) ⟨by decide, by decide⟩ rfl (kR12 hS40.1 ta0) (Nat.le_of_ble_eq_true rfl) rfl rfl (by decide) (by decide) (fk_X8_isBright hS40.1  ta0 (by omega)) ?_
        rintro v53 cn' K' N' I48 R49 L50 ⟨rfl, rfl, rfl, rfl, rfl, rfl, h54, rp55, -⟩
        refine q_if_eq 39 dX8_findLight_20 (by decide) (fun h56 => ?_) (fun h56 => ?_)
        · skip
          refine q_iconst dX8_findLight_39 (by decide) ?_
          intro v57 h58
          refine q_iast dX8_findLight_40 (kR39 hS40.1 ta22) (ti_in (nR39 hS40.1 ta22) (by omega) (by omega)) hS40 ta22 (iokF rfl) rfl (by rfl) ?_
          intro I59 hS60 e62 f61
          refine tr_aload_n dX8_findLight_41 hl37 ?_
          refine tr_getR dX8_findLight_42 fl8_28 (kR12 hS60.1 ta0) d25 ?_
          refine tr_iload_n dX8_findLight_45 hl38 ?_
          refine tr_dup2 dX8_findLight_46 rfl rfl ?_
          refine q_iald dX8_findLight_47 (kR40 hS60.1 ta24) (ti_in (nR40 hS60.1 ta24) (by omega) (by omega)) ?_
          intro v63 c64
          refine tr_aload_n dX8_findLight_48 hl37 ?_
          refine tr_getR dX8_findLight_49 fl8_25 (kR12 hS60.1 ta0) d23 ?_
          refine tr_iload_n dX8_findLight_52 hl38 ?_
          refine q_iald dX8_findLight_53 (kR39 hS60.1 ta22) (ti_in (nR39 hS60.1 ta22) (by omega) (by omega)) ?_
          intro v65 c66
          refine tr_ior dX8_findLight_54 ?_
          obtain ⟨v67, lx68⟩ : ∃ z, z = v63 ||| v65 := ⟨_, rfl⟩
          rw [← lx68]
          refine q_iast dX8_findLight_55 (kR40 hS60.1 ta24) (ti_in (nR40 hS60.1 ta24) (by omega) (by omega)) hS60 ta24 (iokF rfl) rfl (by rfl) ?_
          intro I69 hS70 e72 f71
          refine tr_aload_n dX8_findLight_56 hl37 ?_
          refine tr_getR dX8_findLight_57 fl8_31 (kR12 hS70.1 ta0) d27 ?_
          refine tr_iload_n dX8_findLight_60 hl38 ?_
          refine tr_iload_n dX8_findLight_61 hl38 ?_
          refine q_if_ne 69 dX8_findLight_62 (by decide) (fun h73 => ?_) (fun h73 => ?_)
          · skip
            refine tr_aload_n dX8_findLight_69 hl37 ?_
            refine tr_getR dX8_findLight_70 fl8_25 (kR12 hS70.1 ta0) d23 ?_
            refine tr_iload_n dX8_findLight_73 hl38 ?_
            refine q_iald dX8_findLight_74 (kR39 hS70.1 ta22) (ti_in (nR39 hS70.1 ta22) (by omega) (by omega)) ?_
            intro v74 c75
            refine tr_aload_n dX8_findLight_75 hl37 ?_
            refine tr_getR dX8_findLight_76 fl8_25 (kR12 hS70.1 ta0) d23 ?_
            refine tr_iload_n dX8_findLight_79 hl38 ?_
            refine q_iconst dX8_findLight_80 (by decide) ?_
            intro v76 h77
            refine q_isubE dX8_findLight_81 (by intros; omega) ?_
            intro v78 h79
            refine q_iald dX8_findLight_82 (kR39 hS70.1 ta22) (ti_in (nR39 hS70.1 ta22) (by omega) (by omega)) ?_
            intro v80 c81
            refine tr_ixor dX8_findLight_83 ?_
            obtain ⟨v82, lx83⟩ : ∃ z, z = v74 ^^^ v80 := ⟨_, rfl⟩
            rw [← lx83]
            refine q_iast dX8_findLight_84 (kR41 hS70.1 ta26) (ti_in (nR41 hS70.1 ta26) (by omega) (by omega)) hS70 ta26 (iokF rfl) rfl (by rfl) ?_
            intro I84 hS85 e87 f86
            refine tr_aload_n dX8_findLight_85 hl37 ?_
            refine tr_getR dX8_findLight_86 fl8_34 (kR12 hS85.1 ta0) d29 ?_
            refine tr_iload_n dX8_findLight_89 hl38 ?_
            refine tr_iload_n dX8_findLight_90 hl38 ?_
            refine q_if_ne 98 dX8_findLight_91 (by decide) (fun h88 => ?_) (fun h88 => ?_)
            · skip
              refine tr_aload_n dX8_findLight_98 hl37 ?_
              refine tr_getR dX8_findLight_99 fl8_28 (kR12 hS85.1 ta0) d25 ?_
              refine tr_iload_n dX8_findLight_102 hl38 ?_
              refine q_iald dX8_findLight_103 (kR40 hS85.1 ta24) (ti_in (nR40 hS85.1 ta24) (by omega) (by omega)) ?_
              intro v89 c90
              refine tr_aload_n dX8_findLight_104 hl37 ?_
              refine tr_getR dX8_findLight_105 fl8_28 (kR12 hS85.1 ta0) d25 ?_
              refine tr_iload_n dX8_findLight_108 hl38 ?_
              refine q_iconst dX8_findLight_109 (by decide) ?_
              intro v91 h92
              refine q_isubE dX8_findLight_110 (by intros; omega) ?_
              intro v93 h94
              refine q_iald dX8_findLight_111 (kR40 hS85.1 ta24) (ti_in (nR40 hS85.1 ta24) (by omega) (by omega)) ?_
              intro v95 c96
              refine tr_ixor dX8_findLight_112 ?_
              obtain ⟨v97, lx98⟩ : ∃ z, z = v89 ^^^ v95 := ⟨_, rfl⟩
              rw [← lx98]
              refine q_iast dX8_findLight_113 (kR42 hS85.1 ta28) (ti_in (nR42 hS85.1 ta28) (by omega) (by omega)) hS85 ta28 (iokF rfl) rfl (by rfl) ?_
              intro I99 hS100 e102 f101
              refine q_iincE dX8_findLight_114 hl38 (by decide) (by decide) (by intros; omega) ?_
              intro v103 h104
              refine tr_goto 2 dX8_findLight_117 (by decide) ?_
              exact ih45 _ v103 I99 hl37 rfl hS100 (by omega) (by omega) (by have hq : v36.toInt + 1 = v103.toInt := (by omega); rw [← hq]; exact SkF.stp (ix := v36.toNatClampNeg) rw43 hS40.1 ta0 (by omega) (by omega) (ti_nat (by omega)) d23 d25 d27 d29 e62 f61 e72 f71 e87 f86 e102 f101 (by have hbr := (SkF.br (ix := v36.toNatClampNeg) rw43 d15 d17 d19 (by have z := ti_nat (i := v36) (by omega); omega) (rp55 _ _ _ d15 d17 d19)); rw [ti_nat (i := v36) (by omega)] at hbr; exact Bts.b0 (by omega) (by omega)) (lx68.trans (by rw [show v63 = _ from (c64.symm.trans (f61 _ _ (fun q => by have z := ta24; rw [q.1, ta22] at z; exact absurd z (by decide)))), show v65 = v57 from (c66.symm.trans e62)])) (Or.inr ⟨by omega, lx83.trans (by rw [show v74 = v57 from (c75.symm.trans (Eq.trans (f71 _ _ (fun q => by have z := ta22; rw [q.1, ta24] at z; exact absurd z (by decide))) e62)), show I39 a22 (v36.toNatClampNeg - 1) = v80 from (by have y1 := ti_nat (i := v78) (by omega); have y2 := ti_nat (i := v36) (by omega); rw [show v36.toNatClampNeg - 1 = v78.toNatClampNeg by omega]; exact (c81.symm.trans ((f71 _ _ (fun q => by have z := ta22; rw [q.1, ta24] at z; exact absurd z (by decide))).trans (f61 _ _ (fun q => by have z1 := q.2; have z2 := ti_nat (i := v36) (by omega); have z3 := ti_nat (i := v78) (by omega); omega)))).symm)])⟩) (Or.inr ⟨by omega, lx98.trans (by rw [show v89 = v67 from (c90.symm.trans (Eq.trans (f86 _ _ (fun q => by have z := ta24; rw [q.1, ta26] at z; exact absurd z (by decide))) e72)), show I39 a24 (v36.toNatClampNeg - 1) = v95 from (by have y1 := ti_nat (i := v93) (by omega); have y2 := ti_nat (i := v36) (by omega); rw [show v36.toNatClampNeg - 1 = v93.toNatClampNeg by omega]; exact (c96.symm.trans ((f86 _ _ (fun q => by have z := ta24; rw [q.1, ta26] at z; exact absurd z (by decide))).trans ((f71 _ _ (fun q => by have z1 := q.2; have z2 := ti_nat (i := v36) (by omega); have z3 := ti_nat (i := v93) (by omega); omega)).trans (f61 _ _ (fun q => by have z := ta24; rw [q.1, ta22] at z; exact absurd z (by decide)))))).symm)])⟩)) ((((rw44.pu f61 (s := 6) (by omega) (by omega) d23 ta22 (by decide)).pu f71 (s := 7) (by omega) (by omega) d25 ta24 (by decide)).pu f86 (s := 8) (by omega) (by omega) d27 ta26 (by decide)).pu f101 (s := 9) (by omega) (by omega) d29 ta28 (by decide)) (by omega)
            · skip
              exfalso; omega
          · skip
            refine q_iconst dX8_findLight_65 (by decide) ?_
            intro v105 h106
            refine tr_goto 84 dX8_findLight_66 (by decide) ?_
            refine q_iast dX8_findLight_84 (kR41 hS70.1 ta26) (ti_in (nR41 hS70.1 ta26) (by omega) (by omega)) hS70 ta26 (iokF rfl) rfl (by rfl) ?_
            intro I107 hS108 e110 f109
            refine tr_aload_n dX8_findLight_85 hl37 ?_
            refine tr_getR dX8_findLight_86 fl8_34 (kR12 hS108.1 ta0) d29 ?_
            refine tr_iload_n dX8_findLight_89 hl38 ?_
            refine tr_iload_n dX8_findLight_90 hl38 ?_
            refine q_if_ne 98 dX8_findLight_91 (by decide) (fun h111 => ?_) (fun h111 => ?_)
            · skip
              exfalso; omega
            · skip
              refine q_iconst dX8_findLight_94 (by decide) ?_
              intro v112 h113
              refine tr_goto 113 dX8_findLight_95 (by decide) ?_
              refine q_iast dX8_findLight_113 (kR42 hS108.1 ta28) (ti_in (nR42 hS108.1 ta28) (by omega) (by omega)) hS108 ta28 (iokF rfl) rfl (by rfl) ?_
              intro I114 hS115 e117 f116
              refine q_iincE dX8_findLight_114 hl38 (by decide) (by decide) (by intros; omega) ?_
              intro v118 h119
              refine tr_goto 2 dX8_findLight_117 (by decide) ?_
              exact ih45 _ v118 I114 hl37 rfl hS115 (by omega) (by omega) (by have hq : v36.toInt + 1 = v118.toInt := (by omega); rw [← hq]; exact SkF.stp (ix := v36.toNatClampNeg) rw43 hS40.1 ta0 (by omega) (by omega) (ti_nat (by omega)) d23 d25 d27 d29 e62 f61 e72 f71 e110 f109 e117 f116 (by have hbr := (SkF.br (ix := v36.toNatClampNeg) rw43 d15 d17 d19 (by have z := ti_nat (i := v36) (by omega); omega) (rp55 _ _ _ d15 d17 d19)); rw [ti_nat (i := v36) (by omega)] at hbr; exact Bts.b0 (by omega) (by omega)) (lx68.trans (by rw [show v63 = _ from (c64.symm.trans (f61 _ _ (fun q => by have z := ta24; rw [q.1, ta22] at z; exact absurd z (by decide)))), show v65 = v57 from (c66.symm.trans e62)])) (Or.inl ⟨by omega, by omega⟩) (Or.inl ⟨by omega, by omega⟩)) ((((rw44.pu f61 (s := 6) (by omega) (by omega) d23 ta22 (by decide)).pu f71 (s := 7) (by omega) (by omega) d25 ta24 (by decide)).pu f109 (s := 8) (by omega) (by omega) d27 ta26 (by decide)).pu f116 (s := 9) (by omega) (by omega) d29 ta28 (by decide)) (by omega)
        · skip
          refine tr_aload_n dX8_findLight_23 hl37 ?_
          refine q_getI dX8_findLight_24 fl8_50 (kR12 hS40.1 ta0) ((hS40.cell ta0 (by decide +kernel)).trans c33) ?_
          refine tr_aload_n dX8_findLight_27 hl37 ?_
          refine tr_getR dX8_findLight_28 fl8_21 (kR12 hS40.1 ta0) d21 ?_
          refine tr_iload_n dX8_findLight_31 hl38 ?_
          refine q_iald dX8_findLight_32 (kR38 hS40.1 ta20) (ti_in (nR38 hS40.1 ta20) (by omega) (by omega)) ?_
          intro v120 c121
          refine q_iconst dX8_findLight_33 (by decide) ?_
          intro v122 h123
          refine tr_ixor dX8_findLight_34 ?_
          obtain ⟨v124, lx125⟩ : ∃ z, z = v120 ^^^ v122 := ⟨_, rfl⟩
          rw [← lx125]
          refine tr_iand dX8_findLight_35 ?_
          obtain ⟨v126, lx127⟩ : ∃ z, z = v32 &&& v124 := ⟨_, rfl⟩
          rw [← lx127]
          refine tr_goto 40 dX8_findLight_36 (by decide) ?_
          refine q_iast dX8_findLight_40 (kR39 hS40.1 ta22) (ti_in (nR39 hS40.1 ta22) (by omega) (by omega)) hS40 ta22 (iokF rfl) rfl (by rfl) ?_
          intro I128 hS129 e131 f130
          refine tr_aload_n dX8_findLight_41 hl37 ?_
          refine tr_getR dX8_findLight_42 fl8_28 (kR12 hS129.1 ta0) d25 ?_
          refine tr_iload_n dX8_findLight_45 hl38 ?_
          refine tr_dup2 dX8_findLight_46 rfl rfl ?_
          refine q_iald dX8_findLight_47 (kR40 hS129.1 ta24) (ti_in (nR40 hS129.1 ta24) (by omega) (by omega)) ?_
          intro v132 c133
          refine tr_aload_n dX8_findLight_48 hl37 ?_
          refine tr_getR dX8_findLight_49 fl8_25 (kR12 hS129.1 ta0) d23 ?_
          refine tr_iload_n dX8_findLight_52 hl38 ?_
          refine q_iald dX8_findLight_53 (kR39 hS129.1 ta22) (ti_in (nR39 hS129.1 ta22) (by omega) (by omega)) ?_
          intro v134 c135
          refine tr_ior dX8_findLight_54 ?_
          obtain ⟨v136, lx137⟩ : ∃ z, z = v132 ||| v134 := ⟨_, rfl⟩
          rw [← lx137]
          refine q_iast dX8_findLight_55 (kR40 hS129.1 ta24) (ti_in (nR40 hS129.1 ta24) (by omega) (by omega)) hS129 ta24 (iokF rfl) rfl (by rfl) ?_
          intro I138 hS139 e141 f140
          refine tr_aload_n dX8_findLight_56 hl37 ?_
          refine tr_getR dX8_findLight_57 fl8_31 (kR12 hS139.1 ta0) d27 ?_
          refine tr_iload_n dX8_findLight_60 hl38 ?_
          refine tr_iload_n dX8_findLight_61 hl38 ?_
          refine q_if_ne 69 dX8_findLight_62 (by decide) (fun h142 => ?_) (fun h142 => ?_)
          · skip
            refine tr_aload_n dX8_findLight_69 hl37 ?_
            refine tr_getR dX8_findLight_70 fl8_25 (kR12 hS139.1 ta0) d23 ?_
            refine tr_iload_n dX8_findLight_73 hl38 ?_
            refine q_iald dX8_findLight_74 (kR39 hS139.1 ta22) (ti_in (nR39 hS139.1 ta22) (by omega) (by omega)) ?_
            intro v143 c144
            refine tr_aload_n dX8_findLight_75 hl37 ?_
            refine tr_getR dX8_findLight_76 fl8_25 (kR12 hS139.1 ta0) d23 ?_
            refine tr_iload_n dX8_findLight_79 hl38 ?_
            refine q_iconst dX8_findLight_80 (by decide) ?_
            intro v145 h146
            refine q_isubE dX8_findLight_81 (by intros; omega) ?_
            intro v147 h148
            refine q_iald dX8_findLight_82 (kR39 hS139.1 ta22) (ti_in (nR39 hS139.1 ta22) (by omega) (by omega)) ?_
            intro v149 c150
            refine tr_ixor dX8_findLight_83 ?_
            obtain ⟨v151, lx152⟩ : ∃ z, z = v143 ^^^ v149 := ⟨_, rfl⟩
            rw [← lx152]
            refine q_iast dX8_findLight_84 (kR41 hS139.1 ta26) (ti_in (nR41 hS139.1 ta26) (by omega) (by omega)) hS139 ta26 (iokF rfl) rfl (by rfl) ?_
            intro I153 hS154 e156 f155
            refine tr_aload_n dX8_findLight_85 hl37 ?_
            refine tr_getR dX8_findLight_86 fl8_34 (kR12 hS154.1 ta0) d29 ?_
            refine tr_iload_n dX8_findLight_89 hl38 ?_
            refine tr_iload_n dX8_findLight_90 hl38 ?_
            refine q_if_ne 98 dX8_findLight_91 (by decide) (fun h157 => ?_) (fun h157 => ?_)
            · skip
              refine tr_aload_n dX8_findLight_98 hl37 ?_
              refine tr_getR dX8_findLight_99 fl8_28 (kR12 hS154.1 ta0) d25 ?_
              refine tr_iload_n dX8_findLight_102 hl38 ?_
              refine q_iald dX8_findLight_103 (kR40 hS154.1 ta24) (ti_in (nR40 hS154.1 ta24) (by omega) (by omega)) ?_
              intro v158 c159
              refine tr_aload_n dX8_findLight_104 hl37 ?_
              refine tr_getR dX8_findLight_105 fl8_28 (kR12 hS154.1 ta0) d25 ?_
              refine tr_iload_n dX8_findLight_108 hl38 ?_
              refine q_iconst dX8_findLight_109 (by decide) ?_
              intro v160 h161
              refine q_isubE dX8_findLight_110 (by intros; omega) ?_
              intro v162 h163
              refine q_iald dX8_findLight_111 (kR40 hS154.1 ta24) (ti_in (nR40 hS154.1 ta24) (by omega) (by omega)) ?_
              intro v164 c165
              refine tr_ixor dX8_findLight_112 ?_
              obtain ⟨v166, lx167⟩ : ∃ z, z = v158 ^^^ v164 := ⟨_, rfl⟩
              rw [← lx167]
              refine q_iast dX8_findLight_113 (kR42 hS154.1 ta28) (ti_in (nR42 hS154.1 ta28) (by omega) (by omega)) hS154 ta28 (iokF rfl) rfl (by rfl) ?_
              intro I168 hS169 e171 f170
              refine q_iincE dX8_findLight_114 hl38 (by decide) (by decide) (by intros; omega) ?_
              intro v172 h173
              refine tr_goto 2 dX8_findLight_117 (by decide) ?_
              exact ih45 _ v172 I168 hl37 rfl hS169 (by omega) (by omega) (by have hq : v36.toInt + 1 = v172.toInt := (by omega); rw [← hq]; exact SkF.stp (ix := v36.toNatClampNeg) rw43 hS40.1 ta0 (by omega) (by omega) (ti_nat (by omega)) d23 d25 d27 d29 e131 f130 e141 f140 e156 f155 e171 f170 (by have hbr := (SkF.br (ix := v36.toNatClampNeg) rw43 d15 d17 d19 (by have z := ti_nat (i := v36) (by omega); omega) (rp55 _ _ _ d15 d17 d19)); rw [ti_nat (i := v36) (by omega)] at hbr; rw [lx127, lx125]; exact SkF.b1 (ix := v36.toNatClampNeg) rw43 d21 (ti_nat (by omega)) (by omega) (by have z := hA; rw [c33] at z; exact z) c121 (by omega) (by omega)) (lx137.trans (by rw [show v132 = _ from (c133.symm.trans (f130 _ _ (fun q => by have z := ta24; rw [q.1, ta22] at z; exact absurd z (by decide)))), show v134 = v126 from (c135.symm.trans e131)])) (Or.inr ⟨by omega, lx152.trans (by rw [show v143 = v126 from (c144.symm.trans (Eq.trans (f140 _ _ (fun q => by have z := ta22; rw [q.1, ta24] at z; exact absurd z (by decide))) e131)), show I39 a22 (v36.toNatClampNeg - 1) = v149 from (by have y1 := ti_nat (i := v147) (by omega); have y2 := ti_nat (i := v36) (by omega); rw [show v36.toNatClampNeg - 1 = v147.toNatClampNeg by omega]; exact (c150.symm.trans ((f140 _ _ (fun q => by have z := ta22; rw [q.1, ta24] at z; exact absurd z (by decide))).trans (f130 _ _ (fun q => by have z1 := q.2; have z2 := ti_nat (i := v36) (by omega); have z3 := ti_nat (i := v147) (by omega); omega)))).symm)])⟩) (Or.inr ⟨by omega, lx167.trans (by rw [show v158 = v136 from (c159.symm.trans (Eq.trans (f155 _ _ (fun q => by have z := ta24; rw [q.1, ta26] at z; exact absurd z (by decide))) e141)), show I39 a24 (v36.toNatClampNeg - 1) = v164 from (by have y1 := ti_nat (i := v162) (by omega); have y2 := ti_nat (i := v36) (by omega); rw [show v36.toNatClampNeg - 1 = v162.toNatClampNeg by omega]; exact (c165.symm.trans ((f155 _ _ (fun q => by have z := ta24; rw [q.1, ta26] at z; exact absurd z (by decide))).trans ((f140 _ _ (fun q => by have z1 := q.2; have z2 := ti_nat (i := v36) (by omega); have z3 := ti_nat (i := v162) (by omega); omega)).trans (f130 _ _ (fun q => by have z := ta24; rw [q.1, ta22] at z; exact absurd z (by decide)))))).symm)])⟩)) ((((rw44.pu f130 (s := 6) (by omega) (by omega) d23 ta22 (by decide)).pu f140 (s := 7) (by omega) (by omega) d25 ta24 (by decide)).pu f155 (s := 8) (by omega) (by omega) d27 ta26 (by decide)).pu f170 (s := 9) (by omega) (by omega) d29 ta28 (by decide)) (by omega)
            · skip
              exfalso; omega
          · skip
            refine q_iconst dX8_findLight_65 (by decide) ?_
            intro v174 h175
            refine tr_goto 84 dX8_findLight_66 (by decide) ?_
            refine q_iast dX8_findLight_84 (kR41 hS139.1 ta26) (ti_in (nR41 hS139.1 ta26) (by omega) (by omega)) hS139 ta26 (iokF rfl) rfl (by rfl) ?_
            intro I176 hS177 e179 f178
            refine tr_aload_n dX8_findLight_85 hl37 ?_
            refine tr_getR dX8_findLight_86 fl8_34 (kR12 hS177.1 ta0) d29 ?_
            refine tr_iload_n dX8_findLight_89 hl38 ?_
            refine tr_iload_n dX8_findLight_90 hl38 ?_
            refine q_if_ne 98 dX8_findLight_91 (by decide) (fun h180 => ?_) (fun h180 => ?_)
            · skip
              exfalso; omega
            · skip
              refine q_iconst dX8_findLight_94 (by decide) ?_
              intro v181 h182
              refine tr_goto 113 dX8_findLight_95 (by decide) ?_
              refine q_iast dX8_findLight_113 (kR42 hS177.1 ta28) (ti_in (nR42 hS177.1 ta28) (by omega) (by omega)) hS177 ta28 (iokF rfl) rfl (by rfl) ?_
              intro I183 hS184 e186 f185
              refine q_iincE dX8_findLight_114 hl38 (by decide) (by decide) (by intros; omega) ?_
              intro v187 h188
              refine tr_goto 2 dX8_findLight_117 (by decide) ?_
              exact ih45 _ v187 I183 hl37 rfl hS184 (by omega) (by omega) (by have hq : v36.toInt + 1 = v187.toInt := (by omega); rw [← hq]; exact SkF.stp (ix := v36.toNatClampNeg) rw43 hS40.1 ta0 (by omega) (by omega) (ti_nat (by omega)) d23 d25 d27 d29 e131 f130 e141 f140 e179 f178 e186 f185 (by have hbr := (SkF.br (ix := v36.toNatClampNeg) rw43 d15 d17 d19 (by have z := ti_nat (i := v36) (by omega); omega) (rp55 _ _ _ d15 d17 d19)); rw [ti_nat (i := v36) (by omega)] at hbr; rw [lx127, lx125]; exact SkF.b1 (ix := v36.toNatClampNeg) rw43 d21 (ti_nat (by omega)) (by omega) (by have z := hA; rw [c33] at z; exact z) c121 (by omega) (by omega)) (lx137.trans (by rw [show v132 = _ from (c133.symm.trans (f130 _ _ (fun q => by have z := ta24; rw [q.1, ta22] at z; exact absurd z (by decide)))), show v134 = v126 from (c135.symm.trans e131)])) (Or.inl ⟨by omega, by omega⟩) (Or.inl ⟨by omega, by omega⟩)) ((((rw44.pu f130 (s := 6) (by omega) (by omega) d23 ta22 (by decide)).pu f140 (s := 7) (by omega) (by omega) d25 ta24 (by decide)).pu f178 (s := 8) (by omega) (by omega) d27 ta26 (by decide)).pu f185 (s := 9) (by omega) (by omega) d29 ta28 (by decide)) (by omega)
  exact lp45 _ _ v34 I0 rfl rfl hS0 (by omega) (by omega) (by rw [show v34.toInt = 0 by omega]; exact SkF.of (by have z := hR; rw [c12] at z; exact z)) (FrS.rf (R := R0) (sk := a0) (T := T)) (Nat.lt_succ_self _)
set_option maxHeartbeats 4000000 in
theorem fk_X4_holds {l : Launch} {T : Nat → Nat} {cn : Nat} {K N : Nat → Nat} {I0 : cz_I} {R0 : cz_R} {L0 : cz_L} {d : Int} (hW0 : Wf T cn K N I0 R0 d)  {a0 : Nat} (ta0 : T a0 = 6) {x1 : Int32} : ConE l mX4_holds [.ref a0, .int x1] cn K N I0 R0 L0 (ca_i (fun v cn' K' N' I' R' L' => cn = cn' ∧ K = K' ∧ N = N' ∧ I0 = I' ∧ R0 = R' ∧ L0 = L' ∧ (0 ≤ v.toInt ∧ v.toInt ≤ 1) ∧ (∀ r, R0 a0 1 = some r → v.toInt = exI (fun k => if (I0 r k).toInt = x1.toInt then 1 else 0) (I0 a0 0).toInt.toNat) ∧ True)) := by
  refine ConE.of (by decide +kernel) rfl (Nat.le_of_ble_eq_true rfl) rfl (fun X hX hZ hE => ?_)
  subst hX
  obtain ⟨v1, c2⟩ : ∃ v, I0 a0 0 = v := ⟨_, rfl⟩
  have b3 := iv6_0 hW0 ta0 c2
  obtain ⟨a4, d5, ta4⟩ := rf6_1 hW0 ta0
  refine q_iconst dX4_holds_0 (by decide) ?_
  intro v6 h7
  refine tr_istore_n dX4_holds_1 (by decide) (by decide) ?_
  have lp15 : ∀ (fu : Nat) (ls : Nat → Option Value) (v8 : Int32), ls 0 = some (.ref a0) → ls 1 = some (.int x1) → ls 2 = some (.int v8) → 0 ≤ v8.toInt → v8.toInt ≤ v1.toInt → (exI (fun k => if (I0 a4 k).toInt = x1.toInt then 1 else 0) v8.toInt.toNat = 0) → (-v8.toInt + 2147483647).toNat < fu → Tr X mX4_holds 2 ls [] cn K N I0 R0 L0 0 0 := by
    intro fu
    induction fu with
    | zero => intros; rename_i hz; exact absurd hz (Nat.not_lt_zero _)
    | succ fu ih15 =>
      intro ls v8 hl9 hl10 hl11 g12 g13 rw14 hm15
      refine tr_iload_n dX4_holds_2 hl11 ?_
      refine tr_aload_n dX4_holds_3 hl9 ?_
      refine q_getI dX4_holds_4 fl4_15 (kR6 hW0 ta0) c2 ?_
      refine q_icmp_ge 28 dX4_holds_7 (by decide) (fun h17 => ?_) (fun h17 => ?_)
      · skip
        refine q_iconst dX4_holds_28 (by decide) ?_
        intro v18 h19
        exact tr_zret hZ dX4_holds_29 rfl (ti_b01 (by omega) (by omega)) (by decide) (by decide) ⟨v18, rfl, rfl, rfl, rfl, rfl, rfl, rfl, (by omega), (fun r hr => by obtain rfl := Option.some.inj (d5.symm.trans hr); rw [show (I0 a0 0).toInt.toNat = v8.toInt.toNat from congrArg Int.toNat (by rw [c2]; omega), rw14]; omega), trivial⟩
      · skip
        refine tr_aload_n dX4_holds_10 hl9 ?_
        refine tr_getR dX4_holds_11 fl4_9 (kR6 hW0 ta0) d5 ?_
        refine tr_iload_n dX4_holds_14 hl11 ?_
        refine q_iald dX4_holds_15 (kR24 hW0 ta4) (ti_in (nR24 hW0 ta4) (by omega) (by omega)) ?_
        intro v20 c21
        have b22 := iv24 hW0 ta4 c21
        refine tr_iload_n dX4_holds_16 hl10 ?_
        refine q_icmp_ne 22 dX4_holds_17 (by decide) (fun h23 => ?_) (fun h23 => ?_)
        · skip
          refine q_iincE dX4_holds_22 hl11 (by decide) (by decide) (by intros; omega) ?_
          intro v24 h25
          refine tr_goto 2 dX4_holds_25 (by decide) ?_
          exact ih15 _ v24 hl9 hl10 rfl (by omega) (by omega) (by rw [show v24.toInt.toNat = v8.toInt.toNat + 1 by omega]; exact exI_s rw14 (by show ¬ (if (I0 a4 v8.toInt.toNat).toInt = x1.toInt then (1 : Int) else 0) = 1; rw [show I0 a4 v8.toInt.toNat = v20 from c21, if_neg (by omega)]; decide)) (by omega)
        · skip
          refine q_iconst dX4_holds_20 (by decide) ?_
          intro v26 h27
          exact tr_zret hZ dX4_holds_21 rfl (ti_b01 (by omega) (by omega)) (by decide) (by decide) ⟨v26, rfl, rfl, rfl, rfl, rfl, rfl, rfl, (by omega), (fun r hr => by obtain rfl := Option.some.inj (d5.symm.trans hr); rw [exI_1 _ v8.toInt.toNat (by rw [c2]; omega) (by show (if (I0 a4 v8.toInt.toNat).toInt = x1.toInt then (1 : Int) else 0) = 1; rw [show I0 a4 v8.toInt.toNat = v20 from c21, if_pos (by omega)])]; omega), trivial⟩
  exact lp15 _ _ v6 rfl rfl rfl (by omega) (by omega) (by rw [show v6.toInt.toNat = 0 by omega]; rfl) (Nat.lt_succ_self _)
def wik_X8_findStirs : List Nat := [778, 2815]
def wrk_X8_findStirs : List Nat := []
set_option maxHeartbeats 4000000 in
theorem fk_X8_findStirs {l : Launch} {T : Nat → Nat} {cn : Nat} {K N : Nat → Nat} {I0 : cz_I} {R0 : cz_R} {L0 : cz_L} {d : Int} (hW0 : Wf T cn K N I0 R0 d)  {a0 : Nat} (ta0 : T a0 = 12) {a1 : Nat} (ta1 : T a1 = 6) : ConE l mX8_findStirs [.ref a0, .ref a1] cn K N I0 R0 L0 (ca_v (fun cn' K' N' I' R' L' => cn = cn' ∧ K = K' ∧ N = N' ∧ R0 = R' ∧ L0 = L' ∧ St T cn K N d wik_X8_findStirs wrk_X8_findStirs I0 R0 I' R0 ∧ (FrS R0 a0 T I0 I') ∧ (∀ r3 r8 r9 rA, R0 a0 3 = some r3 → R0 a0 8 = some r8 → R0 a0 9 = some r9 → R0 a1 1 = some rA → StR I' R0 a0 (I0 a0 0).toInt (fun k => if ¬ (I0 r8 k).toInt = 0 ∨ ¬ (I0 r9 k).toInt = 0 ∨ ¬ (I0 r3 k).toInt = 0 ∨ exI (fun j => if (I0 rA j).toInt = (k : Int) then 1 else 0) (I0 a1 0).toInt.toNat = 1 then 1 else 0)) ∧ True)) := by
  refine ConE.of (by decide +kernel) rfl (Nat.le_of_ble_eq_true rfl) rfl (fun X hX hZ hE => ?_)
  subst hX
  have hS0 : St T cn K N d wik_X8_findStirs wrk_X8_findStirs I0 R0 I0 R0 := St.rf0 hW0
  obtain ⟨v11, c12⟩ : ∃ v, I0 a0 0 = v := ⟨_, rfl⟩
  have b13 := iv12_0 hW0 ta0 c12
  obtain ⟨a14, d15, ta14⟩ := rf12_2 hW0 ta0
  obtain ⟨a16, d17, ta16⟩ := rf12_3 hW0 ta0
  obtain ⟨a18, d19, ta18⟩ := rf12_4 hW0 ta0
  obtain ⟨a20, d21, ta20⟩ := rf12_5 hW0 ta0
  obtain ⟨a22, d23, ta22⟩ := rf12_6 hW0 ta0
  obtain ⟨a24, d25, ta24⟩ := rf12_7 hW0 ta0
  obtain ⟨a26, d27, ta26⟩ := rf12_8 hW0 ta0
  obtain ⟨a28, d29, ta28⟩ := rf12_9 hW0 ta0
  obtain ⟨a30, d31, ta30⟩ := rf12_11 hW0 ta0
  obtain ⟨a32, d33, ta32⟩ := rf6_1 hW0 ta1
  obtain ⟨v34, c35⟩ : ∃ v, I0 a1 0 = v := ⟨_, rfl⟩
  have b36 := iv6_0 hW0 ta1 c35
  refine tr_aload_n dX8_findStirs_0 rfl ?_
  refine q_iconst dX8_findStirs_1 (by decide) ?_
  intro v37 h38
  refine q_putI dX8_findStirs_2 fl8_109 (kR12 hS0.1 ta0) (Or.inl rfl) hS0 ta0 (by show (0 : Int) ≤ v37.toInt ∧ v37.toInt ≤ (240 : Int); omega) rfl (by decide +kernel) ?_
  intro I39 hS40 e41 f42
  refine q_iconst dX8_findStirs_5 (by decide) ?_
  intro v43 h44
  refine tr_istore_n dX8_findStirs_6 (by decide) (by decide) ?_
  have lp59 : ∀ (fu : Nat) (ls : Nat → Option Value) (v45 : Int32) (I49 : cz_I) (v51 : Int32), ls 0 = some (.ref a0) → ls 1 = some (.ref a1) → ls 2 = some (.int v45) → St T cn K N d wik_X8_findStirs wrk_X8_findStirs I0 R0 I49 R0 → I49 a0 10 = v51 → 0 ≤ v45.toInt → 0 ≤ v51.toInt → v51.toInt ≤ v45.toInt → v45.toInt ≤ v11.toInt → (FrS R0 a0 T I0 I49) → (StL I49 a30 v51.toInt v45.toInt (fun k => if ¬ (I0 a26 k).toInt = 0 ∨ ¬ (I0 a28 k).toInt = 0 ∨ ¬ (I0 a16 k).toInt = 0 ∨ exI (fun j => if (I0 a32 j).toInt = (k : Int) then 1 else 0) (I0 a1 0).toInt.toNat = 1 then 1 else 0)) → (-v45.toInt + 2147483647).toNat < fu → Tr X mX8_findStirs 7 ls [] cn K N I49 R0 L0 0 0 := by
    intro fu
    induction fu with
    | zero => intros; rename_i hz; exact absurd hz (Nat.not_lt_zero _)
    | succ fu ih59 =>
      intro ls v45 I49 v51 hl46 hl47 hl48 hS50 c52 g53 g54 g55 g56 rw57 rw58 hm59
      have b61 := iv12_10 hS50.1 ta0 c52
      refine tr_iload_n dX8_findStirs_7 hl48 ?_
      refine tr_aload_n dX8_findStirs_8 hl46 ?_
      refine q_getI dX8_findStirs_9 fl8_46 (kR12 hS50.1 ta0) ((hS50.cell ta0 (by decide +kernel)).trans c12) ?_
      refine q_icmp_ge 76 dX8_findStirs_12 (by decide) (fun h62 => ?_) (fun h62 => ?_)
      · skip
        exact tr_vret hZ dX8_findStirs_76 rfl (by decide) (by decide) ⟨rfl, rfl, rfl, rfl, rfl, rfl, hS50, rw57, (fun r3 r8 r9 rA h3 h8 h9 hA => by obtain rfl := Option.some.inj (d17.symm.trans h3); obtain rfl := Option.some.inj (d27.symm.trans h8); obtain rfl := Option.some.inj (d29.symm.trans h9); obtain rfl := Option.some.inj (d33.symm.trans hA); exact StL.fin rw58 (by rw [c12]; omega) (by rw [c52]) d31), trivial⟩
      · skip
        refine tr_aload_n dX8_findStirs_15 hl46 ?_
        refine tr_getR dX8_findStirs_16 fl8_31 (kR12 hS50.1 ta0) d27 ?_
        refine tr_iload_n dX8_findStirs_19 hl48 ?_
        refine q_iald dX8_findStirs_20 (kR41 hS50.1 ta26) (ti_in (nR41 hS50.1 ta26) (by omega) (by omega)) ?_
        intro v63 c64
        refine q_if_ne 50 dX8_findStirs_21 (by decide) (fun h65 => ?_) (fun h65 => ?_)
        · skip
          refine tr_aload_n dX8_findStirs_50 hl46 ?_
          refine tr_getR dX8_findStirs_51 fl8_37 (kR12 hS50.1 ta0) d31 ?_
          refine tr_aload_n dX8_findStirs_54 hl46 ?_
          refine q_getI dX8_findStirs_55 fl8_109 (kR12 hS50.1 ta0) c52 ?_
          refine tr_iload_n dX8_findStirs_58 hl48 ?_
          refine q_iast dX8_findStirs_59 (kR43 hS50.1 ta30) (ti_in (nR43 hS50.1 ta30) (by omega) (by omega)) hS50 ta30 (by show (0 : Int) ≤ v45.toInt ∧ v45.toInt ≤ (239 : Int); omega) rfl (by rfl) ?_
          intro I66 hS67 e69 f68
          have c70 : I66 a0 10 = v51 := (f68 _ _ (fun q => by have z := ta0; rw [q.1, ta30] at z; exact absurd z (by decide))).trans c52
          refine tr_aload_n dX8_findStirs_60 hl46 ?_
          refine tr_dup dX8_findStirs_61 rfl ?_
          refine q_getI dX8_findStirs_62 fl8_109 (kR12 hS67.1 ta0) c70 ?_
          refine q_iconst dX8_findStirs_65 (by decide) ?_
          intro v71 h72
          refine q_iaddE dX8_findStirs_66 (by intros; omega) ?_
          intro v73 h74
          refine q_putI dX8_findStirs_67 fl8_109 (kR12 hS67.1 ta0) (Or.inl rfl) hS67 ta0 (by show (0 : Int) ≤ v73.toInt ∧ v73.toInt ≤ (240 : Int); omega) rfl (by decide +kernel) ?_
          intro I75 hS76 e77 f78
          refine q_iincE dX8_findStirs_70 hl48 (by decide) (by decide) (by intros; omega) ?_
          intro v79 h80
          refine tr_goto 7 dX8_findStirs_73 (by decide) ?_
          exact ih59 _ v79 I75 v73 hl46 hl47 rfl hS76 e77 (by omega) (by omega) (by omega) (by omega) ((rw57.pu f68 (s := 11) (by omega) (by omega) d31 ta30 (by decide)).po f78 rfl ta0) (StL.ye (ix := v51.toNatClampNeg) rw58 (fun _ => if01) (by omega) (by omega) (by have y8 : (I0 a26 v45.toInt.toNat).toInt = v63.toInt := (by rw [show I0 a26 v45.toInt.toNat = v63 from (hS50.cell ta26 (wm_no (by decide +kernel))).symm.trans c64]); show (if _ ∨ _ ∨ _ ∨ _ then (1 : Int) else 0) = 1; rw [if_pos (by omega)]) (by omega) (by have z := ti_nat (i := v51) (by omega); omega) (by rw [show I75 a30 v51.toNatClampNeg = v45 from (Eq.trans (f78 _ _ (fun q => by have z := ta30; rw [q.1, ta0] at z; exact absurd z (by decide))) e69)]) (fun j hj => ((f78 _ _ (fun q => by have z := ta30; rw [q.1, ta0] at z; exact absurd z (by decide))).trans (f68 _ _ (fun q => hj q.2))))) (by omega)
        · skip
          refine tr_aload_n dX8_findStirs_24 hl46 ?_
          refine tr_getR dX8_findStirs_25 fl8_34 (kR12 hS50.1 ta0) d29 ?_
          refine tr_iload_n dX8_findStirs_28 hl48 ?_
          refine q_iald dX8_findStirs_29 (kR42 hS50.1 ta28) (ti_in (nR42 hS50.1 ta28) (by omega) (by omega)) ?_
          intro v81 c82
          refine q_if_ne 50 dX8_findStirs_30 (by decide) (fun h83 => ?_) (fun h83 => ?_)
          · skip
            refine tr_aload_n dX8_findStirs_50 hl46 ?_
            refine tr_getR dX8_findStirs_51 fl8_37 (kR12 hS50.1 ta0) d31 ?_
            refine tr_aload_n dX8_findStirs_54 hl46 ?_
            refine q_getI dX8_findStirs_55 fl8_109 (kR12 hS50.1 ta0) c52 ?_
            refine tr_iload_n dX8_findStirs_58 hl48 ?_
            refine q_iast dX8_findStirs_59 (kR43 hS50.1 ta30) (ti_in (nR43 hS50.1 ta30) (by omega) (by omega)) hS50 ta30 (by show (0 : Int) ≤ v45.toInt ∧ v45.toInt ≤ (239 : Int); omega) rfl (by rfl) ?_
            intro I84 hS85 e87 f86
            have c88 : I84 a0 10 = v51 := (f86 _ _ (fun q => by have z := ta0; rw [q.1, ta30] at z; exact absurd z (by decide))).trans c52
            refine tr_aload_n dX8_findStirs_60 hl46 ?_
            refine tr_dup dX8_findStirs_61 rfl ?_
            refine q_getI dX8_findStirs_62 fl8_109 (kR12 hS85.1 ta0) c88 ?_
            refine q_iconst dX8_findStirs_65 (by decide) ?_
            intro v89 h90
            refine q_iaddE dX8_findStirs_66 (by intros; omega) ?_
            intro v91 h92
            refine q_putI dX8_findStirs_67 fl8_109 (kR12 hS85.1 ta0) (Or.inl rfl) hS85 ta0 (by show (0 : Int) ≤ v91.toInt ∧ v91.toInt ≤ (240 : Int); omega) rfl (by decide +kernel) ?_
            intro I93 hS94 e95 f96
            refine q_iincE dX8_findStirs_70 hl48 (by decide) (by decide) (by intros; omega) ?_
            intro v97 h98
            refine tr_goto 7 dX8_findStirs_73 (by decide) ?_
            exact ih59 _ v97 I93 v91 hl46 hl47 rfl hS94 e95 (by omega) (by omega) (by omega) (by omega) ((rw57.pu f86 (s := 11) (by omega) (by omega) d31 ta30 (by decide)).po f96 rfl ta0) (StL.ye (ix := v51.toNatClampNeg) rw58 (fun _ => if01) (by omega) (by omega) (by have y8 : (I0 a26 v45.toInt.toNat).toInt = v63.toInt := (by rw [show I0 a26 v45.toInt.toNat = v63 from (hS50.cell ta26 (wm_no (by decide +kernel))).symm.trans c64]); have y9 : (I0 a28 v45.toInt.toNat).toInt = v81.toInt := (by rw [show I0 a28 v45.toInt.toNat = v81 from (hS50.cell ta28 (wm_no (by decide +kernel))).symm.trans c82]); show (if _ ∨ _ ∨ _ ∨ _ then (1 : Int) else 0) = 1; rw [if_pos (by omega)]) (by omega) (by have z := ti_nat (i := v51) (by omega); omega) (by rw [show I93 a30 v51.toNatClampNeg = v45 from (Eq.trans (f96 _ _ (fun q => by have z := ta30; rw [q.1, ta0] at z; exact absurd z (by decide))) e87)]) (fun j hj => ((f96 _ _ (fun q => by have z := ta30; rw [q.1, ta0] at z; exact absurd z (by decide))).trans (f86 _ _ (fun q => hj q.2))))) (by omega)
          · skip
            refine tr_aload_n dX8_findStirs_33 hl46 ?_
            refine tr_getR dX8_findStirs_34 fl8_15 (kR12 hS50.1 ta0) d17 ?_
            refine tr_iload_n dX8_findStirs_37 hl48 ?_
            refine q_zald dX8_findStirs_38 (kR36 hS50.1 ta16) (ti_in (nR36 hS50.1 ta16) (by omega) (by omega)) ?_
            intro v99 c100
            have b101 := iv36 hS50.1 ta16 c100
            refine q_if_ne 50 dX8_findStirs_39 (by decide) (fun h102 => ?_) (fun h102 => ?_)
            · skip
              refine tr_aload_n dX8_findStirs_50 hl46 ?_
              refine tr_getR dX8_findStirs_51 fl8_37 (kR12 hS50.1 ta0) d31 ?_
              refine tr_aload_n dX8_findStirs_54 hl46 ?_
              refine q_getI dX8_findStirs_55 fl8_109 (kR12 hS50.1 ta0) c52 ?_
              refine tr_iload_n dX8_findStirs_58 hl48 ?_
              refine q_iast dX8_findStirs_59 (kR43 hS50.1 ta30) (ti_in (nR43 hS50.1 ta30) (by omega) (by omega)) hS50 ta30 (by show (0 : Int) ≤ v45.toInt ∧ v45.toInt ≤ (239 : Int); omega) rfl (by rfl) ?_
              intro I103 hS104 e106 f105
              have c107 : I103 a0 10 = v51 := (f105 _ _ (fun q => by have z := ta0; rw [q.1, ta30] at z; exact absurd z (by decide))).trans c52
              refine tr_aload_n dX8_findStirs_60 hl46 ?_
              refine tr_dup dX8_findStirs_61 rfl ?_
              refine q_getI dX8_findStirs_62 fl8_109 (kR12 hS104.1 ta0) c107 ?_
              refine q_iconst dX8_findStirs_65 (by decide) ?_
              intro v108 h109
              refine q_iaddE dX8_findStirs_66 (by intros; omega) ?_
              intro v110 h111
              refine q_putI dX8_findStirs_67 fl8_109 (kR12 hS104.1 ta0) (Or.inl rfl) hS104 ta0 (by show (0 : Int) ≤ v110.toInt ∧ v110.toInt ≤ (240 : Int); omega) rfl (by decide +kernel) ?_
              intro I112 hS113 e114 f115
              refine q_iincE dX8_findStirs_70 hl48 (by decide) (by decide) (by intros; omega) ?_
              intro v116 h117
              refine tr_goto 7 dX8_findStirs_73 (by decide) ?_
              exact ih59 _ v116 I112 v110 hl46 hl47 rfl hS113 e114 (by omega) (by omega) (by omega) (by omega) ((rw57.pu f105 (s := 11) (by omega) (by omega) d31 ta30 (by decide)).po f115 rfl ta0) (StL.ye (ix := v51.toNatClampNeg) rw58 (fun _ => if01) (by omega) (by omega) (by have y8 : (I0 a26 v45.toInt.toNat).toInt = v63.toInt := (by rw [show I0 a26 v45.toInt.toNat = v63 from (hS50.cell ta26 (wm_no (by decide +kernel))).symm.trans c64]); have y9 : (I0 a28 v45.toInt.toNat).toInt = v81.toInt := (by rw [show I0 a28 v45.toInt.toNat = v81 from (hS50.cell ta28 (wm_no (by decide +kernel))).symm.trans c82]); have y3 : (I0 a16 v45.toInt.toNat).toInt = v99.toInt := (by rw [show I0 a16 v45.toInt.toNat = v99 from (hS50.cell ta16 (wm_no (by decide +kernel))).symm.trans c100]); show (if _ ∨ _ ∨ _ ∨ _ then (1 : Int) else 0) = 1; rw [if_pos (by omega)]) (by omega) (by have z := ti_nat (i := v51) (by omega); omega) (by rw [show I112 a30 v51.toNatClampNeg = v45 from (Eq.trans (f115 _ _ (fun q => by have z := ta30; rw [q.1, ta0] at z; exact absurd z (by decide))) e106)]) (fun j hj => ((f115 _ _ (fun q => by have z := ta30; rw [q.1, ta0] at z; exact absurd z (by decide))).trans (f105 _ _ (fun q => hj q.2))))) (by omega)
            · skip
              refine tr_aload_n dX8_findStirs_42 hl47 ?_
              refine tr_iload_n dX8_findStirs_43 hl48 ?_
              refine q_callVi hE (M' := mX4_holds) (as := [_]) dX8_findStirs_44 lk8_112 inX4_holds seX4_holds myX4_holds (by decide) ⟨by decide, by decide⟩ rfl (kR6 hS50.1 ta1) (Nat.le_of_ble_eq_true rfl) rfl rfl (by decide) (by decide) (fk_X4_holds hS50.1  ta1) ?_
              rintro v123 cn' K' N' I118 R119 L120 ⟨rfl, rfl, rfl, rfl, rfl, rfl, h124, rp125, -⟩
              refine q_if_eq 70 dX8_findStirs_47 (by decide) (fun h126 => ?_) (fun h126 => ?_)
              · skip
                refine q_iincE dX8_findStirs_70 hl48 (by decide) (by decide) (by intros; omega) ?_
                intro v127 h128
                refine tr_goto 7 dX8_findStirs_73 (by decide) ?_
                exact ih59 _ v127 I49 v51 hl46 hl47 rfl hS50 c52 (by omega) (by omega) (by omega) (by omega) rw57 (StL.no rw58 (by omega) (by omega) (by have y8 : (I0 a26 v45.toInt.toNat).toInt = v63.toInt := (by rw [show I0 a26 v45.toInt.toNat = v63 from (hS50.cell ta26 (wm_no (by decide +kernel))).symm.trans c64]); have y9 : (I0 a28 v45.toInt.toNat).toInt = v81.toInt := (by rw [show I0 a28 v45.toInt.toNat = v81 from (hS50.cell ta28 (wm_no (by decide +kernel))).symm.trans c82]); have y3 : (I0 a16 v45.toInt.toNat).toInt = v99.toInt := (by rw [show I0 a16 v45.toInt.toNat = v99 from (hS50.cell ta16 (wm_no (by decide +kernel))).symm.trans c100]); have yh : exI (fun j => if (I0 a32 j).toInt = ((v45.toInt.toNat : Nat) : Int) then 1 else 0) (I0 a1 0).toInt.toNat = v123.toInt := (by have z := rp125 _ d33; rw [hS50.cell ta1 (by decide +kernel)] at z; rw [z, show ((v45.toInt.toNat : Nat) : Int) = v45.toInt by omega]; exact exI_cg _ (fun j _ => by rw [hS50.cell ta32 (wm_no (by decide +kernel))])); show (if _ ∨ _ ∨ _ ∨ _ then (1 : Int) else 0) = 0; rw [if_neg (by omega)]) (by omega)) (by omega)
              · skip
                refine tr_aload_n dX8_findStirs_50 hl46 ?_
                refine tr_getR dX8_findStirs_51 fl8_37 (kR12 hS50.1 ta0) d31 ?_
                refine tr_aload_n dX8_findStirs_54 hl46 ?_
                refine q_getI dX8_findStirs_55 fl8_109 (kR12 hS50.1 ta0) c52 ?_
                refine tr_iload_n dX8_findStirs_58 hl48 ?_
                refine q_iast dX8_findStirs_59 (kR43 hS50.1 ta30) (ti_in (nR43 hS50.1 ta30) (by omega) (by omega)) hS50 ta30 (by show (0 : Int) ≤ v45.toInt ∧ v45.toInt ≤ (239 : Int); omega) rfl (by rfl) ?_
                intro I129 hS130 e132 f131
                have c133 : I129 a0 10 = v51 := (f131 _ _ (fun q => by have z := ta0; rw [q.1, ta30] at z; exact absurd z (by decide))).trans c52
                refine tr_aload_n dX8_findStirs_60 hl46 ?_
                refine tr_dup dX8_findStirs_61 rfl ?_
                refine q_getI dX8_findStirs_62 fl8_109 (kR12 hS130.1 ta0) c133 ?_
                refine q_iconst dX8_findStirs_65 (by decide) ?_
                intro v134 h135
                refine q_iaddE dX8_findStirs_66 (by intros; omega) ?_
                intro v136 h137
                refine q_putI dX8_findStirs_67 fl8_109 (kR12 hS130.1 ta0) (Or.inl rfl) hS130 ta0 (by show (0 : Int) ≤ v136.toInt ∧ v136.toInt ≤ (240 : Int); omega) rfl (by decide +kernel) ?_
                intro I138 hS139 e140 f141
                refine q_iincE dX8_findStirs_70 hl48 (by decide) (by decide) (by intros; omega) ?_
                intro v142 h143
                refine tr_goto 7 dX8_findStirs_73 (by decide) ?_
                exact ih59 _ v142 I138 v136 hl46 hl47 rfl hS139 e140 (by omega) (by omega) (by omega) (by omega) ((rw57.pu f131 (s := 11) (by omega) (by omega) d31 ta30 (by decide)).po f141 rfl ta0) (StL.ye (ix := v51.toNatClampNeg) rw58 (fun _ => if01) (by omega) (by omega) (by have y8 : (I0 a26 v45.toInt.toNat).toInt = v63.toInt := (by rw [show I0 a26 v45.toInt.toNat = v63 from (hS50.cell ta26 (wm_no (by decide +kernel))).symm.trans c64]); have y9 : (I0 a28 v45.toInt.toNat).toInt = v81.toInt := (by rw [show I0 a28 v45.toInt.toNat = v81 from (hS50.cell ta28 (wm_no (by decide +kernel))).symm.trans c82]); have y3 : (I0 a16 v45.toInt.toNat).toInt = v99.toInt := (by rw [show I0 a16 v45.toInt.toNat = v99 from (hS50.cell ta16 (wm_no (by decide +kernel))).symm.trans c100]); have yh : exI (fun j => if (I0 a32 j).toInt = ((v45.toInt.toNat : Nat) : Int) then 1 else 0) (I0 a1 0).toInt.toNat = v123.toInt := (by have z := rp125 _ d33; rw [hS50.cell ta1 (by decide +kernel)] at z; rw [z, show ((v45.toInt.toNat : Nat) : Int) = v45.toInt by omega]; exact exI_cg _ (fun j _ => by rw [hS50.cell ta32 (wm_no (by decide +kernel))])); show (if _ ∨ _ ∨ _ ∨ _ then (1 : Int) else 0) = 1; rw [if_pos (by omega)]) (by omega) (by have z := ti_nat (i := v51) (by omega); omega) (by rw [show I138 a30 v51.toNatClampNeg = v45 from (Eq.trans (f141 _ _ (fun q => by have z := ta30; rw [q.1, ta0] at z; exact absurd z (by decide))) e132)]) (fun j hj => ((f141 _ _ (fun q => by have z := ta30; rw [q.1, ta0] at z; exact absurd z (by decide))).trans (f131 _ _ (fun q => hj q.2))))) (by omega)
  exact lp59 _ _ v43 I39 v37 rfl rfl rfl hS40 e41 (by omega) (by omega) (by omega) (by omega) ((FrS.rf (R := R0) (sk := a0) (T := T)).po f42 rfl ta0) ⟨by rw [show v43.toInt.toNat = 0 by omega]; show _ = (0 : Int); omega, fun m hm => by exfalso; omega⟩ (Nat.lt_succ_self _)
def wik_X8_layCloud : List Nat := [2431]
def wrk_X8_layCloud : List Nat := []
set_option maxHeartbeats 4000000 in
theorem fk_X8_layCloud {l : Launch} {T : Nat → Nat} {cn : Nat} {K N : Nat → Nat} {I0 : cz_I} {R0 : cz_R} {L0 : cz_L} {d : Int} (hW0 : Wf T cn K N I0 R0 d)  {a0 : Nat} (ta0 : T a0 = 12) {x1 : Int32} (hx1 : 0 ≤ x1.toInt ∧ x1.toInt ≤ 240) {x2 : Int32} (hx2 : 0 ≤ x2.toInt ∧ x2.toInt ≤ 240) : ConE l mX8_layCloud [.ref a0, .int x1, .int x2] cn K N I0 R0 L0 (ca_v (fun cn' K' N' I' R' L' => cn = cn' ∧ K = K' ∧ N = N' ∧ R0 = R' ∧ L0 = L' ∧ St T cn K N d wik_X8_layCloud wrk_X8_layCloud I0 R0 I' R0 ∧ (∀ r, R0 a0 4 = some r → LyI I0 I' r x1.toInt x2.toInt) ∧ (FrS R0 a0 T I0 I') ∧ True)) := by
  refine ConE.of (by decide +kernel) rfl (Nat.le_of_ble_eq_true rfl) rfl (fun X hX hZ hE => ?_)
  subst hX
  have hS0 : St T cn K N d wik_X8_layCloud wrk_X8_layCloud I0 R0 I0 R0 := St.rf0 hW0
  obtain ⟨a11, d12, ta11⟩ := rf12_2 hW0 ta0
  obtain ⟨a13, d14, ta13⟩ := rf12_3 hW0 ta0
  obtain ⟨a15, d16, ta15⟩ := rf12_4 hW0 ta0
  obtain ⟨a17, d18, ta17⟩ := rf12_5 hW0 ta0
  obtain ⟨a19, d20, ta19⟩ := rf12_6 hW0 ta0
  obtain ⟨a21, d22, ta21⟩ := rf12_7 hW0 ta0
  obtain ⟨a23, d24, ta23⟩ := rf12_8 hW0 ta0
  obtain ⟨a25, d26, ta25⟩ := rf12_9 hW0 ta0
  obtain ⟨a27, d28, ta27⟩ := rf12_11 hW0 ta0
  refine tr_iload_n dX8_layCloud_0 rfl ?_
  refine tr_istore_n dX8_layCloud_1 (by decide) (by decide) ?_
  have lp41 : ∀ (fu : Nat) (ls : Nat → Option Value) (v29 : Int32) (I34 : cz_I), ls 0 = some (.ref a0) → ls 1 = some (.int x1) → ls 2 = some (.int x2) → ls 3 = some (.int v29) → St T cn K N d wik_X8_layCloud wrk_X8_layCloud I0 R0 I34 R0 → 0 ≤ v29.toInt → x1.toInt ≤ v29.toInt → (v29.toInt ≤ x2.toInt ∨ v29.toInt = x1.toInt) → (LyI I0 I34 a15 x1.toInt v29.toInt) → (FrS R0 a0 T I0 I34) → (-v29.toInt + 2147483647).toNat < fu → Tr X mX8_layCloud 2 ls [] cn K N I34 R0 L0 0 0 := by
    intro fu
    induction fu with
    | zero => intros; rename_i hz; exact absurd hz (Nat.not_lt_zero _)
    | succ fu ih41 =>
      intro ls v29 I34 hl30 hl31 hl32 hl33 hS35 g36 g37 g38 rw39 rw40 hm41
      refine tr_iload_n dX8_layCloud_2 hl33 ?_
      refine tr_iload_n dX8_layCloud_3 hl32 ?_
      refine q_icmp_ge 20 dX8_layCloud_4 (by decide) (fun h43 => ?_) (fun h43 => ?_)
      · skip
        exact tr_vret hZ dX8_layCloud_20 rfl (by decide) (by decide) ⟨rfl, rfl, rfl, rfl, rfl, rfl, hS35, (fun r hr => by obtain rfl := Option.some.inj (d16.symm.trans hr); exact LyI.fin rw39 (by omega) (by omega)), rw40, trivial⟩
      · skip
        refine tr_aload_n dX8_layCloud_7 hl30 ?_
        refine tr_getR dX8_layCloud_8 fl8_18 (kR12 hS35.1 ta0) d16 ?_
        refine tr_iload_n dX8_layCloud_11 hl33 ?_
        refine q_iconst dX8_layCloud_12 (by decide) ?_
        intro v44 h45
        refine q_zastE dX8_layCloud_13 (kR37 hS35.1 ta15) (ti_in (nR37 hS35.1 ta15) (by omega) (by omega)) hS35 ta15 (by omega) rfl rfl (by rfl) ?_
        intro I46 hS47 e49 f48
        refine q_iincE dX8_layCloud_14 hl33 (by decide) (by decide) (by intros; omega) ?_
        intro v50 h51
        refine tr_goto 2 dX8_layCloud_17 (by decide) ?_
        exact ih41 _ v50 I46 hl30 hl31 hl32 rfl hS47 (by omega) (by omega) (by omega) (LyI.stp (ix := v29.toNatClampNeg) rw39 (ti_nat (by omega)) (by omega) (by omega) (Eq.trans e49 (Int32.toInt_inj.mp ((show v44.toInt = 1 by omega).trans rfl))) (fun k hk => (f48 _ _ (fun q => hk q.2)))) (rw40.pu f48 (s := 4) (by omega) (by omega) d16 ta15 (by decide)) (by omega)
  exact lp41 _ _ x1 I0 rfl rfl rfl rfl hS0 (by omega) (by omega) (by omega) (LyI.z (fun _ => rfl) (by omega)) (FrS.rf (R := R0) (sk := a0) (T := T)) (Nat.lt_succ_self _)
def wik_X8_layEvent : List Nat := [2303, 2367, 2431, 2495, 2623]
def wrk_X8_layEvent : List Nat := []
set_option maxHeartbeats 4000000 in
theorem fk_X8_layEvent {l : Launch} {T : Nat → Nat} {cn : Nat} {K N : Nat → Nat} {I0 : cz_I} {R0 : cz_R} {L0 : cz_L} {d : Int} (hW0 : Wf T cn K N I0 R0 d)  {a0 : Nat} (ta0 : T a0 = 12) {a1 : Nat} (ta1 : T a1 = 3) (pre0 : 0 ≤ (I0 a1 0).toInt) (pre1 : (I0 a1 0).toInt ≤ 4) : ConE l mX8_layEvent [.ref a0, .ref a1] cn K N I0 R0 L0 (ca_v (fun cn' K' N' I' R' L' => cn = cn' ∧ K = K' ∧ N = N' ∧ R0 = R' ∧ L0 = L' ∧ St T cn K N d wik_X8_layEvent wrk_X8_layEvent I0 R0 I' R0 ∧ (∀ r, R0 a0 2 = some r → LyI I0 I' r (I0 a1 2).toInt (if (I0 a1 0).toInt = 1 then (I0 a1 3).toInt else (I0 a1 2).toInt)) ∧ (∀ r, R0 a0 3 = some r → LyI I0 I' r (I0 a1 2).toInt (if (I0 a1 0).toInt = 4 then (I0 a1 3).toInt else (I0 a1 2).toInt)) ∧ (∀ r, R0 a0 4 = some r → LyI I0 I' r (I0 a1 2).toInt (if (I0 a1 0).toInt = 0 then (I0 a1 3).toInt else (I0 a1 2).toInt)) ∧ (∀ r, R0 a0 5 = some r → LyB I0 I' r (I0 a1 2).toInt (if (I0 a1 0).toInt = 3 then (I0 a1 3).toInt else (I0 a1 2).toInt) (I0 a1 1)) ∧ (∀ r, R0 a0 7 = some r → LyB I0 I' r (I0 a1 2).toInt (if (I0 a1 0).toInt = 2 then (I0 a1 3).toInt else (I0 a1 2).toInt) (I0 a1 1)) ∧ (FrS R0 a0 T I0 I') ∧ True)) := by
  refine ConE.of (by decide +kernel) rfl (Nat.le_of_ble_eq_true rfl) rfl (fun X hX hZ hE => ?_)
  subst hX
  have hS0 : St T cn K N d wik_X8_layEvent wrk_X8_layEvent I0 R0 I0 R0 := St.rf0 hW0
  obtain ⟨v11, c12⟩ : ∃ v, I0 a1 0 = v := ⟨_, rfl⟩
  have p13 := pre0
  rw [c12] at p13
  have p14 := pre1
  rw [c12] at p14
  obtain ⟨a15, d16, ta15⟩ := rf12_2 hW0 ta0
  obtain ⟨a17, d18, ta17⟩ := rf12_3 hW0 ta0
  obtain ⟨a19, d20, ta19⟩ := rf12_4 hW0 ta0
  obtain ⟨a21, d22, ta21⟩ := rf12_5 hW0 ta0
  obtain ⟨a23, d24, ta23⟩ := rf12_6 hW0 ta0
  obtain ⟨a25, d26, ta25⟩ := rf12_7 hW0 ta0
  obtain ⟨a27, d28, ta27⟩ := rf12_8 hW0 ta0
  obtain ⟨a29, d30, ta29⟩ := rf12_9 hW0 ta0
  obtain ⟨a31, d32, ta31⟩ := rf12_11 hW0 ta0
  obtain ⟨v33, c34⟩ : ∃ v, I0 a1 1 = v := ⟨_, rfl⟩
  obtain ⟨v35, c36⟩ : ∃ v, I0 a1 2 = v := ⟨_, rfl⟩
  have b37 := iv3_2 hW0 ta1 c36
  obtain ⟨v38, c39⟩ : ∃ v, I0 a1 3 = v := ⟨_, rfl⟩
  have b40 := iv3_3 hW0 ta1 c39
  refine tr_aload_n dX8_layEvent_0 rfl ?_
  refine q_getI dX8_layEvent_1 fl8_93 (kR3 hS0.1 ta1) c36 ?_
  refine tr_istore_n dX8_layEvent_4 (by decide) (by decide) ?_
  have lp55 : ∀ (fu : Nat) (ls : Nat → Option Value) (v41 : Int32) (I45 : cz_I), ls 0 = some (.ref a0) → ls 1 = some (.ref a1) → ls 2 = some (.int v41) → St T cn K N d wik_X8_layEvent wrk_X8_layEvent I0 R0 I45 R0 → 0 ≤ v41.toInt → (LyI I0 I45 a15 v35.toInt (if v11.toInt = 1 then v41.toInt else v35.toInt)) → (LyI I0 I45 a17 v35.toInt (if v11.toInt = 4 then v41.toInt else v35.toInt)) → (LyI I0 I45 a19 v35.toInt (if v11.toInt = 0 then v41.toInt else v35.toInt)) → (LyB I0 I45 a21 v35.toInt (if v11.toInt = 3 then v41.toInt else v35.toInt) v33) → (LyB I0 I45 a25 v35.toInt (if v11.toInt = 2 then v41.toInt else v35.toInt) v33) → (FrS R0 a0 T I0 I45) → (v35.toInt ≤ v41.toInt ∧ (v41.toInt ≤ v38.toInt ∨ v41.toInt = v35.toInt)) → (-v41.toInt + 2147483647).toNat < fu → Tr X mX8_layEvent 5 ls [] cn K N I45 R0 L0 0 0 := by
    intro fu
    induction fu with
    | zero => intros; rename_i hz; exact absurd hz (Nat.not_lt_zero _)
    | succ fu ih55 =>
      intro ls v41 I45 hl42 hl43 hl44 hS46 g47 rw48 rw49 rw50 rw51 rw52 rw53 rw54 hm55
      refine tr_iload_n dX8_layEvent_5 hl44 ?_
      refine tr_aload_n dX8_layEvent_6 hl43 ?_
      refine q_getI dX8_layEvent_7 fl8_97 (kR3 hS46.1 ta1) ((hS46.cell ta1 (by decide +kernel)).trans c39) ?_
      refine q_icmp_ge 117 dX8_layEvent_10 (by decide) (fun h57 => ?_) (fun h57 => ?_)
      · skip
        exact tr_vret hZ dX8_layEvent_117 rfl (by decide) (by decide) ⟨rfl, rfl, rfl, rfl, rfl, rfl, hS46, (fun r hr => by obtain rfl := Option.some.inj (d16.symm.trans hr); rw [c12, c36, c39]; exact LyI.fif rw48 (by omega) (by omega)), (fun r hr => by obtain rfl := Option.some.inj (d18.symm.trans hr); rw [c12, c36, c39]; exact LyI.fif rw49 (by omega) (by omega)), (fun r hr => by obtain rfl := Option.some.inj (d20.symm.trans hr); rw [c12, c36, c39]; exact LyI.fif rw50 (by omega) (by omega)), (fun r hr => by obtain rfl := Option.some.inj (d22.symm.trans hr); rw [c12, c34, c36, c39]; exact LyB.fif rw51 (by omega) (by omega)), (fun r hr => by obtain rfl := Option.some.inj (d26.symm.trans hr); rw [c12, c34, c36, c39]; exact LyB.fif rw52 (by omega) (by omega)), rw53, trivial⟩
      · skip
        refine tr_aload_n dX8_layEvent_13 hl43 ?_
        refine q_getI dX8_layEvent_14 fl8_99 (kR3 hS46.1 ta1) ((hS46.cell ta1 (by decide +kernel)).trans c12) ?_
        by_cases h58 : v11.toInt = 0
        · skip
          refine tr_tabIn (off := 31) 48 dX8_layEvent_17 (by omega) (by omega) (by rw [h58]; decide +kernel) (by decide) ?_
          refine tr_aload_n dX8_layEvent_48 hl42 ?_
          refine tr_getR dX8_layEvent_49 fl8_18 (kR12 hS46.1 ta0) d20 ?_
          refine tr_iload_n dX8_layEvent_52 hl44 ?_
          refine q_iconst dX8_layEvent_53 (by decide) ?_
          intro v59 h60
          refine q_zastE dX8_layEvent_54 (kR37 hS46.1 ta19) (ti_in (nR37 hS46.1 ta19) (by omega) (by omega)) hS46 ta19 (by omega) rfl rfl (by rfl) ?_
          intro I61 hS62 e64 f63
          refine tr_goto 111 dX8_layEvent_55 (by decide) ?_
          refine q_iincE dX8_layEvent_111 hl44 (by decide) (by decide) (by intros; omega) ?_
          intro v65 h66
          refine tr_goto 5 dX8_layEvent_114 (by decide) ?_
          exact ih55 _ v65 I61 hl42 hl43 rfl hS62 (by omega) (by have z := rw48; rw [if_neg (by omega)] at z ⊢; exact z.kp (fun m => (f63 _ _ (fun q => by have z := ta15; rw [q.1, ta19] at z; exact absurd z (by decide))))) (by have z := rw49; rw [if_neg (by omega)] at z ⊢; exact z.kp (fun m => (f63 _ _ (fun q => by have z := ta17; rw [q.1, ta19] at z; exact absurd z (by decide))))) (by have z := rw50; rw [if_pos (by omega)] at z ⊢; exact LyI.stp (ix := v41.toNatClampNeg) z (ti_nat (by omega)) (by omega) (by omega) (Eq.trans e64 (Int32.toInt_inj.mp ((show v59.toInt = 1 by omega).trans rfl))) (fun k hk => (f63 _ _ (fun q => hk q.2)))) (by have z := rw51; rw [if_neg (by omega)] at z ⊢; exact z.kp (fun m => (f63 _ _ (fun q => by have z := ta21; rw [q.1, ta19] at z; exact absurd z (by decide))))) (by have z := rw52; rw [if_neg (by omega)] at z ⊢; exact z.kp (fun m => (f63 _ _ (fun q => by have z := ta25; rw [q.1, ta19] at z; exact absurd z (by decide))))) (rw53.pu f63 (s := 4) (by omega) (by omega) d20 ta19 (by decide)) (by omega) (by omega)
        · skip
          by_cases h67 : v11.toInt = 1
          · skip
            refine tr_tabIn (off := 41) 58 dX8_layEvent_17 (by omega) (by omega) (by rw [h67]; decide +kernel) (by decide) ?_
            refine tr_aload_n dX8_layEvent_58 hl42 ?_
            refine tr_getR dX8_layEvent_59 fl8_9 (kR12 hS46.1 ta0) d16 ?_
            refine tr_iload_n dX8_layEvent_62 hl44 ?_
            refine q_iconst dX8_layEvent_63 (by decide) ?_
            intro v68 h69
            refine q_zastE dX8_layEvent_64 (kR35 hS46.1 ta15) (ti_in (nR35 hS46.1 ta15) (by omega) (by omega)) hS46 ta15 (by omega) rfl rfl (by rfl) ?_
            intro I70 hS71 e73 f72
            refine tr_goto 111 dX8_layEvent_65 (by decide) ?_
            refine q_iincE dX8_layEvent_111 hl44 (by decide) (by decide) (by intros; omega) ?_
            intro v74 h75
            refine tr_goto 5 dX8_layEvent_114 (by decide) ?_
            exact ih55 _ v74 I70 hl42 hl43 rfl hS71 (by omega) (by have z := rw48; rw [if_pos (by omega)] at z ⊢; exact LyI.stp (ix := v41.toNatClampNeg) z (ti_nat (by omega)) (by omega) (by omega) (Eq.trans e73 (Int32.toInt_inj.mp ((show v68.toInt = 1 by omega).trans rfl))) (fun k hk => (f72 _ _ (fun q => hk q.2)))) (by have z := rw49; rw [if_neg (by omega)] at z ⊢; exact z.kp (fun m => (f72 _ _ (fun q => by have z := ta17; rw [q.1, ta15] at z; exact absurd z (by decide))))) (by have z := rw50; rw [if_neg (by omega)] at z ⊢; exact z.kp (fun m => (f72 _ _ (fun q => by have z := ta19; rw [q.1, ta15] at z; exact absurd z (by decide))))) (by have z := rw51; rw [if_neg (by omega)] at z ⊢; exact z.kp (fun m => (f72 _ _ (fun q => by have z := ta21; rw [q.1, ta15] at z; exact absurd z (by decide))))) (by have z := rw52; rw [if_neg (by omega)] at z ⊢; exact z.kp (fun m => (f72 _ _ (fun q => by have z := ta25; rw [q.1, ta15] at z; exact absurd z (by decide))))) (rw53.pu f72 (s := 2) (by omega) (by omega) d16 ta15 (by decide)) (by omega) (by omega)
          · skip
            by_cases h76 : v11.toInt = 2
            · skip
              refine tr_tabIn (off := 51) 68 dX8_layEvent_17 (by omega) (by omega) (by rw [h76]; decide +kernel) (by decide) ?_
              refine tr_aload_n dX8_layEvent_68 hl42 ?_
              refine tr_getR dX8_layEvent_69 fl8_28 (kR12 hS46.1 ta0) d26 ?_
              refine tr_iload_n dX8_layEvent_72 hl44 ?_
              refine tr_dup2 dX8_layEvent_73 rfl rfl ?_
              refine q_iald dX8_layEvent_74 (kR40 hS46.1 ta25) (ti_in (nR40 hS46.1 ta25) (by omega) (by omega)) ?_
              intro v77 c78
              refine q_iconst dX8_layEvent_75 (by decide) ?_
              intro v79 h80
              refine tr_aload_n dX8_layEvent_76 hl43 ?_
              refine q_getI dX8_layEvent_77 fl8_102 (kR3 hS46.1 ta1) ((hS46.cell ta1 (by decide +kernel)).trans c34) ?_
              refine tr_ishl dX8_layEvent_80 ?_
              obtain ⟨v81, lx82⟩ : ∃ z, z = v79 <<< (v33 &&& 31) := ⟨_, rfl⟩
              rw [← lx82]
              refine tr_ior dX8_layEvent_81 ?_
              obtain ⟨v83, lx84⟩ : ∃ z, z = v77 ||| v81 := ⟨_, rfl⟩
              rw [← lx84]
              refine q_iast dX8_layEvent_82 (kR40 hS46.1 ta25) (ti_in (nR40 hS46.1 ta25) (by omega) (by omega)) hS46 ta25 (iokF rfl) rfl (by rfl) ?_
              intro I85 hS86 e88 f87
              refine tr_goto 111 dX8_layEvent_83 (by decide) ?_
              refine q_iincE dX8_layEvent_111 hl44 (by decide) (by decide) (by intros; omega) ?_
              intro v89 h90
              refine tr_goto 5 dX8_layEvent_114 (by decide) ?_
              exact ih55 _ v89 I85 hl42 hl43 rfl hS86 (by omega) (by have z := rw48; rw [if_neg (by omega)] at z ⊢; exact z.kp (fun m => (f87 _ _ (fun q => by have z := ta15; rw [q.1, ta25] at z; exact absurd z (by decide))))) (by have z := rw49; rw [if_neg (by omega)] at z ⊢; exact z.kp (fun m => (f87 _ _ (fun q => by have z := ta17; rw [q.1, ta25] at z; exact absurd z (by decide))))) (by have z := rw50; rw [if_neg (by omega)] at z ⊢; exact z.kp (fun m => (f87 _ _ (fun q => by have z := ta19; rw [q.1, ta25] at z; exact absurd z (by decide))))) (by have z := rw51; rw [if_neg (by omega)] at z ⊢; exact z.kp (fun m => (f87 _ _ (fun q => by have z := ta21; rw [q.1, ta25] at z; exact absurd z (by decide))))) (by have z := rw52; rw [if_pos (by omega)] at z ⊢; exact LyB.stp (ix := v41.toNatClampNeg) (o := v79) z (ti_nat (by omega)) (by omega) (by omega) c78 (by omega) (Eq.trans e88 (lx84.trans (by rw [lx82]))) (fun k hk => (f87 _ _ (fun q => hk q.2)))) (rw53.pu f87 (s := 7) (by omega) (by omega) d26 ta25 (by decide)) (by omega) (by omega)
            · skip
              by_cases h91 : v11.toInt = 3
              · skip
                refine tr_tabIn (off := 69) 86 dX8_layEvent_17 (by omega) (by omega) (by rw [h91]; decide +kernel) (by decide) ?_
                refine tr_aload_n dX8_layEvent_86 hl42 ?_
                refine tr_getR dX8_layEvent_87 fl8_21 (kR12 hS46.1 ta0) d22 ?_
                refine tr_iload_n dX8_layEvent_90 hl44 ?_
                refine tr_dup2 dX8_layEvent_91 rfl rfl ?_
                refine q_iald dX8_layEvent_92 (kR38 hS46.1 ta21) (ti_in (nR38 hS46.1 ta21) (by omega) (by omega)) ?_
                intro v92 c93
                refine q_iconst dX8_layEvent_93 (by decide) ?_
                intro v94 h95
                refine tr_aload_n dX8_layEvent_94 hl43 ?_
                refine q_getI dX8_layEvent_95 fl8_102 (kR3 hS46.1 ta1) ((hS46.cell ta1 (by decide +kernel)).trans c34) ?_
                refine tr_ishl dX8_layEvent_98 ?_
                obtain ⟨v96, lx97⟩ : ∃ z, z = v94 <<< (v33 &&& 31) := ⟨_, rfl⟩
                rw [← lx97]
                refine tr_ior dX8_layEvent_99 ?_
                obtain ⟨v98, lx99⟩ : ∃ z, z = v92 ||| v96 := ⟨_, rfl⟩
                rw [← lx99]
                refine q_iast dX8_layEvent_100 (kR38 hS46.1 ta21) (ti_in (nR38 hS46.1 ta21) (by omega) (by omega)) hS46 ta21 (iokF rfl) rfl (by rfl) ?_
                intro I100 hS101 e103 f102
                refine tr_goto 111 dX8_layEvent_101 (by decide) ?_
                refine q_iincE dX8_layEvent_111 hl44 (by decide) (by decide) (by intros; omega) ?_
                intro v104 h105
                refine tr_goto 5 dX8_layEvent_114 (by decide) ?_
                exact ih55 _ v104 I100 hl42 hl43 rfl hS101 (by omega) (by have z := rw48; rw [if_neg (by omega)] at z ⊢; exact z.kp (fun m => (f102 _ _ (fun q => by have z := ta15; rw [q.1, ta21] at z; exact absurd z (by decide))))) (by have z := rw49; rw [if_neg (by omega)] at z ⊢; exact z.kp (fun m => (f102 _ _ (fun q => by have z := ta17; rw [q.1, ta21] at z; exact absurd z (by decide))))) (by have z := rw50; rw [if_neg (by omega)] at z ⊢; exact z.kp (fun m => (f102 _ _ (fun q => by have z := ta19; rw [q.1, ta21] at z; exact absurd z (by decide))))) (by have z := rw51; rw [if_pos (by omega)] at z ⊢; exact LyB.stp (ix := v41.toNatClampNeg) (o := v94) z (ti_nat (by omega)) (by omega) (by omega) c93 (by omega) (Eq.trans e103 (lx99.trans (by rw [lx97]))) (fun k hk => (f102 _ _ (fun q => hk q.2)))) (by have z := rw52; rw [if_neg (by omega)] at z ⊢; exact z.kp (fun m => (f102 _ _ (fun q => by have z := ta25; rw [q.1, ta21] at z; exact absurd z (by decide))))) (rw53.pu f102 (s := 5) (by omega) (by omega) d22 ta21 (by decide)) (by omega) (by omega)
              · skip
                refine tr_tabOut 104 dX8_layEvent_17 (by omega) (by decide) ?_
                refine tr_aload_n dX8_layEvent_104 hl42 ?_
                refine tr_getR dX8_layEvent_105 fl8_15 (kR12 hS46.1 ta0) d18 ?_
                refine tr_iload_n dX8_layEvent_108 hl44 ?_
                refine q_iconst dX8_layEvent_109 (by decide) ?_
                intro v106 h107
                refine q_zastE dX8_layEvent_110 (kR36 hS46.1 ta17) (ti_in (nR36 hS46.1 ta17) (by omega) (by omega)) hS46 ta17 (by omega) rfl rfl (by rfl) ?_
                intro I108 hS109 e111 f110
                refine q_iincE dX8_layEvent_111 hl44 (by decide) (by decide) (by intros; omega) ?_
                intro v112 h113
                refine tr_goto 5 dX8_layEvent_114 (by decide) ?_
                exact ih55 _ v112 I108 hl42 hl43 rfl hS109 (by omega) (by have z := rw48; rw [if_neg (by omega)] at z ⊢; exact z.kp (fun m => (f110 _ _ (fun q => by have z := ta15; rw [q.1, ta17] at z; exact absurd z (by decide))))) (by have z := rw49; rw [if_pos (by omega)] at z ⊢; exact LyI.stp (ix := v41.toNatClampNeg) z (ti_nat (by omega)) (by omega) (by omega) (Eq.trans e111 (Int32.toInt_inj.mp ((show v106.toInt = 1 by omega).trans rfl))) (fun k hk => (f110 _ _ (fun q => hk q.2)))) (by have z := rw50; rw [if_neg (by omega)] at z ⊢; exact z.kp (fun m => (f110 _ _ (fun q => by have z := ta19; rw [q.1, ta17] at z; exact absurd z (by decide))))) (by have z := rw51; rw [if_neg (by omega)] at z ⊢; exact z.kp (fun m => (f110 _ _ (fun q => by have z := ta21; rw [q.1, ta17] at z; exact absurd z (by decide))))) (by have z := rw52; rw [if_neg (by omega)] at z ⊢; exact z.kp (fun m => (f110 _ _ (fun q => by have z := ta25; rw [q.1, ta17] at z; exact absurd z (by decide))))) (rw53.pu f110 (s := 3) (by omega) (by omega) d18 ta17 (by decide)) (by omega) (by omega)
  exact lp55 _ _ v35 I0 rfl rfl rfl hS0 (by omega) (LyI.z (fun _ => rfl) (by split <;> omega)) (LyI.z (fun _ => rfl) (by split <;> omega)) (LyI.z (fun _ => rfl) (by split <;> omega)) (LyB.z (fun _ => rfl) (by split <;> omega)) (LyB.z (fun _ => rfl) (by split <;> omega)) (FrS.rf (R := R0) (sk := a0) (T := T)) (by omega) (Nat.lt_succ_self _)
