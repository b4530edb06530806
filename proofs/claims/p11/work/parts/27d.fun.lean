def wik_X10_refusedAct : List Nat := [81]
def wrk_X10_refusedAct : List Nat := []
set_option maxHeartbeats 4000000 in
theorem fk_X10_refusedAct {l : Launch} {T : Nat → Nat} {cn : Nat} {K N : Nat → Nat} {I0 : cz_I} {R0 : cz_R} {L0 : cz_L} {d : Int} (hW0 : Wf T cn K N I0 R0 d)  {a0 : Nat} (ta0 : T a0 = 1) {x1 : Int32} : ConE l mX10_refusedAct [.ref a0, .int x1] cn K N I0 R0 L0 (ca_i (fun v cn' K' N' I' R' L' => cn = cn' ∧ K = K' ∧ N = N' ∧ R0 = R' ∧ L0 = L' ∧ St T cn K N d wik_X10_refusedAct wrk_X10_refusedAct I0 R0 I' R0 ∧ (0 ≤ v.toInt ∧ v.toInt ≤ 1) ∧ (v.toInt = 0) ∧ ((I' a0 17).toInt = x1.toInt) ∧ True)) := by
  refine ConE.of (by decide +kernel) rfl (Nat.le_of_ble_eq_true rfl) rfl (fun X hX hZ hE => ?_)
  subst hX
  have hS0 : St T cn K N d wik_X10_refusedAct wrk_X10_refusedAct I0 R0 I0 R0 := St.rf0 hW0
  refine tr_aload_n dX10_refusedAct_0 rfl ?_
  refine tr_iload_n dX10_refusedAct_1 rfl ?_
  refine q_putI dX10_refusedAct_2 fl10_112 (kR1 hS0.1 ta0) (Or.inl rfl) hS0 ta0 (iokF rfl) rfl (by decide +kernel) ?_
  intro I1 hS2 e3 f4
  refine q_iconst dX10_refusedAct_5 (by decide) ?_
  intro v5 h6
  exact tr_zret hZ dX10_refusedAct_6 rfl (ti_b01 (by exact om_d99fa9e4 h6) (by exact om_d3de7ec9 h6)) (by decide) (by decide) ⟨v5, rfl, rfl, rfl, rfl, rfl, rfl, hS2, (by exact om_3b50ecb9 h6), (by first | done | with_reducible assumption | omega), (by (try rw [e3]); first | done | with_reducible assumption | omega), trivial⟩
def wik_X3_become : List Nat := [640, 641, 642, 2047, 2111]
def wrk_X3_become : List Nat := []
set_option maxHeartbeats 4000000 in
theorem fk_X3_become {l : Launch} {T : Nat → Nat} {cn : Nat} {K N : Nat → Nat} {I0 : cz_I} {R0 : cz_R} {L0 : cz_L} {d : Int} (hW0 : Wf T cn K N I0 R0 d)  {a0 : Nat} (ta0 : T a0 = 10) {a1 : Nat} (ta1 : T a1 = 8) : ConE l mX3_become [.ref a0, .ref a1] cn K N I0 R0 L0 (ca_v (fun cn' K' N' I' R' L' => cn = cn' ∧ K = K' ∧ N = N' ∧ R0 = R' ∧ L0 = L' ∧ St T cn K N d wik_X3_become wrk_X3_become I0 R0 I' R0 ∧ ((I' a0 0).toInt = (I0 a1 0).toInt) ∧ ((I' a0 1).toInt = (I0 a1 1).toInt) ∧ ((I' a0 2).toInt = (I0 a1 2).toInt) ∧ (RwC I0 R0 I' a0 a1 (I0 a1 2).toInt) ∧ (∀ f, R0 a0 3 = some f → FrO 31 f T I0 I') ∧ (∀ f, R0 a0 4 = some f → FrO 32 f T I0 I') ∧ (FrO 10 a0 T I0 I') ∧ True)) := by
  refine ConE.of (by decide +kernel) rfl (Nat.le_of_ble_eq_true rfl) rfl (fun X hX hZ hE => ?_)
  subst hX
  have hS0 : St T cn K N d wik_X3_become wrk_X3_become I0 R0 I0 R0 := St.rf0 hW0
  obtain ⟨v1, c2⟩ : ∃ v, I0 a1 0 = v := ⟨_, rfl⟩
  obtain ⟨v3, c4⟩ : ∃ v, I0 a1 1 = v := ⟨_, rfl⟩
  have b5 := iv8_1 hW0 ta1 c4
  obtain ⟨v6, c7⟩ : ∃ v, I0 a1 2 = v := ⟨_, rfl⟩
  have b8 := iv8_2 hW0 ta1 c7
  have hO0 : FrO 10 a0 T I0 I0 := FrO.rf
  obtain ⟨a9, d10, ta9⟩ := rf10_3 hW0 ta0
  obtain ⟨a11, d12, ta11⟩ := rf10_4 hW0 ta0
  obtain ⟨a13, d14, ta13⟩ := rf8_3 hW0 ta1
  obtain ⟨a15, d16, ta15⟩ := rf8_4 hW0 ta1
  refine tr_aload_n dX3_become_0 rfl ?_
  refine tr_aload_n dX3_become_1 rfl ?_
  refine q_getI dX3_become_2 fl3_18 (kR8 hS0.1 ta1) c2 ?_
  refine q_putI dX3_become_5 fl3_18 (kR10 hS0.1 ta0) (Or.inl rfl) hS0 ta0 (iokF rfl) rfl (by decide +kernel) ?_
  intro I17 hS18 e19 f20
  have hO21 : FrO 10 a0 T I0 I17 := hO0.put f20 ta0 (Or.inr rfl)
  refine tr_aload_n dX3_become_8 rfl ?_
  refine tr_aload_n dX3_become_9 rfl ?_
  refine q_getI dX3_become_10 fl3_22 (kR8 hS18.1 ta1) ((hS18.cell ta1 (by decide +kernel)).trans c4) ?_
  refine q_putI dX3_become_13 fl3_22 (kR10 hS18.1 ta0) (Or.inl rfl) hS18 ta0 (by show (0 : Int) ≤ v3.toInt ∧ v3.toInt ≤ (65536 : Int); exact om_fc33552b b5) rfl (by decide +kernel) ?_
  intro I22 hS23 e24 f25
  have c26 : I22 a0 0 = v1 := (f25 _ _ (fun q => absurd q.2 (by decide))).trans e19
  have hO27 : FrO 10 a0 T I0 I22 := hO21.put f25 ta0 (Or.inr rfl)
  refine tr_aload_n dX3_become_16 rfl ?_
  refine tr_aload_n dX3_become_17 rfl ?_
  refine q_getI dX3_become_18 fl3_25 (kR8 hS23.1 ta1) ((hS23.cell ta1 (by decide +kernel)).trans c7) ?_
  refine q_putI dX3_become_21 fl3_25 (kR10 hS23.1 ta0) (Or.inl rfl) hS23 ta0 (by show (0 : Int) ≤ v6.toInt ∧ v6.toInt ≤ (6 : Int); exact om_cafeadf3 b8) rfl (by decide +kernel) ?_
  intro I28 hS29 e30 f31
  have c32 : I28 a0 0 = v1 := (f31 _ _ (fun q => absurd q.2 (by decide))).trans c26
  have c33 : I28 a0 1 = v3 := (f31 _ _ (fun q => absurd q.2 (by decide))).trans e24
  have hO34 : FrO 10 a0 T I0 I28 := hO27.put f31 ta0 (Or.inr rfl)
  refine q_iconst dX3_become_24 (by decide) ?_
  intro v35 h36
  refine tr_istore_n dX3_become_25 (by decide) (by decide) ?_
  have lp57 : ∀ (fu : Nat) (ls : Nat → Option Value) (v37 : Int32) (I41 : cz_I) (v44 : Int32) (v46 : Int32) (v48 : Int32), ls 0 = some (.ref a0) → ls 1 = some (.ref a1) → ls 2 = some (.int v37) → St T cn K N d wik_X3_become wrk_X3_become I0 R0 I41 R0 → FrO 10 a0 T I0 I41 → I41 a0 0 = v44 → I41 a0 1 = v46 → I41 a0 2 = v48 → v44.toInt = v1.toInt → v46.toInt = v3.toInt → v48.toInt = v6.toInt → 0 ≤ v37.toInt → (RwC I0 R0 I41 a0 a1 v37.toInt) → (FrO 31 a9 T I0 I41) → (FrO 32 a11 T I0 I41) → (-v37.toInt + 2147483647).toNat < fu → Tr X mX3_become 26 ls [] cn K N I41 R0 L0 0 0 := by
    intro fu
    induction fu with
    | zero => intros; rename_i hz; exact absurd hz (Nat.not_lt_zero _)
    | succ fu ih57 =>
      intro ls v37 I41 v44 v46 v48 hl38 hl39 hl40 hS42 hO43 c45 c47 c49 g50 g51 g52 g53 rw54 rw55 rw56 hm57
      have b59 := iv10_1 hS42.1 ta0 c47
      have b60 := iv10_2 hS42.1 ta0 c49
      refine tr_iload_n dX3_become_26 hl40 ?_
      refine tr_aload_n dX3_become_27 hl39 ?_
      refine q_getI dX3_become_28 fl3_25 (kR8 hS42.1 ta1) ((hS42.cell ta1 (by decide +kernel)).trans c7) ?_
      refine q_icmp_ge 64 dX3_become_31 (by decide) (fun h61 => ?_) (fun h61 => ?_)
      · skip
        exact tr_vret hZ dX3_become_64 rfl (by decide) (by decide) ⟨rfl, rfl, rfl, rfl, rfl, rfl, hS42, (by (try rw [c45]); (try rw [c2]); first | done | with_reducible assumption | omega), (by (try rw [c47]); (try rw [c4]); first | done | with_reducible assumption | omega), (by (try rw [c49]); (try rw [c7]); first | done | with_reducible assumption | omega), (by rw [c7]; exact RwC.le rw54 (by exact om_97f5682a h61)), (fun f hf => (Option.some.inj (d10.symm.trans hf)) ▸ rw55), (fun f hf => (Option.some.inj (d12.symm.trans hf)) ▸ rw56), hO43, trivial⟩
      · skip
        refine tr_aload_n dX3_become_34 hl38 ?_
        refine tr_getR dX3_become_35 fl3_9 (kR10 hS42.1 ta0) d10 ?_
        refine tr_iload_n dX3_become_38 hl40 ?_
        refine tr_aload_n dX3_become_39 hl39 ?_
        refine tr_getR dX3_become_40 fl3_9 (kR8 hS42.1 ta1) d14 ?_
        refine tr_iload_n dX3_become_43 hl40 ?_
        refine q_iald dX3_become_44 (kR27 hS42.1 ta13) (ti_in (nR27 hS42.1 ta13) (by exact om_2cfcd5a5 g53) (by exact om_fcfbe61b b8.2 b8.1 g52 h61)) ?_
        intro v62 c63
        have b64 := iv27 hS42.1 ta13 c63
        refine q_iast dX3_become_45 (kR31 hS42.1 ta9) (ti_in (nR31 hS42.1 ta9) (by exact om_2cfcd5a5 g53) (by exact om_fcfbe61b b8.2 b8.1 g52 h61)) hS42 ta9 (by show (0 : Int) ≤ v62.toInt ∧ v62.toInt ≤ (240 : Int); exact om_d956ef70 b64) rfl (by rfl) ?_
        intro I65 hS66 e68 f67
        have c69 : I65 a0 0 = v44 := (f67 _ _ (fun q => by have z := ta0; rw [q.1, ta9] at z; exact absurd z (by decide))).trans c45
        have c70 : I65 a0 1 = v46 := (f67 _ _ (fun q => by have z := ta0; rw [q.1, ta9] at z; exact absurd z (by decide))).trans c47
        have c71 : I65 a0 2 = v48 := (f67 _ _ (fun q => by have z := ta0; rw [q.1, ta9] at z; exact absurd z (by decide))).trans c49
        have hO72 : FrO 10 a0 T I0 I65 := hO43.put f67 ta9 (Or.inl (by decide))
        refine tr_aload_n dX3_become_46 hl38 ?_
        refine tr_getR dX3_become_47 fl3_15 (kR10 hS66.1 ta0) d12 ?_
        refine tr_iload_n dX3_become_50 hl40 ?_
        refine tr_aload_n dX3_become_51 hl39 ?_
        refine tr_getR dX3_become_52 fl3_15 (kR8 hS66.1 ta1) d16 ?_
        refine tr_iload_n dX3_become_55 hl40 ?_
        refine q_iald dX3_become_56 (kR28 hS66.1 ta15) (ti_in (nR28 hS66.1 ta15) (by exact om_2cfcd5a5 g53) (by exact om_fcfbe61b b8.2 b8.1 g52 h61)) ?_
        intro v73 c74
        have b75 := iv28 hS66.1 ta15 c74
        refine q_iast dX3_become_57 (kR32 hS66.1 ta11) (ti_in (nR32 hS66.1 ta11) (by exact om_2cfcd5a5 g53) (by exact om_fcfbe61b b8.2 b8.1 g52 h61)) hS66 ta11 (by show (0 : Int) ≤ v73.toInt ∧ v73.toInt ≤ (240 : Int); exact om_d956ef70 b75) rfl (by rfl) ?_
        intro I76 hS77 e79 f78
        have c80 : I76 a0 0 = v44 := (f78 _ _ (fun q => by have z := ta0; rw [q.1, ta11] at z; exact absurd z (by decide))).trans c69
        have c81 : I76 a0 1 = v46 := (f78 _ _ (fun q => by have z := ta0; rw [q.1, ta11] at z; exact absurd z (by decide))).trans c70
        have c82 : I76 a0 2 = v48 := (f78 _ _ (fun q => by have z := ta0; rw [q.1, ta11] at z; exact absurd z (by decide))).trans c71
        have hO83 : FrO 10 a0 T I0 I76 := hO72.put f78 ta11 (Or.inl (by decide))
        refine q_iincE dX3_become_58 hl40 (by decide) (by decide) (by intro j1 j2; exact om_978e3cdf b8.2 b8.1 g52 g53 h61 j2) ?_
        intro v84 h85
        refine tr_goto 26 dX3_become_61 (by decide) ?_
        exact ih57 _ v84 I76 v44 v46 v48 hl38 hl39 rfl hS77 hO83 c80 c81 c82 (by exact om_acd7a85a g50) (by exact om_acd7a85a g51) (by exact om_acd7a85a g52) (by exact om_68881c41 g53 h85) (RwC.stp (ix := v37.toNatClampNeg) rw54 d10 d12 d14 d16 (ti_nat (by exact om_2cfcd5a5 g53)) (by exact om_764ef139 h85) e68 f67 e79 f78 (fun q => by have z := ta9; rw [q, ta11] at z; exact absurd z (by decide)) ((hS42.cell ta13 (wm_no (by decide +kernel))).symm.trans c63) ((hS66.cell ta15 (wm_no (by decide +kernel))).symm.trans c74)) (rw55.tr (((FrO.rf (r := 31) (dr := a9) (T := T)).put f67 ta9 (Or.inr rfl)).put f78 ta11 (Or.inl (by decide)))) (rw56.tr (((FrO.rf (r := 32) (dr := a11) (T := T)).put f67 ta9 (Or.inl (by decide))).put f78 ta11 (Or.inr rfl))) (by exact om_d9b35a09 b8.2 b8.1 g52 g53 hm57 h61 h85)
  exact lp57 _ _ v35 I28 v1 v3 v6 rfl rfl rfl hS29 hO34 c32 c33 e30 (by exact om_4ee7209a) (by exact om_4ee7209a) (by exact om_4ee7209a) (by exact om_d99fa9e4 h36) (RwC.z (by exact om_6493ed0e h36)) ((((FrO.rf (r := 31) (dr := a9) (T := T)).put f20 ta0 (Or.inl (by decide))).put f25 ta0 (Or.inl (by decide))).put f31 ta0 (Or.inl (by decide))) ((((FrO.rf (r := 32) (dr := a11) (T := T)).put f20 ta0 (Or.inl (by decide))).put f25 ta0 (Or.inl (by decide))).put f31 ta0 (Or.inl (by decide))) (Nat.lt_succ_self _)
def wik_X6_dropOldestAct : List Nat := [704]
def wrk_X6_dropOldestAct : List Nat := [2175]
set_option maxHeartbeats 4000000 in
theorem fk_X6_dropOldestAct {l : Launch} {T : Nat → Nat} {cn : Nat} {K N : Nat → Nat} {I0 : cz_I} {R0 : cz_R} {L0 : cz_L} {d : Int} (hW0 : Wf T cn K N I0 R0 d)  {a0 : Nat} (ta0 : T a0 = 11) : ConE l mX6_dropOldestAct [.ref a0] cn K N I0 R0 L0 (ca_v (fun cn' K' N' I' R' L' => cn = cn' ∧ K = K' ∧ N = N' ∧ L0 = L' ∧ St T cn K N d wik_X6_dropOldestAct wrk_X6_dropOldestAct I0 R0 I' R' ∧ ((I' a0 0).toInt = 11) ∧ (∀ A, R0 a0 1 = some A → RotR R0 R' A) ∧ True)) := by
  refine ConE.of (by decide +kernel) rfl (Nat.le_of_ble_eq_true rfl) rfl (fun X hX hZ hE => ?_)
  subst hX
  have hS0 : St T cn K N d wik_X6_dropOldestAct wrk_X6_dropOldestAct I0 R0 I0 R0 := St.rf0 hW0
  obtain ⟨a1, d2, ta1⟩ := rf11_1 hW0 ta0
  refine tr_aload_n dX6_dropOldestAct_0 rfl ?_
  refine tr_getR dX6_dropOldestAct_1 fl6_11 (kR11 hS0.1 ta0) d2 ?_
  refine q_iconst dX6_dropOldestAct_4 (by decide) ?_
  intro v3 h4
  obtain ⟨a5, d6, ta5⟩ := rf33 hS0.1 ta1 (j := v3.toNatClampNeg) (ti_lt (by exact om_d99fa9e4 h4) (by exact om_ee80e408 h4))
  refine tr_aald dX6_dropOldestAct_5 (kR33 hS0.1 ta1) (by decide) (by decide) (ti_in (nR33 hS0.1 ta1) (by exact om_d99fa9e4 h4) (by exact om_ee80e408 h4)) d6 ?_
  refine tr_astore_n dX6_dropOldestAct_6 (by decide) (by decide) ?_
  refine q_iconst dX6_dropOldestAct_7 (by decide) ?_
  intro v7 h8
  refine tr_istore_n dX6_dropOldestAct_8 (by decide) (by decide) ?_
  have lp19 : ∀ (fu : Nat) (ls : Nat → Option Value) (v9 : Int32) (I13 : cz_I) (R14 : cz_R), ls 0 = some (.ref a0) → ls 1 = some (.ref a5) → ls 2 = some (.int v9) → St T cn K N d wik_X6_dropOldestAct wrk_X6_dropOldestAct I0 R0 I13 R14 → 1 ≤ v9.toInt → v9.toInt ≤ 12 → (RotI R0 R14 a1 v9.toInt) → (-v9.toInt + 2147483647).toNat < fu → Tr X mX6_dropOldestAct 9 ls [] cn K N I13 R14 L0 0 0 := by
    intro fu
    induction fu with
    | zero => intros; rename_i hz; exact absurd hz (Nat.not_lt_zero _)
    | succ fu ih19 =>
      intro ls v9 I13 R14 hl10 hl11 hl12 hS15 g16 g17 rw18 hm19
      refine tr_iload_n dX6_dropOldestAct_9 hl12 ?_
      refine q_bipush dX6_dropOldestAct_10 (by decide +kernel) ?_
      intro v21 h22
      refine q_icmp_ge 35 dX6_dropOldestAct_12 (by decide) (fun h23 => ?_) (fun h23 => ?_)
      · skip
        refine tr_aload_n dX6_dropOldestAct_35 hl10 ?_
        refine tr_getR dX6_dropOldestAct_36 fl6_11 (kR11 hS15.1 ta0) ((hS15.rcell ta0 (by decide +kernel)).trans d2) ?_
        refine q_bipush dX6_dropOldestAct_39 (by decide +kernel) ?_
        intro v24 h25
        refine tr_aload_n dX6_dropOldestAct_41 hl11 ?_
        refine q_aastE dX6_dropOldestAct_42 (kR33 hS15.1 ta1) (by decide) (by decide) (kR10 hS15.1 ta5) (ti_in (nR33 hS15.1 ta1) (by exact om_5ac1db1a h25) (by exact om_34141729 h25)) hS15 ta1 (by rw [re33 (ti_lt (by exact om_5ac1db1a h25) (by exact om_34141729 h25))]; exact okR_in rfl rfl ta5) rfl (by rfl) ?_
        intro R26 hS27 e28 f29
        refine tr_aload_n dX6_dropOldestAct_43 hl10 ?_
        refine q_bipush dX6_dropOldestAct_44 (by decide +kernel) ?_
        intro v30 h31
        refine q_putI dX6_dropOldestAct_46 fl6_21 (kR11 hS27.1 ta0) (Or.inl rfl) hS27 ta0 (by show (0 : Int) ≤ v30.toInt ∧ v30.toInt ≤ (12 : Int); exact om_a7613107 h31) rfl (by decide +kernel) ?_
        intro I32 hS33 e34 f35
        exact tr_vret hZ dX6_dropOldestAct_49 rfl (by decide) (by decide) ⟨rfl, rfl, rfl, rfl, rfl, hS33, (by (try rw [e34]); first | done | with_reducible assumption | omega), (fun A hA => by obtain rfl := Option.some.inj (d2.symm.trans hA); have z0 := d6; rw [show v3.toNatClampNeg = 0 from ti_cl (by exact om_71345643 h4)] at z0; have z1 := e28; have z2 := f29; rw [show v24.toNatClampNeg = 11 from ti_cl (by omega)] at z1 z2; exact RotI.fin rw18 (by exact om_c31ce048 g16 g17 h22 h23) z0 z1 z2), trivial⟩
      · skip
        refine tr_aload_n dX6_dropOldestAct_15 hl10 ?_
        refine tr_getR dX6_dropOldestAct_16 fl6_11 (kR11 hS15.1 ta0) ((hS15.rcell ta0 (by decide +kernel)).trans d2) ?_
        refine tr_iload_n dX6_dropOldestAct_19 hl12 ?_
        refine q_iconst dX6_dropOldestAct_20 (by decide) ?_
        intro v36 h37
        refine q_isubE dX6_dropOldestAct_21 (by intro j1 j2 j3 j4; exact om_b545e831 g16 g17 h37) ?_
        intro v38 h39
        refine tr_aload_n dX6_dropOldestAct_22 hl10 ?_
        refine tr_getR dX6_dropOldestAct_23 fl6_11 (kR11 hS15.1 ta0) ((hS15.rcell ta0 (by decide +kernel)).trans d2) ?_
        refine tr_iload_n dX6_dropOldestAct_26 hl12 ?_
        obtain ⟨a40, d41, ta40⟩ := rf33 hS15.1 ta1 (j := v9.toNatClampNeg) (ti_lt (by exact om_c2813513 g16 g17 h22 h23 h37 h39) (by exact om_0ea6762c g16 g17 h22 h23 h37 h39))
        refine tr_aald dX6_dropOldestAct_27 (kR33 hS15.1 ta1) (by decide) (by decide) (ti_in (nR33 hS15.1 ta1) (by exact om_c2813513 g16 g17 h22 h23 h37 h39) (by exact om_0ea6762c g16 g17 h22 h23 h37 h39)) d41 ?_
        refine q_aastE dX6_dropOldestAct_28 (kR33 hS15.1 ta1) (by decide) (by decide) (kR10 hS15.1 ta40) (ti_in (nR33 hS15.1 ta1) (by exact om_0065c546 g16 g17 h22 h23 h37 h39) (by exact om_5595707c g16 g17 h22 h23 h37 h39)) hS15 ta1 (by rw [re33 (ti_lt (by exact om_0065c546 g16 g17 h22 h23 h37 h39) (by exact om_5595707c g16 g17 h22 h23 h37 h39))]; exact okR_in rfl rfl ta40) rfl (by rfl) ?_
        intro R42 hS43 e44 f45
        refine q_iincE dX6_dropOldestAct_29 hl12 (by decide) (by decide) (by intro j1 j2; exact om_c94c2ed8 g16 g17 h22 h23 h37 h39) ?_
        intro v46 h47
        refine tr_goto 9 dX6_dropOldestAct_32 (by decide) ?_
        exact ih19 _ v46 I13 R42 hl10 hl11 rfl hS43 (by exact om_db319362 g16 g17 h22 h23 h37 h39 h47) (by exact om_3853b8b2 g16 g17 h22 h23 h37 h39 h47) (RotI.stp (j := v38.toNatClampNeg) rw18 (by have q := ti_nat (i := v38) (by exact om_1606ed00 g16 g17 h22 h23 h37 h39 h47); exact om_6ed9bbd8 h37 h39 h47 q) (by exact om_764ef139 h47) (by have q1 := ti_nat (i := v38) (by exact om_1606ed00 g16 g17 h22 h23 h37 h39 h47); have q2 := ti_nat (i := v9) (by exact om_49b29078 g16 g17 h22 h23 h37 h39 h47 q1); have z := d41; rw [show v9.toNatClampNeg = v38.toNatClampNeg + 1 by exact om_107ea215 h37 h39 h47 q1 q2] at z; exact z) e44 f45) (by exact om_9e13b349 g16 g17 hm19 h22 h23 h37 h39 h47)
  exact lp19 _ _ v7 I0 R0 rfl rfl rfl hS0 (by exact om_5f06d3fa h8) (by exact om_abd0eee8 h8) (RotI.rf (by exact om_e6632817 h8)) (Nat.lt_succ_self _)
def wik_X6_keepAct : List Nat := [640, 641, 642, 704, 2047, 2111]
def wrk_X6_keepAct : List Nat := [2175]
set_option maxHeartbeats 4000000 in
theorem fk_X6_keepAct {l : Launch} {T : Nat → Nat} {cn : Nat} {K N : Nat → Nat} {I0 : cz_I} {R0 : cz_R} {L0 : cz_L} {d : Int} (hW0 : Wf T cn K N I0 R0 d)  {a0 : Nat} (ta0 : T a0 = 11) {a1 : Nat} (ta1 : T a1 = 8) : ConE l mX6_keepAct [.ref a0, .ref a1] cn K N I0 R0 L0 (ca_v (fun cn' K' N' I' R' L' => cn = cn' ∧ K = K' ∧ N = N' ∧ L0 = L' ∧ St T cn K N d wik_X6_keepAct wrk_X6_keepAct I0 R0 I' R' ∧ (((I0 a0 0).toInt < 12 → (I' a0 0).toInt = (I0 a0 0).toInt + 1)) ∧ (((I0 a0 0).toInt ≥ 12 → (I' a0 0).toInt = 12)) ∧ (∀ A, R0 a0 1 = some A → KeC T I0 R0 I' R' A a1 (I0 a0 0).toInt) ∧ True)) := by
  refine ConE.of (by decide +kernel) rfl (Nat.le_of_ble_eq_true rfl) rfl (fun X hX hZ hE => ?_)
  subst hX
  have hS0 : St T cn K N d wik_X6_keepAct wrk_X6_keepAct I0 R0 I0 R0 := St.rf0 hW0
  obtain ⟨v1, c2⟩ : ∃ v, I0 a0 0 = v := ⟨_, rfl⟩
  have b3 := iv11_0 hS0.1 ta0 c2
  obtain ⟨a4, d5, ta4⟩ := rf11_1 hW0 ta0
  obtain ⟨v6, c7⟩ : ∃ v, I0 a1 0 = v := ⟨_, rfl⟩
  obtain ⟨v8, c9⟩ : ∃ v, I0 a1 1 = v := ⟨_, rfl⟩
  have b10 := iv8_1 hW0 ta1 c9
  obtain ⟨v11, c12⟩ : ∃ v, I0 a1 2 = v := ⟨_, rfl⟩
  have b13 := iv8_2 hW0 ta1 c12
  refine tr_aload_n dX6_keepAct_0 rfl ?_
  refine q_getI dX6_keepAct_1 fl6_21 (kR11 hS0.1 ta0) c2 ?_
  refine q_bipush dX6_keepAct_4 (by decide +kernel) ?_
  intro v14 h15
  refine q_icmp_ne 13 dX6_keepAct_6 (by decide) (fun h16 => ?_) (fun h16 => ?_)
  · skip
    refine tr_aload_n dX6_keepAct_13 rfl ?_
    refine tr_getR dX6_keepAct_14 fl6_11 (kR11 hS0.1 ta0) d5 ?_
    refine tr_aload_n dX6_keepAct_17 rfl ?_
    refine q_getI dX6_keepAct_18 fl6_21 (kR11 hS0.1 ta0) c2 ?_
    obtain ⟨a17, d18, ta17⟩ := rf33 hS0.1 ta4 (j := v1.toNatClampNeg) (ti_lt (by exact om_c59a7fde b3.2 b3.1) (by exact om_0565c6fc b3.2 b3.1 h15 h16))
    refine tr_aald dX6_keepAct_21 (kR33 hS0.1 ta4) (by decide) (by decide) (ti_in (nR33 hS0.1 ta4) (by exact om_c59a7fde b3.2 b3.1) (by exact om_0565c6fc b3.2 b3.1 h15 h16)) d18 ?_
    refine tr_aload_n dX6_keepAct_22 rfl ?_
    obtain ⟨a19, d20, ta19⟩ := rf10_3 hW0 ta17
    obtain ⟨a21, d22, ta21⟩ := rf10_4 hW0 ta17
    obtain ⟨a23, d24, ta23⟩ := rf8_3 hW0 ta1
    obtain ⟨a25, d26, ta25⟩ := rf8_4 hW0 ta1
    refine q_callVv hE (M' := mX3_become) (as := [_]) dX6_keepAct_23 lk6_31 inX3_become seX3_become myX3_become (by decide) ⟨by decide, by decide⟩ rfl (kR10 hS0.1 ta17) (Nat.le_of_ble_eq_true rfl) rfl rfl (by decide) (by decide) (fk_X3_become hS0.1  ta17 ta1) ?_
    rintro cn' K' N' I27 R28 L29 ⟨rfl, rfl, rfl, rfl, rfl, g30, p33, p34, p35, rp36, rp37, rp38, rp39, -⟩
    have hS40 := hS0.tr g30 (by decide +kernel) (by decide +kernel)
    have c41 : I27 a0 0 = v1 := (g30.cell ta0 (by decide +kernel)).trans c2
    obtain ⟨v42, c43⟩ : ∃ v, I27 a17 0 = v := ⟨_, rfl⟩
    rw [c43] at p33
    rw [c7] at p33
    obtain ⟨v44, c45⟩ : ∃ v, I27 a17 1 = v := ⟨_, rfl⟩
    have b46 := iv10_1 hS40.1 ta17 c45
    rw [c45] at p34
    rw [c9] at p34
    obtain ⟨v47, c48⟩ : ∃ v, I27 a17 2 = v := ⟨_, rfl⟩
    have b49 := iv10_2 hS40.1 ta17 c48
    rw [c48] at p35
    rw [c12] at p35
    refine tr_aload_n dX6_keepAct_26 rfl ?_
    refine tr_dup dX6_keepAct_27 rfl ?_
    refine q_getI dX6_keepAct_28 fl6_21 (kR11 hS40.1 ta0) c41 ?_
    refine q_iconst dX6_keepAct_31 (by decide) ?_
    intro v50 h51
    refine q_iaddE dX6_keepAct_32 (by intro j1 j2 j3 j4; exact om_e899b9cc b3.2 b3.1 h51) ?_
    intro v52 h53
    refine q_putI dX6_keepAct_33 fl6_21 (kR11 hS40.1 ta0) (Or.inl rfl) hS40 ta0 (by show (0 : Int) ≤ v52.toInt ∧ v52.toInt ≤ (12 : Int); exact om_32527961 b3.2 b3.1 h15 h16 h51 h53) rfl (by decide +kernel) ?_
    intro I54 hS55 e56 f57
    have c58 : I54 a17 0 = v42 := (f57 _ _ (fun q => by have z := ta17; rw [q.1, ta0] at z; exact absurd z (by decide))).trans c43
    have c59 : I54 a17 1 = v44 := (f57 _ _ (fun q => absurd q.2 (by decide))).trans c45
    have c60 : I54 a17 2 = v47 := (f57 _ _ (fun q => absurd q.2 (by decide))).trans c48
    exact tr_vret hZ dX6_keepAct_36 rfl (by decide) (by decide) ⟨rfl, rfl, rfl, rfl, rfl, hS55, (by (try rw [c2]); (try rw [e56]); first | done | with_reducible assumption | exact om_447baa6e h51 h53), (by (try rw [c2]); (try rw [e56]); first | done | with_reducible assumption | exact om_3d0de317 b3.2 b3.1 h15 h16 h51 h53), (fun A hA => by obtain rfl := Option.some.inj (d5.symm.trans hA); rw [c2]; exact ⟨a17, ta17, (by rw [if_pos (by exact om_1d16b0c4 b3.2 b3.1 h15 h16 h51 h53)]; have z := d18; rw [show v1.toNatClampNeg = v1.toInt.toNat from rfl] at z; exact z), (((FrO.rf (r := 10) (dr := a17) (T := T)).tr rp39).put f57 ta0 (Or.inl (by decide))), (by rw [c58, c7]; exact om_acd7a85a p33), (by rw [c59, c9]; exact om_acd7a85a p34), (by rw [c60, c12]; exact om_acd7a85a p35), (fun f hf => (Option.some.inj (d20.symm.trans hf)) ▸ (((FrO.rf (r := 31) (dr := a19) (T := T)).tr (rp37 _ d20)).put f57 ta0 (Or.inl (by decide)))), (fun f hf => (Option.some.inj (d22.symm.trans hf)) ▸ (((FrO.rf (r := 32) (dr := a21) (T := T)).tr (rp38 _ d22)).put f57 ta0 (Or.inl (by decide)))), (RwC.cv rp36 (fun j => rfl) (fun j => rfl) (fun g k h => by rcases h with h | h; (have th : T g = 27 := (hS0.1).rs ta1 rfl rfl h); exact (rfl).symm; (have th : T g = 28 := (hS0.1).rs ta1 rfl rfl h); exact (rfl).symm) (fun g k h => by rcases h with h | h; (have th : T g = 31 := (hS0.1).rs ta17 rfl rfl h); exact (f57 _ _ (fun q => by have z := th; rw [q.1, ta0] at z; exact absurd z (by decide))); (have th : T g = 32 := (hS0.1).rs ta17 rfl rfl h); exact (f57 _ _ (fun q => by have z := th; rw [q.1, ta0] at z; exact absurd z (by decide)))) (by rw [c12]; first | done | exact congrArg Int32.toInt ((c12).symm))), (fun q => rfl), (fun q => absurd (by exact om_71c057db b3.2 b3.1 h15 h16 h51 h53 q) q)⟩), trivial⟩
  · skip
    refine tr_aload_n dX6_keepAct_9 rfl ?_
    refine q_callVv hE (M' := mX6_dropOldestAct) (as := []) dX6_keepAct_10 lk6_28 inX6_dropOldestAct seX6_dropOldestAct myX6_dropOldestAct (by decide) ⟨by decide, by decide⟩ rfl (kR11 hS0.1 ta0) (Nat.le_of_ble_eq_true rfl) rfl rfl (by decide) (by decide) (fk_X6_dropOldestAct hS0.1  ta0) ?_
    rintro cn' K' N' I61 R62 L63 ⟨rfl, rfl, rfl, rfl, g64, p67, rp68, -⟩
    have hS69 := hS0.tr g64 (by decide +kernel) (by decide +kernel)
    obtain ⟨v70, c71⟩ : ∃ v, I61 a0 0 = v := ⟨_, rfl⟩
    have b72 := iv11_0 hS69.1 ta0 c71
    rw [c71] at p67
    refine tr_aload_n dX6_keepAct_13 rfl ?_
    refine tr_getR dX6_keepAct_14 fl6_11 (kR11 hS69.1 ta0) ((hS69.rcell ta0 (by decide +kernel)).trans d5) ?_
    refine tr_aload_n dX6_keepAct_17 rfl ?_
    refine q_getI dX6_keepAct_18 fl6_21 (kR11 hS69.1 ta0) c71 ?_
    obtain ⟨a73, d74, ta73⟩ := rf33 hS69.1 ta4 (j := v70.toNatClampNeg) (ti_lt (by exact om_5ac1db1a p67) (by exact om_34141729 p67))
    refine tr_aald dX6_keepAct_21 (kR33 hS69.1 ta4) (by decide) (by decide) (ti_in (nR33 hS69.1 ta4) (by exact om_5ac1db1a p67) (by exact om_34141729 p67)) d74 ?_
    refine tr_aload_n dX6_keepAct_22 rfl ?_
    obtain ⟨a75, d76, ta75⟩ := rf10_3 hW0 ta73
    obtain ⟨a77, d78, ta77⟩ := rf10_4 hW0 ta73
    obtain ⟨a79, d80, ta79⟩ := rf8_3 hW0 ta1
    obtain ⟨a81, d82, ta81⟩ := rf8_4 hW0 ta1
    refine q_callVv hE (M' := mX3_become) (as := [_]) dX6_keepAct_23 lk6_31 inX3_become seX3_become myX3_become (by decide) ⟨by decide, by decide⟩ rfl (kR10 hS69.1 ta73) (Nat.le_of_ble_eq_true rfl) rfl rfl (by decide) (by decide) (fk_X3_become hS69.1  ta73 ta1) ?_
    rintro cn' K' N' I83 R84 L85 ⟨rfl, rfl, rfl, rfl, rfl, g86, p89, p90, p91, rp92, rp93, rp94, rp95, -⟩
    have hS96 := hS69.tr g86 (by decide +kernel) (by decide +kernel)
    have c97 : I83 a0 0 = v70 := (g86.cell ta0 (by decide +kernel)).trans c71
    obtain ⟨v98, c99⟩ : ∃ v, I83 a73 0 = v := ⟨_, rfl⟩
    rw [c99] at p89
    rw [((hS69.cell ta1 (by decide +kernel)).trans c7)] at p89
    obtain ⟨v100, c101⟩ : ∃ v, I83 a73 1 = v := ⟨_, rfl⟩
    have b102 := iv10_1 hS96.1 ta73 c101
    rw [c101] at p90
    rw [((hS69.cell ta1 (by decide +kernel)).trans c9)] at p90
    obtain ⟨v103, c104⟩ : ∃ v, I83 a73 2 = v := ⟨_, rfl⟩
    have b105 := iv10_2 hS96.1 ta73 c104
    rw [c104] at p91
    rw [((hS69.cell ta1 (by decide +kernel)).trans c12)] at p91
    refine tr_aload_n dX6_keepAct_26 rfl ?_
    refine tr_dup dX6_keepAct_27 rfl ?_
    refine q_getI dX6_keepAct_28 fl6_21 (kR11 hS96.1 ta0) c97 ?_
    refine q_iconst dX6_keepAct_31 (by decide) ?_
    intro v106 h107
    refine q_iaddE dX6_keepAct_32 (by intro j1 j2 j3 j4; exact om_31fc7224 p67 h107) ?_
    intro v108 h109
    refine q_putI dX6_keepAct_33 fl6_21 (kR11 hS96.1 ta0) (Or.inl rfl) hS96 ta0 (by show (0 : Int) ≤ v108.toInt ∧ v108.toInt ≤ (12 : Int); exact om_04d0eac9 p67 h107 h109) rfl (by decide +kernel) ?_
    intro I110 hS111 e112 f113
    have c114 : I110 a73 0 = v98 := (f113 _ _ (fun q => by have z := ta73; rw [q.1, ta0] at z; exact absurd z (by decide))).trans c99
    have c115 : I110 a73 1 = v100 := (f113 _ _ (fun q => absurd q.2 (by decide))).trans c101
    have c116 : I110 a73 2 = v103 := (f113 _ _ (fun q => absurd q.2 (by decide))).trans c104
    exact tr_vret hZ dX6_keepAct_36 rfl (by decide) (by decide) ⟨rfl, rfl, rfl, rfl, rfl, hS111, (by (try rw [c2]); (try rw [e112]); first | done | with_reducible assumption | exact om_2c95d5e0 h15 h16), (by (try rw [c2]); (try rw [e112]); first | done | with_reducible assumption | exact om_0df7a100 p67 h107 h109), (fun A hA => by obtain rfl := Option.some.inj (d5.symm.trans hA); rw [c2]; exact ⟨a73, ta73, (by rw [if_neg (by exact om_2944a011 h15 h16)]; have z := d74; rw [show v70.toNatClampNeg = 11 from ti_cl (by exact om_ee4ae450 p67)] at z; exact z), ((((FrO.rf (r := 10) (dr := a73) (T := T)).st g64 (by decide +kernel)).tr rp95).put f113 ta0 (Or.inl (by decide))), (by rw [c114, c7]; exact om_acd7a85a p89), (by rw [c115, c9]; exact om_acd7a85a p90), (by rw [c116, c12]; exact om_acd7a85a p91), (fun f hf => (Option.some.inj (d76.symm.trans hf)) ▸ ((((FrO.rf (r := 31) (dr := a75) (T := T)).st g64 (by decide +kernel)).tr (rp93 _ ((hS96.rcell ta73 (by decide +kernel)).trans d76))).put f113 ta0 (Or.inl (by decide)))), (fun f hf => (Option.some.inj (d78.symm.trans hf)) ▸ ((((FrO.rf (r := 32) (dr := a77) (T := T)).st g64 (by decide +kernel)).tr (rp94 _ ((hS96.rcell ta73 (by decide +kernel)).trans d78))).put f113 ta0 (Or.inl (by decide)))), (RwC.cv rp92 (fun j => (hS69.rcell ta73 (wm_no (by decide +kernel))).symm) (fun j => (hS69.rcell ta1 (wm_no (by decide +kernel))).symm) (fun g k h => by rcases h with h | h; (have th : T g = 27 := (hS69.1).rs ta1 rfl rfl h); exact ((g64.cell th (wm_no (by decide +kernel)))).symm; (have th : T g = 28 := (hS69.1).rs ta1 rfl rfl h); exact ((g64.cell th (wm_no (by decide +kernel)))).symm) (fun g k h => by rcases h with h | h; (have th : T g = 31 := (hS69.1).rs ta73 rfl rfl h); exact (f113 _ _ (fun q => by have z := th; rw [q.1, ta0] at z; exact absurd z (by decide))); (have th : T g = 32 := (hS69.1).rs ta73 rfl rfl h); exact (f113 _ _ (fun q => by have z := th; rw [q.1, ta0] at z; exact absurd z (by decide)))) (by rw [c12]; first | done | exact congrArg Int32.toInt ((((hS69.cell ta1 (by decide +kernel)).trans c12)).symm))), (fun q => absurd q (by exact om_3bff7849 h15 h16 q)), (fun q => rp68 _ d5)⟩), trivial⟩
def wik_X10_allowed : List Nat := [81]
def wrk_X10_allowed : List Nat := []
set_option maxHeartbeats 4000000 in
theorem fk_X10_allowed {l : Launch} {T : Nat → Nat} {cn : Nat} {K N : Nat → Nat} {I0 : cz_I} {R0 : cz_R} {L0 : cz_L} {d : Int} (hW0 : Wf T cn K N I0 R0 d)  {a0 : Nat} (ta0 : T a0 = 1) : ConE l mX10_allowed [.ref a0] cn K N I0 R0 L0 (ca_i (fun v cn' K' N' I' R' L' => cn = cn' ∧ K = K' ∧ N = N' ∧ R0 = R' ∧ L0 = L' ∧ St T cn K N d wik_X10_allowed wrk_X10_allowed I0 R0 I' R0 ∧ (0 ≤ v.toInt ∧ v.toInt ≤ 1) ∧ (v.toInt = 1) ∧ ((I' a0 17).toInt = 0) ∧ True)) := by
  refine ConE.of (by decide +kernel) rfl (Nat.le_of_ble_eq_true rfl) rfl (fun X hX hZ hE => ?_)
  subst hX
  have hS0 : St T cn K N d wik_X10_allowed wrk_X10_allowed I0 R0 I0 R0 := St.rf0 hW0
  refine tr_aload_n dX10_allowed_0 rfl ?_
  refine q_iconst dX10_allowed_1 (by decide) ?_
  intro v1 h2
  refine q_putI dX10_allowed_2 fl10_112 (kR1 hS0.1 ta0) (Or.inl rfl) hS0 ta0 (iokF rfl) rfl (by decide +kernel) ?_
  intro I3 hS4 e5 f6
  refine q_iconst dX10_allowed_5 (by decide) ?_
  intro v7 h8
  exact tr_zret hZ dX10_allowed_6 rfl (ti_b01 (by exact om_f9079521 h8) (by exact om_e6632817 h8)) (by decide) (by decide) ⟨v7, rfl, rfl, rfl, rfl, rfl, rfl, hS4, (by exact om_d753bc65 h8), (by first | done | with_reducible assumption | omega), (by (try rw [e5]); first | done | with_reducible assumption | omega), trivial⟩
def wik_X10_call : List Nat := [75, 81, 512, 640, 641, 642, 704, 2047, 2111]
def wrk_X10_call : List Nat := [2175]
def Cs_X10_call (T : Nat → Nat) (I0 : cz_I) (R0 : cz_R) (a0 : Nat) (x1 : Int32) (x2 : Int32) (v : Int32) (I' : cz_I) (R' : cz_R) : Prop :=
  ((∀ b1, R0 a0 2 = some b1 → (x1.toInt < 0 ∨ x1.toInt ≥ (I0 b1 11).toInt)) ∧ (v.toInt = 0) ∧ (SmC T I0 R0 I' R') ∧ True) ∨
  ((0 ≤ x1.toInt) ∧ (∀ b1, R0 a0 2 = some b1 → x1.toInt < (I0 b1 11).toInt) ∧ (∀ b1, R0 a0 6 = some b1 → (bt (I0 b1 0).toInt x1.toInt) = x2.toInt) ∧ (v.toInt = 0) ∧ (SmC T I0 R0 I' R') ∧ True) ∨
  ((0 ≤ x1.toInt) ∧ (∀ b1, R0 a0 2 = some b1 → x1.toInt < (I0 b1 11).toInt) ∧ (∀ b1, R0 a0 6 = some b1 → (bt (I0 b1 0).toInt x1.toInt) ≠ x2.toInt) ∧ (v.toInt = 1) ∧ (KpC T I0 R0 I' R' a0) ∧ (∀ w, R0 a0 6 = some w → I' w 0 = I0 w 0 ^^^ ((1 : Int32) <<< (x1 &&& 31))) ∧ True)
set_option maxHeartbeats 4000000 in
theorem fk_X10_call {l : Launch} {T : Nat → Nat} {cn : Nat} {K N : Nat → Nat} {I0 : cz_I} {R0 : cz_R} {L0 : cz_L} {d : Int} (hW0 : Wf T cn K N I0 R0 d)  {a0 : Nat} (ta0 : T a0 = 1) {x1 : Int32} {x2 : Int32} (hx2 : 0 ≤ x2.toInt ∧ x2.toInt ≤ 1) (pre0 : ∀ b1, R0 a0 6 = some b1 → 0 ≤ (I0 b1 0).toInt) (pre1 : ∀ b1, R0 a0 6 = some b1 → (I0 b1 0).toInt ≤ 63) : ConE l mX10_call [.ref a0, .int x1, .int x2] cn K N I0 R0 L0 (ca_i (fun v cn' K' N' I' R' L' => cn = cn' ∧ K = K' ∧ N = N' ∧ L0 = L' ∧ St T cn K N d wik_X10_call wrk_X10_call I0 R0 I' R' ∧ (0 ≤ v.toInt ∧ v.toInt ≤ 1) ∧ Cs_X10_call T I0 R0 a0 x1 x2 v I' R' ∧ True)) := by
  refine ConE.of (by decide +kernel) rfl (Nat.le_of_ble_eq_true rfl) rfl (fun X hX hZ hE => ?_)
  subst hX
  have hS0 : St T cn K N d wik_X10_call wrk_X10_call I0 R0 I0 R0 := St.rf0 hW0
  obtain ⟨a1, d2, ta1⟩ := rf1_6 hW0 ta0
  obtain ⟨v3, c4⟩ : ∃ v, I0 a1 0 = v := ⟨_, rfl⟩
  have p5 := pre0 _ d2
  rw [c4] at p5
  have p6 := pre1 _ d2
  rw [c4] at p6
  obtain ⟨a7, d8, ta7⟩ := rf1_2 hW0 ta0
  obtain ⟨v9, c10⟩ : ∃ v, I0 a7 11 = v := ⟨_, rfl⟩
  have b11 := iv2_11 hW0 ta7 c10
  obtain ⟨a12, d13, ta12⟩ := rf1_7 hW0 ta0
  obtain ⟨a14, d15, ta14⟩ := rf11_1 hW0 ta12
  obtain ⟨a16, d17, ta16⟩ := rf11_3 hW0 ta12
  obtain ⟨v18, c19⟩ : ∃ v, I0 a12 0 = v := ⟨_, rfl⟩
  have b20 := iv11_0 hS0.1 ta12 c19
  obtain ⟨v21, c22⟩ : ∃ v, I0 a12 2 = v := ⟨_, rfl⟩
  have b23 := iv11_2 hW0 ta12 c22
  obtain ⟨v24, c25⟩ : ∃ v, I0 a1 1 = v := ⟨_, rfl⟩
  have b26 := iv8_1 hW0 ta1 c25
  obtain ⟨v27, c28⟩ : ∃ v, I0 a1 2 = v := ⟨_, rfl⟩
  have b29 := iv8_2 hW0 ta1 c28
  refine tr_iload_n dX10_call_0 rfl ?_
  refine q_if_lt 15 dX10_call_1 (by decide) (fun h30 => ?_) (fun h30 => ?_)
  · skip
    refine tr_aload_n dX10_call_15 rfl ?_
    refine q_iconst dX10_call_16 (by decide) ?_
    intro v31 h32
    refine q_callVi hE (M' := mX10_refusedAct) (as := [_]) dX10_call_17 lk10_281 inX10_refusedAct seX10_refusedAct myX10_refusedAct (by decide) ⟨by decide, by decide⟩ rfl (kR1 hS0.1 ta0) (Nat.le_of_ble_eq_true rfl) rfl rfl (by decide) (by decide) (fk_X10_refusedAct hS0.1  ta0) ?_
    rintro v38 cn' K' N' I33 R34 L35 ⟨rfl, rfl, rfl, rfl, rfl, g36, h39, p40, p41, -⟩
    have hS42 := hS0.tr g36 (by decide +kernel) (by decide +kernel)
    have c43 : I33 a1 0 = v3 := (g36.cell ta1 (by decide +kernel)).trans c4
    have c44 : I33 a12 0 = v18 := (g36.cell ta12 (by decide +kernel)).trans c19
    obtain ⟨v45, c46⟩ : ∃ v, I33 a0 17 = v := ⟨_, rfl⟩
    rw [c46] at p41
    exact tr_zret hZ dX10_call_20 rfl (ti_b01 (by exact om_d99fa9e4 p40) (by exact om_d3de7ec9 p40)) (by decide) (by decide) ⟨v38, rfl, rfl, rfl, rfl, rfl, hS42, (by exact om_be53a44c h39), (Or.inl ⟨(fun q0 z0 => by obtain rfl := Option.some.inj ((d8).symm.trans z0); (try rw [c10]); first | done | with_reducible assumption | exact om_82eb7c5a h30), (by first | done | with_reducible assumption | omega), ⟨rfl, fun a j h => by rcases h with h | h | h | h | h | h | h; exact (g36.cell h (wm_no (by decide +kernel))); exact (g36.cell h (wm_no (by decide +kernel))); exact (g36.cell h (wm_no (by decide +kernel))); exact (g36.cell h (wm_no (by decide +kernel))); exact (g36.cell h (wm_no (by decide +kernel))); exact (g36.cell h (wm_no (by decide +kernel))); exact (g36.cell h (wm_no (by decide +kernel)))⟩, trivial⟩), trivial⟩
  · skip
    refine tr_iload_n dX10_call_4 rfl ?_
    refine tr_aload_n dX10_call_5 rfl ?_
    refine tr_getR dX10_call_6 fl10_16 (kR1 hS0.1 ta0) d8 ?_
    refine q_getI dX10_call_9 fl10_278 (kR2 hS0.1 ta7) c10 ?_
    refine q_icmp_lt 21 dX10_call_12 (by decide) (fun h47 => ?_) (fun h47 => ?_)
    · skip
      refine tr_aload_n dX10_call_21 rfl ?_
      refine tr_getR dX10_call_22 fl10_35 (kR1 hS0.1 ta0) d2 ?_
      refine q_getI dX10_call_25 fl10_181 (kR8 hS0.1 ta1) c4 ?_
      refine tr_iload_n dX10_call_28 rfl ?_
      refine q_callSi hE (M' := mX10_bit) (as := [_, _]) dX10_call_29 lk10_136 inX10_bit myX10_bit ⟨by decide, by decide⟩ rfl (Nat.le_of_ble_eq_true rfl) rfl rfl (by decide) (by decide) (f_X10_bitW   (by exact om_a8c3f4c1 p5 p6) (by exact om_d73abc73 b11.2 b11.1 h30 h47)) ?_
      rintro v53 cn' K' N' I48 R49 L50 ⟨rfl, rfl, rfl, rfl, rfl, rfl, p54, -⟩
      have btv53 := bt_01 v3.toInt x1.toInt
      refine q_iconst dX10_call_32 (by decide) ?_
      intro v55 h56
      refine q_icmp_ne 40 dX10_call_33 (by decide) (fun h57 => ?_) (fun h57 => ?_)
      · skip
        refine q_iconst dX10_call_40 (by decide) ?_
        intro v58 h59
        refine tr_iload_n dX10_call_41 rfl ?_
        refine q_icmp_ne 51 dX10_call_42 (by decide) (fun h60 => ?_) (fun h60 => ?_)
        · skip
          refine tr_aload_n dX10_call_51 rfl ?_
          refine tr_getR dX10_call_52 fl10_42 (kR1 hS0.1 ta0) d13 ?_
          refine tr_aload_n dX10_call_55 rfl ?_
          refine tr_getR dX10_call_56 fl10_35 (kR1 hS0.1 ta0) d2 ?_
          refine q_callVv hE (M' := mX6_keepAct) (as := [_]) dX10_call_59 lk10_284 inX6_keepAct seX6_keepAct myX6_keepAct (by decide) ⟨by decide, by decide⟩ rfl (kR11 hS0.1 ta12) (Nat.le_of_ble_eq_true rfl) rfl rfl (by decide) (by decide) (fk_X6_keepAct hS0.1  ta12 ta1) ?_
          rintro cn' K' N' I61 R62 L63 ⟨rfl, rfl, rfl, rfl, g64, p67, p68, rp69, -⟩
          have hS70 := hS0.tr g64 (by decide +kernel) (by decide +kernel)
          have c71 : I61 a1 0 = v3 := (g64.cell ta1 (by decide +kernel)).trans c4
          obtain ⟨v72, c73⟩ : ∃ v, I61 a12 0 = v := ⟨_, rfl⟩
          have b74 := iv11_0 hS70.1 ta12 c73
          rw [c19] at p67
          rw [c73] at p67
          rw [c19] at p68
          rw [c73] at p68
          refine tr_aload_n dX10_call_62 rfl ?_
          refine tr_getR dX10_call_63 fl10_35 (kR1 hS70.1 ta0) ((hS70.rcell ta0 (by decide +kernel)).trans d2) ?_
          refine tr_dup dX10_call_66 rfl ?_
          refine q_getI dX10_call_67 fl10_181 (kR8 hS70.1 ta1) c71 ?_
          refine q_iconst dX10_call_70 (by decide) ?_
          intro v75 h76
          refine tr_iload_n dX10_call_71 rfl ?_
          refine tr_ishl dX10_call_72 ?_
          obtain ⟨v77, lx78⟩ : ∃ z, z = v75 <<< (x1 &&& 31) := ⟨_, rfl⟩
          rw [← lx78]
          refine tr_ixor dX10_call_73 ?_
          obtain ⟨v79, lx80⟩ : ∃ z, z = v3 ^^^ v77 := ⟨_, rfl⟩
          rw [← lx80]
          refine q_putI dX10_call_74 fl10_181 (kR8 hS70.1 ta1) (Or.inl rfl) hS70 ta1 (iokF rfl) rfl (by decide +kernel) ?_
          intro I81 hS82 e83 f84
          have c85 : I81 a12 0 = v72 := (f84 _ _ (fun q => by have z := ta12; rw [q.1, ta1] at z; exact absurd z (by decide))).trans c73
          refine tr_aload_n dX10_call_77 rfl ?_
          refine q_iconst dX10_call_78 (by decide) ?_
          intro v86 h87
          refine q_putZ dX10_call_79 fl10_288 (kR1 hS82.1 ta0) (Or.inl rfl) hS82 ta0 (by exact om_3b50ecb9 h87) (by show (0 : Int) ≤ v86.toInt ∧ v86.toInt ≤ (1 : Int); exact om_3b50ecb9 h87) rfl (by decide +kernel) ?_
          intro I88 hS89 e90 f91
          have c92 : I88 a12 0 = v72 := (f91 _ _ (fun q => absurd q.2 (by decide))).trans c85
          have c93 : I88 a1 0 = v79 := (f91 _ _ (fun q => absurd q.2 (by decide))).trans e83
          refine tr_aload_n dX10_call_82 rfl ?_
          refine q_callVi hE (M' := mX10_allowed) (as := []) dX10_call_83 lk10_291 inX10_allowed seX10_allowed myX10_allowed (by decide) ⟨by decide, by decide⟩ rfl (kR1 hS89.1 ta0) (Nat.le_of_ble_eq_true rfl) rfl rfl (by decide) (by decide) (fk_X10_allowed hS89.1  ta0) ?_
          rintro v99 cn' K' N' I94 R95 L96 ⟨rfl, rfl, rfl, rfl, rfl, g97, h100, p101, p102, -⟩
          have hS103 := hS89.tr g97 (by decide +kernel) (by decide +kernel)
          have c104 : I94 a12 0 = v72 := (g97.cell ta12 (by decide +kernel)).trans c92
          have c105 : I94 a1 0 = v79 := (g97.cell ta1 (by decide +kernel)).trans c93
          have c106 : I94 a0 11 = v86 := (g97.cell ta0 (by decide +kernel)).trans e90
          obtain ⟨v107, c108⟩ : ∃ v, I94 a0 17 = v := ⟨_, rfl⟩
          rw [c108] at p102
          exact tr_zret hZ dX10_call_86 rfl (ti_b01 (by exact om_f9079521 p101) (by exact om_e6632817 p101)) (by decide) (by decide) ⟨v99, rfl, rfl, rfl, rfl, rfl, hS103, (by exact om_be53a44c h100), (Or.inr (Or.inr (⟨(by first | done | with_reducible assumption | omega), (fun q0 z0 => by obtain rfl := Option.some.inj ((d8).symm.trans z0); (try rw [c10]); first | done | with_reducible assumption | omega), (fun q0 z0 => by obtain rfl := Option.some.inj ((d2).symm.trans z0); (try rw [c4]); first | done | with_reducible assumption | exact om_ae8bb8b2 hx2.2 hx2.1 b20.2 b20.1 p54 h56 h57 h59 h60 p68 p67), (by first | done | with_reducible assumption | omega), (fun nw pa A h1 h2 h3 => by obtain rfl := Option.some.inj (d2.symm.trans h1); obtain rfl := Option.some.inj (d13.symm.trans h2); obtain rfl := Option.some.inj (d15.symm.trans h3); exact ⟨KeC.kp (rp69 _ d15) (RoP.of hW0) (fun a j h => by rcases h with h | h | h; exact ((g97.cell h (wm_no (by decide +kernel))).trans ((f91 _ _ (fun q => by have z := h; rw [q.1, ta0] at z; exact absurd z (by decide))).trans (f84 _ _ (fun q => by have z := h; rw [q.1, ta1] at z; exact absurd z (by decide))))); exact ((g97.cell h (wm_no (by decide +kernel))).trans ((f91 _ _ (fun q => by have z := h; rw [q.1, ta0] at z; exact absurd z (by decide))).trans (f84 _ _ (fun q => by have z := h; rw [q.1, ta1] at z; exact absurd z (by decide))))); exact ((g97.cell h (wm_no (by decide +kernel))).trans ((f91 _ _ (fun q => by have z := h; rw [q.1, ta0] at z; exact absurd z (by decide))).trans (f84 _ _ (fun q => by have z := h; rw [q.1, ta1] at z; exact absurd z (by decide)))))), fun q => by rw [c104, c19]; rw [c19] at q; exact om_6f80cd6c b20.2 b20.1 p67 q, fun q => by rw [c104]; rw [c19] at q; exact om_6851ab51 b20.2 b20.1 p68 p67 b74.2 b74.1 q⟩), (fun w hw => by obtain rfl := Option.some.inj (d2.symm.trans hw); rw [c105, lx80, lx78, show v75 = (1 : Int32) from Int32.toInt_inj.mp (by rw [h76]; rfl), c4]), trivial⟩))), trivial⟩
        · skip
          refine tr_aload_n dX10_call_45 rfl ?_
          refine q_iconst dX10_call_46 (by decide) ?_
          intro v109 h110
          refine q_callVi hE (M' := mX10_refusedAct) (as := [_]) dX10_call_47 lk10_281 inX10_refusedAct seX10_refusedAct myX10_refusedAct (by decide) ⟨by decide, by decide⟩ rfl (kR1 hS0.1 ta0) (Nat.le_of_ble_eq_true rfl) rfl rfl (by decide) (by decide) (fk_X10_refusedAct hS0.1  ta0) ?_
          rintro v116 cn' K' N' I111 R112 L113 ⟨rfl, rfl, rfl, rfl, rfl, g114, h117, p118, p119, -⟩
          have hS120 := hS0.tr g114 (by decide +kernel) (by decide +kernel)
          have c121 : I111 a1 0 = v3 := (g114.cell ta1 (by decide +kernel)).trans c4
          have c122 : I111 a12 0 = v18 := (g114.cell ta12 (by decide +kernel)).trans c19
          obtain ⟨v123, c124⟩ : ∃ v, I111 a0 17 = v := ⟨_, rfl⟩
          rw [c124] at p119
          exact tr_zret hZ dX10_call_50 rfl (ti_b01 (by exact om_d99fa9e4 p118) (by exact om_d3de7ec9 p118)) (by decide) (by decide) ⟨v116, rfl, rfl, rfl, rfl, rfl, hS120, (by exact om_be53a44c h117), (by first | exact Or.inl ⟨(fun q0 z0 => by obtain rfl := Option.some.inj ((d8).symm.trans z0); (try rw [c10]); first | done | with_reducible assumption | fail), (by first | done | with_reducible assumption | omega), ⟨rfl, fun a j h => by rcases h with h | h | h | h | h | h | h; exact (g114.cell h (wm_no (by decide +kernel))); exact (g114.cell h (wm_no (by decide +kernel))); exact (g114.cell h (wm_no (by decide +kernel))); exact (g114.cell h (wm_no (by decide +kernel))); exact (g114.cell h (wm_no (by decide +kernel))); exact (g114.cell h (wm_no (by decide +kernel))); exact (g114.cell h (wm_no (by decide +kernel)))⟩, trivial⟩ | exact Or.inr (Or.inl ⟨(by first | done | with_reducible assumption | omega), (fun q0 z0 => by obtain rfl := Option.some.inj ((d8).symm.trans z0); (try rw [c10]); first | done | with_reducible assumption | omega), (fun q0 z0 => by obtain rfl := Option.some.inj ((d2).symm.trans z0); (try rw [c4]); first | done | with_reducible assumption | exact om_26e037cf p54 btv53 h56 h57 h59 h60), (by first | done | with_reducible assumption | omega), ⟨rfl, fun a j h => by rcases h with h | h | h | h | h | h | h; exact (g114.cell h (wm_no (by decide +kernel))); exact (g114.cell h (wm_no (by decide +kernel))); exact (g114.cell h (wm_no (by decide +kernel))); exact (g114.cell h (wm_no (by decide +kernel))); exact (g114.cell h (wm_no (by decide +kernel))); exact (g114.cell h (wm_no (by decide +kernel))); exact (g114.cell h (wm_no (by decide +kernel)))⟩, trivial⟩)), trivial⟩
      · skip
        refine q_iconst dX10_call_36 (by decide) ?_
        intro v125 h126
        refine tr_goto 41 dX10_call_37 (by decide) ?_
        refine tr_iload_n dX10_call_41 rfl ?_
        refine q_icmp_ne 51 dX10_call_42 (by decide) (fun h127 => ?_) (fun h127 => ?_)
        · skip
          refine tr_aload_n dX10_call_51 rfl ?_
          refine tr_getR dX10_call_52 fl10_42 (kR1 hS0.1 ta0) d13 ?_
          refine tr_aload_n dX10_call_55 rfl ?_
          refine tr_getR dX10_call_56 fl10_35 (kR1 hS0.1 ta0) d2 ?_
          refine q_callVv hE (M' := mX6_keepAct) (as := [_]) dX10_call_59 lk10_284 inX6_keepAct seX6_keepAct myX6_keepAct (by decide) ⟨by decide, by decide⟩ rfl (kR11 hS0.1 ta12) (Nat.le_of_ble_eq_true rfl) rfl rfl (by decide) (by decide) (fk_X6_keepAct hS0.1  ta12 ta1) ?_
          rintro cn' K' N' I128 R129 L130 ⟨rfl, rfl, rfl, rfl, g131, p134, p135, rp136, -⟩
          have hS137 := hS0.tr g131 (by decide +kernel) (by decide +kernel)
          have c138 : I128 a1 0 = v3 := (g131.cell ta1 (by decide +kernel)).trans c4
          obtain ⟨v139, c140⟩ : ∃ v, I128 a12 0 = v := ⟨_, rfl⟩
          have b141 := iv11_0 hS137.1 ta12 c140
          rw [c19] at p134
          rw [c140] at p134
          rw [c19] at p135
          rw [c140] at p135
          refine tr_aload_n dX10_call_62 rfl ?_
          refine tr_getR dX10_call_63 fl10_35 (kR1 hS137.1 ta0) ((hS137.rcell ta0 (by decide +kernel)).trans d2) ?_
          refine tr_dup dX10_call_66 rfl ?_
          refine q_getI dX10_call_67 fl10_181 (kR8 hS137.1 ta1) c138 ?_
          refine q_iconst dX10_call_70 (by decide) ?_
          intro v142 h143
          refine tr_iload_n dX10_call_71 rfl ?_
          refine tr_ishl dX10_call_72 ?_
          obtain ⟨v144, lx145⟩ : ∃ z, z = v142 <<< (x1 &&& 31) := ⟨_, rfl⟩
          rw [← lx145]
          refine tr_ixor dX10_call_73 ?_
          obtain ⟨v146, lx147⟩ : ∃ z, z = v3 ^^^ v144 := ⟨_, rfl⟩
          rw [← lx147]
          refine q_putI dX10_call_74 fl10_181 (kR8 hS137.1 ta1) (Or.inl rfl) hS137 ta1 (iokF rfl) rfl (by decide +kernel) ?_
          intro I148 hS149 e150 f151
          have c152 : I148 a12 0 = v139 := (f151 _ _ (fun q => by have z := ta12; rw [q.1, ta1] at z; exact absurd z (by decide))).trans c140
          refine tr_aload_n dX10_call_77 rfl ?_
          refine q_iconst dX10_call_78 (by decide) ?_
          intro v153 h154
          refine q_putZ dX10_call_79 fl10_288 (kR1 hS149.1 ta0) (Or.inl rfl) hS149 ta0 (by exact om_3b50ecb9 h154) (by show (0 : Int) ≤ v153.toInt ∧ v153.toInt ≤ (1 : Int); exact om_3b50ecb9 h154) rfl (by decide +kernel) ?_
          intro I155 hS156 e157 f158
          have c159 : I155 a12 0 = v139 := (f158 _ _ (fun q => absurd q.2 (by decide))).trans c152
          have c160 : I155 a1 0 = v146 := (f158 _ _ (fun q => absurd q.2 (by decide))).trans e150
          refine tr_aload_n dX10_call_82 rfl ?_
          refine q_callVi hE (M' := mX10_allowed) (as := []) dX10_call_83 lk10_291 inX10_allowed seX10_allowed myX10_allowed (by decide) ⟨by decide, by decide⟩ rfl (kR1 hS156.1 ta0) (Nat.le_of_ble_eq_true rfl) rfl rfl (by decide) (by decide) (fk_X10_allowed hS156.1  ta0) ?_
          rintro v166 cn' K' N' I161 R162 L163 ⟨rfl, rfl, rfl, rfl, rfl, g164, h167, p168, p169, -⟩
          have hS170 := hS156.tr g164 (by decide +kernel) (by decide +kernel)
          have c171 : I161 a12 0 = v139 := (g164.cell ta12 (by decide +kernel)).trans c159
          have c172 : I161 a1 0 = v146 := (g164.cell ta1 (by decide +kernel)).trans c160
          have c173 : I161 a0 11 = v153 := (g164.cell ta0 (by decide +kernel)).trans e157
          obtain ⟨v174, c175⟩ : ∃ v, I161 a0 17 = v := ⟨_, rfl⟩
          rw [c175] at p169
          exact tr_zret hZ dX10_call_86 rfl (ti_b01 (by exact om_f9079521 p168) (by exact om_e6632817 p168)) (by decide) (by decide) ⟨v166, rfl, rfl, rfl, rfl, rfl, hS170, (by exact om_be53a44c h167), (Or.inr (Or.inr (⟨(by first | done | with_reducible assumption | omega), (fun q0 z0 => by obtain rfl := Option.some.inj ((d8).symm.trans z0); (try rw [c10]); first | done | with_reducible assumption | omega), (fun q0 z0 => by obtain rfl := Option.some.inj ((d2).symm.trans z0); (try rw [c4]); first | done | with_reducible assumption | exact om_1e44ca2c b20.2 b20.1 p54 h56 h57 h126 h127 p135 p134), (by first | done | with_reducible assumption | omega), (fun nw pa A h1 h2 h3 => by obtain rfl := Option.some.inj (d2.symm.trans h1); obtain rfl := Option.some.inj (d13.symm.trans h2); obtain rfl := Option.some.inj (d15.symm.trans h3); exact ⟨KeC.kp (rp136 _ d15) (RoP.of hW0) (fun a j h => by rcases h with h | h | h; exact ((g164.cell h (wm_no (by decide +kernel))).trans ((f158 _ _ (fun q => by have z := h; rw [q.1, ta0] at z; exact absurd z (by decide))).trans (f151 _ _ (fun q => by have z := h; rw [q.1, ta1] at z; exact absurd z (by decide))))); exact ((g164.cell h (wm_no (by decide +kernel))).trans ((f158 _ _ (fun q => by have z := h; rw [q.1, ta0] at z; exact absurd z (by decide))).trans (f151 _ _ (fun q => by have z := h; rw [q.1, ta1] at z; exact absurd z (by decide))))); exact ((g164.cell h (wm_no (by decide +kernel))).trans ((f158 _ _ (fun q => by have z := h; rw [q.1, ta0] at z; exact absurd z (by decide))).trans (f151 _ _ (fun q => by have z := h; rw [q.1, ta1] at z; exact absurd z (by decide)))))), fun q => by rw [c171, c19]; rw [c19] at q; exact om_6f80cd6c b20.2 b20.1 p134 q, fun q => by rw [c171]; rw [c19] at q; exact om_6851ab51 b20.2 b20.1 p135 p134 b141.2 b141.1 q⟩), (fun w hw => by obtain rfl := Option.some.inj (d2.symm.trans hw); rw [c172, lx147, lx145, show v142 = (1 : Int32) from Int32.toInt_inj.mp (by rw [h143]; rfl), c4]), trivial⟩))), trivial⟩
        · skip
          refine tr_aload_n dX10_call_45 rfl ?_
          refine q_iconst dX10_call_46 (by decide) ?_
          intro v176 h177
          refine q_callVi hE (M' := mX10_refusedAct) (as := [_]) dX10_call_47 lk10_281 inX10_refusedAct seX10_refusedAct myX10_refusedAct (by decide) ⟨by decide, by decide⟩ rfl (kR1 hS0.1 ta0) (Nat.le_of_ble_eq_true rfl) rfl rfl (by decide) (by decide) (fk_X10_refusedAct hS0.1  ta0) ?_
          rintro v183 cn' K' N' I178 R179 L180 ⟨rfl, rfl, rfl, rfl, rfl, g181, h184, p185, p186, -⟩
          have hS187 := hS0.tr g181 (by decide +kernel) (by decide +kernel)
          have c188 : I178 a1 0 = v3 := (g181.cell ta1 (by decide +kernel)).trans c4
          have c189 : I178 a12 0 = v18 := (g181.cell ta12 (by decide +kernel)).trans c19
          obtain ⟨v190, c191⟩ : ∃ v, I178 a0 17 = v := ⟨_, rfl⟩
          rw [c191] at p186
          exact tr_zret hZ dX10_call_50 rfl (ti_b01 (by exact om_d99fa9e4 p185) (by exact om_d3de7ec9 p185)) (by decide) (by decide) ⟨v183, rfl, rfl, rfl, rfl, rfl, hS187, (by exact om_be53a44c h184), (by first | exact Or.inl ⟨(fun q0 z0 => by obtain rfl := Option.some.inj ((d8).symm.trans z0); (try rw [c10]); first | done | with_reducible assumption | fail), (by first | done | with_reducible assumption | omega), ⟨rfl, fun a j h => by rcases h with h | h | h | h | h | h | h; exact (g181.cell h (wm_no (by decide +kernel))); exact (g181.cell h (wm_no (by decide +kernel))); exact (g181.cell h (wm_no (by decide +kernel))); exact (g181.cell h (wm_no (by decide +kernel))); exact (g181.cell h (wm_no (by decide +kernel))); exact (g181.cell h (wm_no (by decide +kernel))); exact (g181.cell h (wm_no (by decide +kernel)))⟩, trivial⟩ | exact Or.inr (Or.inl ⟨(by first | done | with_reducible assumption | omega), (fun q0 z0 => by obtain rfl := Option.some.inj ((d8).symm.trans z0); (try rw [c10]); first | done | with_reducible assumption | omega), (fun q0 z0 => by obtain rfl := Option.some.inj ((d2).symm.trans z0); (try rw [c4]); first | done | with_reducible assumption | exact om_0e6b474b p54 h56 h57 h126 h127), (by first | done | with_reducible assumption | omega), ⟨rfl, fun a j h => by rcases h with h | h | h | h | h | h | h; exact (g181.cell h (wm_no (by decide +kernel))); exact (g181.cell h (wm_no (by decide +kernel))); exact (g181.cell h (wm_no (by decide +kernel))); exact (g181.cell h (wm_no (by decide +kernel))); exact (g181.cell h (wm_no (by decide +kernel))); exact (g181.cell h (wm_no (by decide +kernel))); exact (g181.cell h (wm_no (by decide +kernel)))⟩, trivial⟩)), trivial⟩
    · skip
      refine tr_aload_n dX10_call_15 rfl ?_
      refine q_iconst dX10_call_16 (by decide) ?_
      intro v192 h193
      refine q_callVi hE (M' := mX10_refusedAct) (as := [_]) dX10_call_17 lk10_281 inX10_refusedAct seX10_refusedAct myX10_refusedAct (by decide) ⟨by decide, by decide⟩ rfl (kR1 hS0.1 ta0) (Nat.le_of_ble_eq_true rfl) rfl rfl (by decide) (by decide) (fk_X10_refusedAct hS0.1  ta0) ?_
      rintro v199 cn' K' N' I194 R195 L196 ⟨rfl, rfl, rfl, rfl, rfl, g197, h200, p201, p202, -⟩
      have hS203 := hS0.tr g197 (by decide +kernel) (by decide +kernel)
      have c204 : I194 a1 0 = v3 := (g197.cell ta1 (by decide +kernel)).trans c4
      have c205 : I194 a12 0 = v18 := (g197.cell ta12 (by decide +kernel)).trans c19
      obtain ⟨v206, c207⟩ : ∃ v, I194 a0 17 = v := ⟨_, rfl⟩
      rw [c207] at p202
      exact tr_zret hZ dX10_call_20 rfl (ti_b01 (by exact om_d99fa9e4 p201) (by exact om_d3de7ec9 p201)) (by decide) (by decide) ⟨v199, rfl, rfl, rfl, rfl, rfl, hS203, (by exact om_be53a44c h200), (by first | exact Or.inl ⟨(fun q0 z0 => by obtain rfl := Option.some.inj ((d8).symm.trans z0); (try rw [c10]); first | done | with_reducible assumption | exact om_0273c8de h47), (by first | done | with_reducible assumption | omega), ⟨rfl, fun a j h => by rcases h with h | h | h | h | h | h | h; exact (g197.cell h (wm_no (by decide +kernel))); exact (g197.cell h (wm_no (by decide +kernel))); exact (g197.cell h (wm_no (by decide +kernel))); exact (g197.cell h (wm_no (by decide +kernel))); exact (g197.cell h (wm_no (by decide +kernel))); exact (g197.cell h (wm_no (by decide +kernel))); exact (g197.cell h (wm_no (by decide +kernel)))⟩, trivial⟩ | exact Or.inr (Or.inl ⟨(by first | done | with_reducible assumption | omega), (fun q0 z0 => by obtain rfl := Option.some.inj ((d8).symm.trans z0); (try rw [c10]); first | done | with_reducible assumption | omega), (fun q0 z0 => by obtain rfl := Option.some.inj ((d2).symm.trans z0); (try rw [c4]); first | done | with_reducible assumption | omega), (by first | done | with_reducible assumption | omega), ⟨rfl, fun a j h => by rcases h with h | h | h | h | h | h | h; exact (g197.cell h (wm_no (by decide +kernel))); exact (g197.cell h (wm_no (by decide +kernel))); exact (g197.cell h (wm_no (by decide +kernel))); exact (g197.cell h (wm_no (by decide +kernel))); exact (g197.cell h (wm_no (by decide +kernel))); exact (g197.cell h (wm_no (by decide +kernel))); exact (g197.cell h (wm_no (by decide +kernel)))⟩, trivial⟩)), trivial⟩
def wik_X10_calls : List Nat := [81]
def wrk_X10_calls : List Nat := []
def Cs_X10_calls (T : Nat → Nat) (I0 : cz_I) (R0 : cz_R) (a0 : Nat) (v : Int32) (I' : cz_I) (R' : cz_R) : Prop :=
  (((I0 a0 5).toInt = 0) ∧ (v.toInt = -1) ∧ True) ∨
  (((I0 a0 5).toInt = 1) ∧ (∀ b1, R0 a0 6 = some b1 → v.toInt = (I0 b1 0).toInt) ∧ True)
set_option maxHeartbeats 4000000 in
theorem fk_X10_calls {l : Launch} {T : Nat → Nat} {cn : Nat} {K N : Nat → Nat} {I0 : cz_I} {R0 : cz_R} {L0 : cz_L} {d : Int} (hW0 : Wf T cn K N I0 R0 d)  {a0 : Nat} (ta0 : T a0 = 1) : ConE l mX10_calls [.ref a0] cn K N I0 R0 L0 (ca_i (fun v cn' K' N' I' R' L' => cn = cn' ∧ K = K' ∧ N = N' ∧ R0 = R' ∧ L0 = L' ∧ St T cn K N d wik_X10_calls wrk_X10_calls I0 R0 I' R0 ∧ Cs_X10_calls T I0 R0 a0 v I' R0 ∧ True)) := by
  refine ConE.of (by decide +kernel) rfl (Nat.le_of_ble_eq_true rfl) rfl (fun X hX hZ hE => ?_)
  subst hX
  have hS0 : St T cn K N d wik_X10_calls wrk_X10_calls I0 R0 I0 R0 := St.rf0 hW0
  obtain ⟨v1, c2⟩ : ∃ v, I0 a0 5 = v := ⟨_, rfl⟩
  have b3 := iv1_5 hW0 ta0 c2
  obtain ⟨a4, d5, ta4⟩ := rf1_6 hW0 ta0
  obtain ⟨v6, c7⟩ : ∃ v, I0 a4 0 = v := ⟨_, rfl⟩
  refine tr_aload_n dX10_calls_0 rfl ?_
  refine q_getZ dX10_calls_1 fl10_95 (kR1 hS0.1 ta0) c2 ?_
  refine q_if_eq 21 dX10_calls_4 (by decide) (fun h8 => ?_) (fun h8 => ?_)
  · skip
    refine tr_aload_n dX10_calls_21 rfl ?_
    refine q_iconst dX10_calls_22 (by decide) ?_
    intro v9 h10
    refine q_callVi hE (M' := mX10_refused) (as := [_]) dX10_calls_23 lk10_79 inX10_refused seX10_refused myX10_refused (by decide) ⟨by decide, by decide⟩ rfl (kR1 hS0.1 ta0) (Nat.le_of_ble_eq_true rfl) rfl rfl (by decide) (by decide) (fk_X10_refused hS0.1  ta0) ?_
    rintro v16 cn' K' N' I11 R12 L13 ⟨rfl, rfl, rfl, rfl, rfl, g14, p17, p18, -⟩
    have hS19 := hS0.tr g14 (by decide +kernel) (by decide +kernel)
    obtain ⟨v20, c21⟩ : ∃ v, I11 a0 17 = v := ⟨_, rfl⟩
    rw [c21] at p18
    exact tr_iret hZ dX10_calls_26 rfl (by decide) (by decide) ⟨v16, rfl, rfl, rfl, rfl, rfl, rfl, hS19, (Or.inl ⟨(by (try rw [c2]); first | done | with_reducible assumption | omega), (by first | done | with_reducible assumption | omega), trivial⟩), trivial⟩
  · skip
    refine tr_aload_n dX10_calls_7 rfl ?_
    refine tr_aload_n dX10_calls_8 rfl ?_
    refine tr_getR dX10_calls_9 fl10_35 (kR1 hS0.1 ta0) d5 ?_
    refine q_getI dX10_calls_12 fl10_181 (kR8 hS0.1 ta4) c7 ?_
    refine q_callVi hE (M' := mX10_answered) (as := [_]) dX10_calls_15 lk10_109 inX10_answered seX10_answered myX10_answered (by decide) ⟨by decide, by decide⟩ rfl (kR1 hS0.1 ta0) (Nat.le_of_ble_eq_true rfl) rfl rfl (by decide) (by decide) (fk_X10_answered hS0.1  ta0) ?_
    rintro v27 cn' K' N' I22 R23 L24 ⟨rfl, rfl, rfl, rfl, rfl, g25, p28, p29, -⟩
    have hS30 := hS0.tr g25 (by decide +kernel) (by decide +kernel)
    obtain ⟨v31, c32⟩ : ∃ v, I22 a0 17 = v := ⟨_, rfl⟩
    rw [c32] at p29
    refine tr_goto 26 dX10_calls_18 (by decide) ?_
    exact tr_iret hZ dX10_calls_26 rfl (by decide) (by decide) ⟨v27, rfl, rfl, rfl, rfl, rfl, rfl, hS30, (Or.inr (⟨(by (try rw [c2]); first | done | with_reducible assumption | exact om_eea3e830 b3.2 b3.1 h8), (fun q0 z0 => by obtain rfl := Option.some.inj ((d5).symm.trans z0); (try rw [c7]); first | done | with_reducible assumption | omega), trivial⟩)), trivial⟩
set_option maxHeartbeats 4000000 in
theorem fk_X10_isMinute {l : Launch} {T : Nat → Nat} {cn : Nat} {K N : Nat → Nat} {I0 : cz_I} {R0 : cz_R} {L0 : cz_L} {d : Int} (hW0 : Wf T cn K N I0 R0 d)  {a0 : Nat} (ta0 : T a0 = 1) {x1 : Int32} : ConE l mX10_isMinute [.ref a0, .int x1] cn K N I0 R0 L0 (ca_i (fun v cn' K' N' I' R' L' => cn = cn' ∧ K = K' ∧ N = N' ∧ I0 = I' ∧ R0 = R' ∧ L0 = L' ∧ (0 ≤ v.toInt ∧ v.toInt ≤ 1) ∧ (∀ b1, R0 a0 2 = some b1 → (v.toInt = 1 → (0 ≤ x1.toInt ∧ x1.toInt < (I0 b1 0).toInt))) ∧ (∀ b1, R0 a0 2 = some b1 → (v.toInt = 0 → (x1.toInt < 0 ∨ x1.toInt ≥ (I0 b1 0).toInt))) ∧ True)) := by
  refine ConE.of (by decide +kernel) rfl (Nat.le_of_ble_eq_true rfl) rfl (fun X hX hZ hE => ?_)
  subst hX
  obtain ⟨a1, d2, ta1⟩ := rf1_2 hW0 ta0
  obtain ⟨v3, c4⟩ : ∃ v, I0 a1 0 = v := ⟨_, rfl⟩
  have b5 := iv2_0 hW0 ta1 c4
  refine tr_iload_n dX10_isMinute_0 rfl ?_
  refine q_if_lt 19 dX10_isMinute_1 (by decide) (fun h6 => ?_) (fun h6 => ?_)
  · skip
    refine q_iconst dX10_isMinute_19 (by decide) ?_
    intro v7 h8
    exact tr_zret hZ dX10_isMinute_20 rfl (ti_b01 (by exact om_d99fa9e4 h8) (by exact om_d3de7ec9 h8)) (by decide) (by decide) ⟨v7, rfl, rfl, rfl, rfl, rfl, rfl, rfl, (by exact om_3b50ecb9 h8), (fun q0 z0 => by obtain rfl := Option.some.inj ((d2).symm.trans z0); (try rw [c4]); first | done | with_reducible assumption | exact om_67774191 h8), (fun q0 z0 => by obtain rfl := Option.some.inj ((d2).symm.trans z0); (try rw [c4]); first | done | with_reducible assumption | exact om_05299518 h6), trivial⟩
  · skip
    refine tr_iload_n dX10_isMinute_4 rfl ?_
    refine tr_aload_n dX10_isMinute_5 rfl ?_
    refine tr_getR dX10_isMinute_6 fl10_16 (kR1 hW0 ta0) d2 ?_
    refine q_getI dX10_isMinute_9 fl10_146 (kR2 hW0 ta1) c4 ?_
    refine q_icmp_ge 19 dX10_isMinute_12 (by decide) (fun h9 => ?_) (fun h9 => ?_)
    · skip
      refine q_iconst dX10_isMinute_19 (by decide) ?_
      intro v10 h11
      exact tr_zret hZ dX10_isMinute_20 rfl (ti_b01 (by exact om_d99fa9e4 h11) (by exact om_d3de7ec9 h11)) (by decide) (by decide) ⟨v10, rfl, rfl, rfl, rfl, rfl, rfl, rfl, (by exact om_3b50ecb9 h11), (fun q0 z0 => by obtain rfl := Option.some.inj ((d2).symm.trans z0); (try rw [c4]); first | done | with_reducible assumption | exact om_67774191 h11), (fun q0 z0 => by obtain rfl := Option.some.inj ((d2).symm.trans z0); (try rw [c4]); first | done | with_reducible assumption | exact om_ffa44cdb h9), trivial⟩
    · skip
      refine q_iconst dX10_isMinute_15 (by decide) ?_
      intro v12 h13
      refine tr_goto 20 dX10_isMinute_16 (by decide) ?_
      exact tr_zret hZ dX10_isMinute_20 rfl (ti_b01 (by exact om_f9079521 h13) (by exact om_e6632817 h13)) (by decide) (by decide) ⟨v12, rfl, rfl, rfl, rfl, rfl, rfl, rfl, (by exact om_d753bc65 h13), (fun q0 z0 => by obtain rfl := Option.some.inj ((d2).symm.trans z0); (try rw [c4]); first | done | with_reducible assumption | exact om_cedbc4bb h6 h9), (fun q0 z0 => by obtain rfl := Option.some.inj ((d2).symm.trans z0); (try rw [c4]); first | done | with_reducible assumption | exact om_f30b551a h13), trivial⟩
def wik_X3_add : List Nat := [514, 1791, 1855]
def wrk_X3_add : List Nat := []
set_option maxHeartbeats 4000000 in
theorem fk_X3_add {l : Launch} {T : Nat → Nat} {cn : Nat} {K N : Nat → Nat} {I0 : cz_I} {R0 : cz_R} {L0 : cz_L} {d : Int} (hW0 : Wf T cn K N I0 R0 d)  {a0 : Nat} (ta0 : T a0 = 8) {x1 : Int32} (hx1 : 0 ≤ x1.toInt ∧ x1.toInt ≤ 240) {x2 : Int32} (hx2 : 0 ≤ x2.toInt ∧ x2.toInt ≤ 240) : ConE l mX3_add [.ref a0, .int x1, .int x2] cn K N I0 R0 L0 (ca_v (fun cn' K' N' I' R' L' => cn = cn' ∧ K = K' ∧ N = N' ∧ R0 = R' ∧ L0 = L' ∧ St T cn K N d wik_X3_add wrk_X3_add I0 R0 I' R0 ∧ (((I0 a0 2).toInt ≤ 5 → (I' a0 2).toInt = (I0 a0 2).toInt + 1)) ∧ (((I0 a0 2).toInt ≥ 6 → (I' a0 2).toInt = (I0 a0 2).toInt)) ∧ ((I0 a0 2).toInt ≤ 5 → AdC I0 R0 I' a0 (I0 a0 2).toInt x1 x2) ∧ True)) := by
  refine ConE.of (by decide +kernel) rfl (Nat.le_of_ble_eq_true rfl) rfl (fun X hX hZ hE => ?_)
  subst hX
  have hS0 : St T cn K N d wik_X3_add wrk_X3_add I0 R0 I0 R0 := St.rf0 hW0
  obtain ⟨v1, c2⟩ : ∃ v, I0 a0 2 = v := ⟨_, rfl⟩
  have b3 := iv8_2 hS0.1 ta0 c2
  obtain ⟨a4, d5, ta4⟩ := rf8_3 hW0 ta0
  obtain ⟨a6, d7, ta6⟩ := rf8_4 hW0 ta0
  refine tr_aload_n dX3_add_0 rfl ?_
  refine q_getI dX3_add_1 fl3_25 (kR8 hS0.1 ta0) c2 ?_
  refine q_bipush dX3_add_4 (by decide +kernel) ?_
  intro v8 h9
  refine q_icmp_ge 39 dX3_add_6 (by decide) (fun h10 => ?_) (fun h10 => ?_)
  · skip
    exact tr_vret hZ dX3_add_39 rfl (by decide) (by decide) ⟨rfl, rfl, rfl, rfl, rfl, rfl, hS0, (by (try rw [c2]); first | done | with_reducible assumption | exact om_015e4d5e b3.2 b3.1 h9 h10), (by (try rw [c2]); first | done | with_reducible assumption | exact om_703126b3), (fun q => by exfalso; rw [c2] at q; exact om_f2c2a850 b3.2 b3.1 h9 h10 q), trivial⟩
  · skip
    refine tr_aload_n dX3_add_9 rfl ?_
    refine tr_getR dX3_add_10 fl3_9 (kR8 hS0.1 ta0) d5 ?_
    refine tr_aload_n dX3_add_13 rfl ?_
    refine q_getI dX3_add_14 fl3_25 (kR8 hS0.1 ta0) c2 ?_
    refine tr_iload_n dX3_add_17 rfl ?_
    refine q_iast dX3_add_18 (kR27 hS0.1 ta4) (ti_in (nR27 hS0.1 ta4) (by exact om_c9b1e0f6 b3.2 b3.1) (by exact om_a89fdd2c b3.2 b3.1 h9 h10)) hS0 ta4 (by show (0 : Int) ≤ x1.toInt ∧ x1.toInt ≤ (240 : Int); exact om_d956ef70 hx1) rfl (by rfl) ?_
    intro I11 hS12 e14 f13
    have c15 : I11 a0 2 = v1 := (f13 _ _ (fun q => by have z := ta0; rw [q.1, ta4] at z; exact absurd z (by decide))).trans c2
    refine tr_aload_n dX3_add_19 rfl ?_
    refine tr_getR dX3_add_20 fl3_15 (kR8 hS12.1 ta0) d7 ?_
    refine tr_aload_n dX3_add_23 rfl ?_
    refine q_getI dX3_add_24 fl3_25 (kR8 hS12.1 ta0) c15 ?_
    refine tr_iload_n dX3_add_27 rfl ?_
    refine q_iast dX3_add_28 (kR28 hS12.1 ta6) (ti_in (nR28 hS12.1 ta6) (by exact om_c9b1e0f6 b3.2 b3.1) (by exact om_a89fdd2c b3.2 b3.1 h9 h10)) hS12 ta6 (by show (0 : Int) ≤ x2.toInt ∧ x2.toInt ≤ (240 : Int); exact om_d956ef70 hx2) rfl (by rfl) ?_
    intro I16 hS17 e19 f18
    have c20 : I16 a0 2 = v1 := (f18 _ _ (fun q => by have z := ta0; rw [q.1, ta6] at z; exact absurd z (by decide))).trans c15
    refine tr_aload_n dX3_add_29 rfl ?_
    refine tr_dup dX3_add_30 rfl ?_
    refine q_getI dX3_add_31 fl3_25 (kR8 hS17.1 ta0) c20 ?_
    refine q_iconst dX3_add_34 (by decide) ?_
    intro v21 h22
    refine q_iaddE dX3_add_35 (by intro j1 j2 j3 j4; exact om_0fb085fe b3.2 b3.1 h9 h10 h22) ?_
    intro v23 h24
    refine q_putI dX3_add_36 fl3_25 (kR8 hS17.1 ta0) (Or.inl rfl) hS17 ta0 (by show (0 : Int) ≤ v23.toInt ∧ v23.toInt ≤ (6 : Int); exact om_2c6378a2 b3.2 b3.1 h9 h10 h22 h24) rfl (by decide +kernel) ?_
    intro I25 hS26 e27 f28
    exact tr_vret hZ dX3_add_39 rfl (by decide) (by decide) ⟨rfl, rfl, rfl, rfl, rfl, rfl, hS26, (by (try rw [c2]); (try rw [e27]); first | done | with_reducible assumption | exact om_2c531ea6 h22 h24), (by (try rw [c2]); (try rw [e27]); first | done | with_reducible assumption | exact om_7854ef67 b3.2 b3.1 h9 h10 h22 h24), (fun _ => by rw [c2]; exact AdC.of (ix := v1.toNatClampNeg) d5 d7 (fun q => by have z := ta4; rw [q, ta6] at z; exact absurd z (by decide)) (ti_nat (by exact om_e84d19d4 b3.2 b3.1 h9 h10 h22 h24)) (fun _ => rfl) (fun _ => rfl) e14 f13 (by have z := e19; rw [show v1.toNatClampNeg = v1.toNatClampNeg from congrArg Int.toNat (by exact om_4ee7209a)] at z; exact z) (by have z := f18; rw [show v1.toNatClampNeg = v1.toNatClampNeg from congrArg Int.toNat (by exact om_4ee7209a)] at z; exact z) (fun k => (f28 _ _ (fun q => by have z := ta4; rw [q.1, ta0] at z; exact absurd z (by decide)))) (fun k => (f28 _ _ (fun q => by have z := ta6; rw [q.1, ta0] at z; exact absurd z (by decide))))), trivial⟩
def wik_X10_cloud : List Nat := [73, 75, 81, 514, 640, 641, 642, 704, 1791, 1855, 2047, 2111]
def wrk_X10_cloud : List Nat := [2175]
def Cs_X10_cloud (T : Nat → Nat) (I0 : cz_I) (R0 : cz_R) (a0 : Nat) (x1 : Int32) (x2 : Int32) (v : Int32) (I' : cz_I) (R' : cz_R) : Prop :=
  (((I0 a0 5).toInt = 0) ∧ (v.toInt = 0) ∧ (SmC T I0 R0 I' R') ∧ ((I' a0 9).toInt = (I0 a0 9).toInt) ∧ True) ∨
  (((I0 a0 5).toInt = 1) ∧ (∀ b1, R0 a0 2 = some b1 → (((x1.toInt < 0 ∨ x1.toInt ≥ (I0 b1 0).toInt) ∨ x2.toInt ≤ x1.toInt) ∨ x2.toInt > (I0 b1 0).toInt)) ∧ (v.toInt = 0) ∧ (SmC T I0 R0 I' R') ∧ ((I' a0 9).toInt = (I0 a0 9).toInt) ∧ True) ∨
  (((I0 a0 5).toInt = 1) ∧ (0 ≤ x1.toInt) ∧ (x1.toInt < x2.toInt) ∧ (∀ b1, R0 a0 2 = some b1 → x2.toInt ≤ (I0 b1 0).toInt) ∧ (∀ b1, R0 a0 6 = some b1 → (I0 b1 2).toInt ≥ 6) ∧ (v.toInt = 0) ∧ (SmC T I0 R0 I' R') ∧ ((I' a0 9).toInt = (I0 a0 9).toInt) ∧ True) ∨
  (((I0 a0 5).toInt = 1) ∧ (0 ≤ x1.toInt) ∧ (x1.toInt < x2.toInt) ∧ (∀ b1, R0 a0 2 = some b1 → x2.toInt ≤ (I0 b1 0).toInt) ∧ (∀ b1, R0 a0 6 = some b1 → (I0 b1 2).toInt ≤ 5) ∧ (v.toInt = 1) ∧ (∀ b1, R' a0 6 = some b1 → ∀ b2, R0 a0 6 = some b2 → (I' b1 2).toInt = (I0 b2 2).toInt + 1) ∧ (KpC T I0 R0 I' R' a0) ∧ (∀ nw, R0 a0 6 = some nw → AdC I0 R0 I' nw (I0 nw 2).toInt x1 x2) ∧ ((I' a0 9).toInt = 0) ∧ True)
set_option maxHeartbeats 4000000 in
theorem fk_X10_cloud {l : Launch} {T : Nat → Nat} {cn : Nat} {K N : Nat → Nat} {I0 : cz_I} {R0 : cz_R} {L0 : cz_L} {d : Int} (hW0 : Wf T cn K N I0 R0 d)  {a0 : Nat} (ta0 : T a0 = 1) {x1 : Int32} {x2 : Int32} : ConE l mX10_cloud [.ref a0, .int x1, .int x2] cn K N I0 R0 L0 (ca_i (fun v cn' K' N' I' R' L' => cn = cn' ∧ K = K' ∧ N = N' ∧ L0 = L' ∧ St T cn K N d wik_X10_cloud wrk_X10_cloud I0 R0 I' R' ∧ (0 ≤ v.toInt ∧ v.toInt ≤ 1) ∧ Cs_X10_cloud T I0 R0 a0 x1 x2 v I' R' ∧ True)) := by
  refine ConE.of (by decide +kernel) rfl (Nat.le_of_ble_eq_true rfl) rfl (fun X hX hZ hE => ?_)
  subst hX
  have hS0 : St T cn K N d wik_X10_cloud wrk_X10_cloud I0 R0 I0 R0 := St.rf0 hW0
  obtain ⟨v1, c2⟩ : ∃ v, I0 a0 5 = v := ⟨_, rfl⟩
  have b3 := iv1_5 hW0 ta0 c2
  obtain ⟨a4, d5, ta4⟩ := rf1_2 hW0 ta0
  obtain ⟨v6, c7⟩ : ∃ v, I0 a4 0 = v := ⟨_, rfl⟩
  have b8 := iv2_0 hW0 ta4 c7
  obtain ⟨a9, d10, ta9⟩ := rf1_6 hW0 ta0
  obtain ⟨v11, c12⟩ : ∃ v, I0 a9 2 = v := ⟨_, rfl⟩
  have b13 := iv8_2 hS0.1 ta9 c12
  obtain ⟨v14, c15⟩ : ∃ v, I0 a0 9 = v := ⟨_, rfl⟩
  have b16 := iv1_9 hS0.1 ta0 c15
  obtain ⟨a17, d18, ta17⟩ := rf1_7 hW0 ta0
  obtain ⟨a19, d20, ta19⟩ := rf11_1 hW0 ta17
  obtain ⟨a21, d22, ta21⟩ := rf11_3 hW0 ta17
  obtain ⟨v23, c24⟩ : ∃ v, I0 a17 0 = v := ⟨_, rfl⟩
  have b25 := iv11_0 hS0.1 ta17 c24
  obtain ⟨v26, c27⟩ : ∃ v, I0 a17 2 = v := ⟨_, rfl⟩
  have b28 := iv11_2 hW0 ta17 c27
  obtain ⟨v29, c30⟩ : ∃ v, I0 a9 0 = v := ⟨_, rfl⟩
  obtain ⟨v31, c32⟩ : ∃ v, I0 a9 1 = v := ⟨_, rfl⟩
  have b33 := iv8_1 hW0 ta9 c32
  refine tr_aload_n dX10_cloud_0 rfl ?_
  refine q_getZ dX10_cloud_1 fl10_95 (kR1 hS0.1 ta0) c2 ?_
  refine q_if_ne 13 dX10_cloud_4 (by decide) (fun h34 => ?_) (fun h34 => ?_)
  · skip
    refine tr_aload_n dX10_cloud_13 rfl ?_
    refine tr_iload_n dX10_cloud_14 rfl ?_
    refine q_callVi hE (M' := mX10_isMinute) (as := [_]) dX10_cloud_15 lk10_115 inX10_isMinute seX10_isMinute myX10_isMinute (by decide) ⟨by decide, by decide⟩ rfl (kR1 hS0.1 ta0) (Nat.le_of_ble_eq_true rfl) rfl rfl (by decide) (by decide) (fk_X10_isMinute hS0.1  ta0) ?_
    rintro v40 cn' K' N' I35 R36 L37 ⟨rfl, rfl, rfl, rfl, rfl, rfl, h41, p42, p43, -⟩
    have p44 := p42 _ d5
    clear p42
    rw [c7] at p44
    have p45 := p43 _ d5
    clear p43
    rw [c7] at p45
    refine q_if_eq 37 dX10_cloud_18 (by decide) (fun h46 => ?_) (fun h46 => ?_)
    · skip
      refine tr_aload_n dX10_cloud_37 rfl ?_
      refine q_iconst dX10_cloud_38 (by decide) ?_
      intro v47 h48
      refine q_callVi hE (M' := mX10_refusedAct) (as := [_]) dX10_cloud_39 lk10_281 inX10_refusedAct seX10_refusedAct myX10_refusedAct (by decide) ⟨by decide, by decide⟩ rfl (kR1 hS0.1 ta0) (Nat.le_of_ble_eq_true rfl) rfl rfl (by decide) (by decide) (fk_X10_refusedAct hS0.1  ta0) ?_
      rintro v54 cn' K' N' I49 R50 L51 ⟨rfl, rfl, rfl, rfl, rfl, g52, h55, p56, p57, -⟩
      have hS58 := hS0.tr g52 (by decide +kernel) (by decide +kernel)
      have c59 : I49 a9 2 = v11 := (g52.cell ta9 (by decide +kernel)).trans c12
      have c60 : I49 a0 9 = v14 := (g52.cell ta0 (by decide +kernel)).trans c15
      have c61 : I49 a17 0 = v23 := (g52.cell ta17 (by decide +kernel)).trans c24
      obtain ⟨v62, c63⟩ : ∃ v, I49 a0 17 = v := ⟨_, rfl⟩
      rw [c63] at p57
      exact tr_zret hZ dX10_cloud_42 rfl (ti_b01 (by exact om_d99fa9e4 p56) (by exact om_d3de7ec9 p56)) (by decide) (by decide) ⟨v54, rfl, rfl, rfl, rfl, rfl, hS58, (by exact om_be53a44c h55), (by first | exact Or.inr (Or.inl ⟨(by (try rw [c2]); first | done | with_reducible assumption | exact om_01be630e b3.2 b3.1 h34 p44 p45 h46), (fun q0 z0 => by obtain rfl := Option.some.inj ((d5).symm.trans z0); (try rw [c7]); first | done | with_reducible assumption | exact om_3d12acb9 p45 h46), (by first | done | with_reducible assumption | omega), ⟨rfl, fun a j h => by rcases h with h | h | h | h | h | h | h; exact (g52.cell h (wm_no (by decide +kernel))); exact (g52.cell h (wm_no (by decide +kernel))); exact (g52.cell h (wm_no (by decide +kernel))); exact (g52.cell h (wm_no (by decide +kernel))); exact (g52.cell h (wm_no (by decide +kernel))); exact (g52.cell h (wm_no (by decide +kernel))); exact (g52.cell h (wm_no (by decide +kernel)))⟩, (by rw [c60, c15]; first | done | omega), trivial⟩) | exact Or.inr (Or.inr (Or.inl ⟨(by (try rw [c2]); first | done | with_reducible assumption | omega), (by first | done | with_reducible assumption | omega), (by first | done | with_reducible assumption | omega), (fun q0 z0 => by obtain rfl := Option.some.inj ((d5).symm.trans z0); (try rw [c7]); first | done | with_reducible assumption | omega), (fun q0 z0 => by obtain rfl := Option.some.inj ((d10).symm.trans z0); (try rw [c12]); first | done | with_reducible assumption | omega), (by first | done | with_reducible assumption | omega), ⟨rfl, fun a j h => by rcases h with h | h | h | h | h | h | h; exact (g52.cell h (wm_no (by decide +kernel))); exact (g52.cell h (wm_no (by decide +kernel))); exact (g52.cell h (wm_no (by decide +kernel))); exact (g52.cell h (wm_no (by decide +kernel))); exact (g52.cell h (wm_no (by decide +kernel))); exact (g52.cell h (wm_no (by decide +kernel))); exact (g52.cell h (wm_no (by decide +kernel)))⟩, (by rw [c60, c15]; first | done | omega), trivial⟩))), trivial⟩
    · skip
      refine tr_iload_n dX10_cloud_21 rfl ?_
      refine tr_iload_n dX10_cloud_22 rfl ?_
      refine q_icmp_le 37 dX10_cloud_23 (by decide) (fun h64 => ?_) (fun h64 => ?_)
      · skip
        refine tr_aload_n dX10_cloud_37 rfl ?_
        refine q_iconst dX10_cloud_38 (by decide) ?_
        intro v65 h66
        refine q_callVi hE (M' := mX10_refusedAct) (as := [_]) dX10_cloud_39 lk10_281 inX10_refusedAct seX10_refusedAct myX10_refusedAct (by decide) ⟨by decide, by decide⟩ rfl (kR1 hS0.1 ta0) (Nat.le_of_ble_eq_true rfl) rfl rfl (by decide) (by decide) (fk_X10_refusedAct hS0.1  ta0) ?_
        rintro v72 cn' K' N' I67 R68 L69 ⟨rfl, rfl, rfl, rfl, rfl, g70, h73, p74, p75, -⟩
        have hS76 := hS0.tr g70 (by decide +kernel) (by decide +kernel)
        have c77 : I67 a9 2 = v11 := (g70.cell ta9 (by decide +kernel)).trans c12
        have c78 : I67 a0 9 = v14 := (g70.cell ta0 (by decide +kernel)).trans c15
        have c79 : I67 a17 0 = v23 := (g70.cell ta17 (by decide +kernel)).trans c24
        obtain ⟨v80, c81⟩ : ∃ v, I67 a0 17 = v := ⟨_, rfl⟩
        rw [c81] at p75
        exact tr_zret hZ dX10_cloud_42 rfl (ti_b01 (by exact om_d99fa9e4 p74) (by exact om_d3de7ec9 p74)) (by decide) (by decide) ⟨v72, rfl, rfl, rfl, rfl, rfl, hS76, (by exact om_be53a44c h73), (by first | exact Or.inr (Or.inl ⟨(by (try rw [c2]); first | done | with_reducible assumption | exact om_fb6d96c1 b3.2 b3.1 h34 h41.2 h41.1 p44 p45 h46), (fun q0 z0 => by obtain rfl := Option.some.inj ((d5).symm.trans z0); (try rw [c7]); first | done | with_reducible assumption | exact om_fa991422 h64), (by first | done | with_reducible assumption | omega), ⟨rfl, fun a j h => by rcases h with h | h | h | h | h | h | h; exact (g70.cell h (wm_no (by decide +kernel))); exact (g70.cell h (wm_no (by decide +kernel))); exact (g70.cell h (wm_no (by decide +kernel))); exact (g70.cell h (wm_no (by decide +kernel))); exact (g70.cell h (wm_no (by decide +kernel))); exact (g70.cell h (wm_no (by decide +kernel))); exact (g70.cell h (wm_no (by decide +kernel)))⟩, (by rw [c78, c15]; first | done | omega), trivial⟩) | exact Or.inr (Or.inr (Or.inl ⟨(by (try rw [c2]); first | done | with_reducible assumption | omega), (by first | done | with_reducible assumption | omega), (by first | done | with_reducible assumption | omega), (fun q0 z0 => by obtain rfl := Option.some.inj ((d5).symm.trans z0); (try rw [c7]); first | done | with_reducible assumption | omega), (fun q0 z0 => by obtain rfl := Option.some.inj ((d10).symm.trans z0); (try rw [c12]); first | done | with_reducible assumption | omega), (by first | done | with_reducible assumption | omega), ⟨rfl, fun a j h => by rcases h with h | h | h | h | h | h | h; exact (g70.cell h (wm_no (by decide +kernel))); exact (g70.cell h (wm_no (by decide +kernel))); exact (g70.cell h (wm_no (by decide +kernel))); exact (g70.cell h (wm_no (by decide +kernel))); exact (g70.cell h (wm_no (by decide +kernel))); exact (g70.cell h (wm_no (by decide +kernel))); exact (g70.cell h (wm_no (by decide +kernel)))⟩, (by rw [c78, c15]; first | done | omega), trivial⟩))), trivial⟩
      · skip
        refine tr_iload_n dX10_cloud_26 rfl ?_
        refine tr_aload_n dX10_cloud_27 rfl ?_
        refine tr_getR dX10_cloud_28 fl10_16 (kR1 hS0.1 ta0) d5 ?_
        refine q_getI dX10_cloud_31 fl10_146 (kR2 hS0.1 ta4) c7 ?_
        refine q_icmp_le 43 dX10_cloud_34 (by decide) (fun h82 => ?_) (fun h82 => ?_)
        · skip
          refine tr_aload_n dX10_cloud_43 rfl ?_
          refine tr_getR dX10_cloud_44 fl10_35 (kR1 hS0.1 ta0) d10 ?_
          refine q_getI dX10_cloud_47 fl10_272 (kR8 hS0.1 ta9) c12 ?_
          refine q_bipush dX10_cloud_50 (by decide +kernel) ?_
          intro v83 h84
          refine q_icmp_lt 61 dX10_cloud_52 (by decide) (fun h85 => ?_) (fun h85 => ?_)
          · skip
            refine tr_aload_n dX10_cloud_61 rfl ?_
            refine tr_getR dX10_cloud_62 fl10_42 (kR1 hS0.1 ta0) d18 ?_
            refine tr_aload_n dX10_cloud_65 rfl ?_
            refine tr_getR dX10_cloud_66 fl10_35 (kR1 hS0.1 ta0) d10 ?_
            refine q_callVv hE (M' := mX6_keepAct) (as := [_]) dX10_cloud_69 lk10_284 inX6_keepAct seX6_keepAct myX6_keepAct (by decide) ⟨by decide, by decide⟩ rfl (kR11 hS0.1 ta17) (Nat.le_of_ble_eq_true rfl) rfl rfl (by decide) (by decide) (fk_X6_keepAct hS0.1  ta17 ta9) ?_
            rintro cn' K' N' I86 R87 L88 ⟨rfl, rfl, rfl, rfl, g89, p92, p93, rp94, -⟩
            have hS95 := hS0.tr g89 (by decide +kernel) (by decide +kernel)
            have c96 : I86 a9 2 = v11 := (g89.cell ta9 (by decide +kernel)).trans c12
            have c97 : I86 a0 9 = v14 := (g89.cell ta0 (by decide +kernel)).trans c15
            obtain ⟨v98, c99⟩ : ∃ v, I86 a17 0 = v := ⟨_, rfl⟩
            have b100 := iv11_0 hS95.1 ta17 c99
            rw [c24] at p92
            rw [c99] at p92
            rw [c24] at p93
            rw [c99] at p93
            refine tr_aload_n dX10_cloud_72 rfl ?_
            refine tr_getR dX10_cloud_73 fl10_35 (kR1 hS95.1 ta0) ((hS95.rcell ta0 (by decide +kernel)).trans d10) ?_
            refine tr_iload_n dX10_cloud_76 rfl ?_
            refine tr_iload_n dX10_cloud_77 rfl ?_
            refine q_callVv hE (M' := mX3_add) (as := [_, _]) dX10_cloud_78 lk10_295 inX3_add seX3_add myX3_add (by decide) ⟨by decide, by decide⟩ rfl (kR8 hS95.1 ta9) (Nat.le_of_ble_eq_true rfl) rfl rfl (by decide) (by decide) (fk_X3_add hS95.1  ta9 (by exact om_dbc880bf b8.2 b8.1 b25.2 b25.1 h41.2 h41.1 p44 p45 h46 h64 h82 p93 p92) (by exact om_56a64570 b8.2 b8.1 b25.2 b25.1 h41.2 h41.1 p44 p45 h46 h64 h82 p93 p92)) ?_
            rintro cn' K' N' I101 R102 L103 ⟨rfl, rfl, rfl, rfl, rfl, g104, p107, p108, rp109, -⟩
            have hS110 := hS95.tr g104 (by decide +kernel) (by decide +kernel)
            have c111 : I101 a0 9 = v14 := (g104.cell ta0 (by decide +kernel)).trans c97
            have c112 : I101 a17 0 = v98 := (g104.cell ta17 (by decide +kernel)).trans c99
            obtain ⟨v113, c114⟩ : ∃ v, I101 a9 2 = v := ⟨_, rfl⟩
            have b115 := iv8_2 hS110.1 ta9 c114
            rw [c96] at p107
            rw [c114] at p107
            rw [c96] at p108
            rw [c114] at p108
            refine tr_aload_n dX10_cloud_81 rfl ?_
            refine q_callVv hE (M' := mX10_cloudsMoved) (as := []) dX10_cloud_82 lk10_103 inX10_cloudsMoved seX10_cloudsMoved myX10_cloudsMoved (by decide) ⟨by decide, by decide⟩ rfl (kR1 hS110.1 ta0) (Nat.le_of_ble_eq_true rfl) rfl rfl (by decide) (by decide) (fk_X10_cloudsMoved hS110.1  ta0) ?_
            rintro cn' K' N' I116 R117 L118 ⟨rfl, rfl, rfl, rfl, rfl, g119, p122, p123, -⟩
            have hS124 := hS110.tr g119 (by decide +kernel) (by decide +kernel)
            have c125 : I116 a17 0 = v98 := (g119.cell ta17 (by decide +kernel)).trans c112
            have c126 : I116 a9 2 = v113 := (g119.cell ta9 (by decide +kernel)).trans c114
            obtain ⟨v127, c128⟩ : ∃ v, I116 a0 9 = v := ⟨_, rfl⟩
            have b129 := iv1_9 hS124.1 ta0 c128
            rw [c128] at p122
            obtain ⟨v130, c131⟩ : ∃ v, I116 a0 11 = v := ⟨_, rfl⟩
            have b132 := iv1_11 hS124.1 ta0 c131
            rw [c131] at p123
            refine tr_aload_n dX10_cloud_85 rfl ?_
            refine q_callVi hE (M' := mX10_allowed) (as := []) dX10_cloud_86 lk10_291 inX10_allowed seX10_allowed myX10_allowed (by decide) ⟨by decide, by decide⟩ rfl (kR1 hS124.1 ta0) (Nat.le_of_ble_eq_true rfl) rfl rfl (by decide) (by decide) (fk_X10_allowed hS124.1  ta0) ?_
            rintro v138 cn' K' N' I133 R134 L135 ⟨rfl, rfl, rfl, rfl, rfl, g136, h139, p140, p141, -⟩
            have hS142 := hS124.tr g136 (by decide +kernel) (by decide +kernel)
            have c143 : I133 a17 0 = v98 := (g136.cell ta17 (by decide +kernel)).trans c125
            have c144 : I133 a9 2 = v113 := (g136.cell ta9 (by decide +kernel)).trans c126
            have c145 : I133 a0 9 = v127 := (g136.cell ta0 (by decide +kernel)).trans c128
            have c146 : I133 a0 11 = v130 := (g136.cell ta0 (by decide +kernel)).trans c131
            obtain ⟨v147, c148⟩ : ∃ v, I133 a0 17 = v := ⟨_, rfl⟩
            rw [c148] at p141
            exact tr_zret hZ dX10_cloud_89 rfl (ti_b01 (by exact om_f9079521 p140) (by exact om_e6632817 p140)) (by decide) (by decide) ⟨v138, rfl, rfl, rfl, rfl, rfl, hS142, (by exact om_be53a44c h139), (Or.inr (Or.inr (Or.inr (⟨(by (try rw [c2]); first | done | with_reducible assumption | exact om_df0d35e8 b3.2 b3.1 b13.2 b13.1 b25.2 b25.1 h34 h41.2 h41.1 p44 p45 h46 h64 h82 h84 h85 p93 p92 rp109 p108 p107), (by first | done | with_reducible assumption | exact om_6d6dd279 b13.2 b13.1 b25.2 b25.1 h41.2 h41.1 p44 p45 h46 h64 h82 h84 h85 p93 p92 rp109 p108 p107), (by first | done | with_reducible assumption | omega), (fun q0 z0 => by obtain rfl := Option.some.inj ((d5).symm.trans z0); (try rw [c7]); first | done | with_reducible assumption | omega), (fun q0 z0 => by obtain rfl := Option.some.inj ((d10).symm.trans z0); (try rw [c12]); first | done | with_reducible assumption | exact om_a10b6f45 b13.2 b13.1 h84 h85), (by first | done | with_reducible assumption | omega), (fun q0 z0 => fun q1 z1 => by obtain rfl := Option.some.inj ((((hS142.rcell ta0 (by decide +kernel)).trans d10)).symm.trans z0); obtain rfl := Option.some.inj ((d10).symm.trans z1); (try rw [c144]); (try rw [c12]); first | done | with_reducible assumption | exact om_3fda9231 b13.2 b13.1 h84 h85 p107), (fun nw pa A h1 h2 h3 => by obtain rfl := Option.some.inj (d10.symm.trans h1); obtain rfl := Option.some.inj (d18.symm.trans h2); obtain rfl := Option.some.inj (d20.symm.trans h3); exact ⟨KeC.kp (rp94 _ d20) (RoP.of hW0) (fun a j h => by rcases h with h | h | h; exact ((g136.cell h (wm_no (by decide +kernel))).trans ((g119.cell h (wm_no (by decide +kernel))).trans (g104.cell h (wm_no (by decide +kernel))))); exact ((g136.cell h (wm_no (by decide +kernel))).trans ((g119.cell h (wm_no (by decide +kernel))).trans (g104.cell h (wm_no (by decide +kernel))))); exact ((g136.cell h (wm_no (by decide +kernel))).trans ((g119.cell h (wm_no (by decide +kernel))).trans (g104.cell h (wm_no (by decide +kernel)))))), fun q => by rw [c143, c24]; rw [c24] at q; exact om_0ea96562 b13.2 b13.1 b25.2 b25.1 h84 h85 p92 rp109 p108 p107 q, fun q => by rw [c143]; rw [c24] at q; exact om_71a21eda b13.2 b13.1 b25.2 b25.1 h84 h85 p93 p92 b100.2 b100.1 rp109 p108 p107 q⟩), (fun nw hn => by obtain rfl := Option.some.inj (d10.symm.trans hn); have z := rp109 (by rw [c96]; exact om_a10b6f45 b13.2 b13.1 h84 h85); exact AdC.cv (adR (fun j => (hS142.rcell ta9 (wm_no (by decide +kernel)))) z) (fun g k h => by rcases h with h | h; (have th : T g = 27 := hW0.rs ta9 rfl rfl h); exact (g89.cell th (wm_no (by decide +kernel))); (have th : T g = 28 := hW0.rs ta9 rfl rfl h); exact (g89.cell th (wm_no (by decide +kernel)))) (fun g k h => by rcases h with h | h; (have th : T g = 27 := hW0.rs ta9 rfl rfl h); exact ((g136.cell th (wm_no (by decide +kernel))).trans (g119.cell th (wm_no (by decide +kernel)))); (have th : T g = 28 := hW0.rs ta9 rfl rfl h); exact ((g136.cell th (wm_no (by decide +kernel))).trans (g119.cell th (wm_no (by decide +kernel))))) (by rw [c12, c96])), (by rw [c145]; exact om_29f55913 p122), trivial⟩)))), trivial⟩
          · skip
            refine tr_aload_n dX10_cloud_55 rfl ?_
            refine q_iconst dX10_cloud_56 (by decide) ?_
            intro v149 h150
            refine q_callVi hE (M' := mX10_refusedAct) (as := [_]) dX10_cloud_57 lk10_281 inX10_refusedAct seX10_refusedAct myX10_refusedAct (by decide) ⟨by decide, by decide⟩ rfl (kR1 hS0.1 ta0) (Nat.le_of_ble_eq_true rfl) rfl rfl (by decide) (by decide) (fk_X10_refusedAct hS0.1  ta0) ?_
            rintro v156 cn' K' N' I151 R152 L153 ⟨rfl, rfl, rfl, rfl, rfl, g154, h157, p158, p159, -⟩
            have hS160 := hS0.tr g154 (by decide +kernel) (by decide +kernel)
            have c161 : I151 a9 2 = v11 := (g154.cell ta9 (by decide +kernel)).trans c12
            have c162 : I151 a0 9 = v14 := (g154.cell ta0 (by decide +kernel)).trans c15
            have c163 : I151 a17 0 = v23 := (g154.cell ta17 (by decide +kernel)).trans c24
            obtain ⟨v164, c165⟩ : ∃ v, I151 a0 17 = v := ⟨_, rfl⟩
            rw [c165] at p159
            exact tr_zret hZ dX10_cloud_60 rfl (ti_b01 (by exact om_d99fa9e4 p158) (by exact om_d3de7ec9 p158)) (by decide) (by decide) ⟨v156, rfl, rfl, rfl, rfl, rfl, hS160, (by exact om_be53a44c h157), (by first | exact Or.inr (Or.inl ⟨(by (try rw [c2]); first | done | with_reducible assumption | exact om_2135ce50 b3.2 b3.1 h34 h41.2 h41.1 p44 p45 h46 h64 h82), (fun q0 z0 => by obtain rfl := Option.some.inj ((d5).symm.trans z0); (try rw [c7]); first | done | with_reducible assumption | fail), (by first | done | with_reducible assumption | omega), ⟨rfl, fun a j h => by rcases h with h | h | h | h | h | h | h; exact (g154.cell h (wm_no (by decide +kernel))); exact (g154.cell h (wm_no (by decide +kernel))); exact (g154.cell h (wm_no (by decide +kernel))); exact (g154.cell h (wm_no (by decide +kernel))); exact (g154.cell h (wm_no (by decide +kernel))); exact (g154.cell h (wm_no (by decide +kernel))); exact (g154.cell h (wm_no (by decide +kernel)))⟩, (by rw [c162, c15]; first | done | omega), trivial⟩) | exact Or.inr (Or.inr (Or.inl ⟨(by (try rw [c2]); first | done | with_reducible assumption | exact om_2135ce50 b3.2 b3.1 h34 h41.2 h41.1 p44 p45 h46 h64 h82), (by first | done | with_reducible assumption | exact om_72ee0038 h41.2 h41.1 p44 p45 h46 h64 h82), (by first | done | with_reducible assumption | omega), (fun q0 z0 => by obtain rfl := Option.some.inj ((d5).symm.trans z0); (try rw [c7]); first | done | with_reducible assumption | omega), (fun q0 z0 => by obtain rfl := Option.some.inj ((d10).symm.trans z0); (try rw [c12]); first | done | with_reducible assumption | exact om_c0d53a33 b13.2 b13.1 h84 h85), (by first | done | with_reducible assumption | omega), ⟨rfl, fun a j h => by rcases h with h | h | h | h | h | h | h; exact (g154.cell h (wm_no (by decide +kernel))); exact (g154.cell h (wm_no (by decide +kernel))); exact (g154.cell h (wm_no (by decide +kernel))); exact (g154.cell h (wm_no (by decide +kernel))); exact (g154.cell h (wm_no (by decide +kernel))); exact (g154.cell h (wm_no (by decide +kernel))); exact (g154.cell h (wm_no (by decide +kernel)))⟩, (by rw [c162, c15]; first | done | omega), trivial⟩))), trivial⟩
        · skip
          refine tr_aload_n dX10_cloud_37 rfl ?_
          refine q_iconst dX10_cloud_38 (by decide) ?_
          intro v166 h167
          refine q_callVi hE (M' := mX10_refusedAct) (as := [_]) dX10_cloud_39 lk10_281 inX10_refusedAct seX10_refusedAct myX10_refusedAct (by decide) ⟨by decide, by decide⟩ rfl (kR1 hS0.1 ta0) (Nat.le_of_ble_eq_true rfl) rfl rfl (by decide) (by decide) (fk_X10_refusedAct hS0.1  ta0) ?_
          rintro v173 cn' K' N' I168 R169 L170 ⟨rfl, rfl, rfl, rfl, rfl, g171, h174, p175, p176, -⟩
          have hS177 := hS0.tr g171 (by decide +kernel) (by decide +kernel)
          have c178 : I168 a9 2 = v11 := (g171.cell ta9 (by decide +kernel)).trans c12
          have c179 : I168 a0 9 = v14 := (g171.cell ta0 (by decide +kernel)).trans c15
          have c180 : I168 a17 0 = v23 := (g171.cell ta17 (by decide +kernel)).trans c24
          obtain ⟨v181, c182⟩ : ∃ v, I168 a0 17 = v := ⟨_, rfl⟩
          rw [c182] at p176
          exact tr_zret hZ dX10_cloud_42 rfl (ti_b01 (by exact om_d99fa9e4 p175) (by exact om_d3de7ec9 p175)) (by decide) (by decide) ⟨v173, rfl, rfl, rfl, rfl, rfl, hS177, (by exact om_be53a44c h174), (by first | exact Or.inr (Or.inl ⟨(by (try rw [c2]); first | done | with_reducible assumption | exact om_fb6d96c1 b3.2 b3.1 h34 h41.2 h41.1 p44 p45 h46), (fun q0 z0 => by obtain rfl := Option.some.inj ((d5).symm.trans z0); (try rw [c7]); first | done | with_reducible assumption | exact om_6a329534 h82), (by first | done | with_reducible assumption | omega), ⟨rfl, fun a j h => by rcases h with h | h | h | h | h | h | h; exact (g171.cell h (wm_no (by decide +kernel))); exact (g171.cell h (wm_no (by decide +kernel))); exact (g171.cell h (wm_no (by decide +kernel))); exact (g171.cell h (wm_no (by decide +kernel))); exact (g171.cell h (wm_no (by decide +kernel))); exact (g171.cell h (wm_no (by decide +kernel))); exact (g171.cell h (wm_no (by decide +kernel)))⟩, (by rw [c179, c15]; first | done | omega), trivial⟩) | exact Or.inr (Or.inr (Or.inl ⟨(by (try rw [c2]); first | done | with_reducible assumption | omega), (by first | done | with_reducible assumption | omega), (by first | done | with_reducible assumption | omega), (fun q0 z0 => by obtain rfl := Option.some.inj ((d5).symm.trans z0); (try rw [c7]); first | done | with_reducible assumption | omega), (fun q0 z0 => by obtain rfl := Option.some.inj ((d10).symm.trans z0); (try rw [c12]); first | done | with_reducible assumption | omega), (by first | done | with_reducible assumption | omega), ⟨rfl, fun a j h => by rcases h with h | h | h | h | h | h | h; exact (g171.cell h (wm_no (by decide +kernel))); exact (g171.cell h (wm_no (by decide +kernel))); exact (g171.cell h (wm_no (by decide +kernel))); exact (g171.cell h (wm_no (by decide +kernel))); exact (g171.cell h (wm_no (by decide +kernel))); exact (g171.cell h (wm_no (by decide +kernel))); exact (g171.cell h (wm_no (by decide +kernel)))⟩, (by rw [c179, c15]; first | done | omega), trivial⟩))), trivial⟩
  · skip
    refine tr_aload_n dX10_cloud_7 rfl ?_
    refine q_iconst dX10_cloud_8 (by decide) ?_
    intro v183 h184
    refine q_callVi hE (M' := mX10_refusedAct) (as := [_]) dX10_cloud_9 lk10_281 inX10_refusedAct seX10_refusedAct myX10_refusedAct (by decide) ⟨by decide, by decide⟩ rfl (kR1 hS0.1 ta0) (Nat.le_of_ble_eq_true rfl) rfl rfl (by decide) (by decide) (fk_X10_refusedAct hS0.1  ta0) ?_
    rintro v190 cn' K' N' I185 R186 L187 ⟨rfl, rfl, rfl, rfl, rfl, g188, h191, p192, p193, -⟩
    have hS194 := hS0.tr g188 (by decide +kernel) (by decide +kernel)
    have c195 : I185 a9 2 = v11 := (g188.cell ta9 (by decide +kernel)).trans c12
    have c196 : I185 a0 9 = v14 := (g188.cell ta0 (by decide +kernel)).trans c15
    have c197 : I185 a17 0 = v23 := (g188.cell ta17 (by decide +kernel)).trans c24
    obtain ⟨v198, c199⟩ : ∃ v, I185 a0 17 = v := ⟨_, rfl⟩
    rw [c199] at p193
    exact tr_zret hZ dX10_cloud_12 rfl (ti_b01 (by exact om_d99fa9e4 p192) (by exact om_d3de7ec9 p192)) (by decide) (by decide) ⟨v190, rfl, rfl, rfl, rfl, rfl, hS194, (by exact om_be53a44c h191), (Or.inl ⟨(by (try rw [c2]); first | done | with_reducible assumption | omega), (by first | done | with_reducible assumption | omega), ⟨rfl, fun a j h => by rcases h with h | h | h | h | h | h | h; exact (g188.cell h (wm_no (by decide +kernel))); exact (g188.cell h (wm_no (by decide +kernel))); exact (g188.cell h (wm_no (by decide +kernel))); exact (g188.cell h (wm_no (by decide +kernel))); exact (g188.cell h (wm_no (by decide +kernel))); exact (g188.cell h (wm_no (by decide +kernel))); exact (g188.cell h (wm_no (by decide +kernel)))⟩, (by rw [c196, c15]; first | done | omega), trivial⟩), trivial⟩
def wik_X3_drawBelow : List Nat := [513]
def wrk_X3_drawBelow : List Nat := []
set_option maxHeartbeats 4000000 in
theorem fk_X3_drawBelow {l : Launch} {T : Nat → Nat} {cn : Nat} {K N : Nat → Nat} {I0 : cz_I} {R0 : cz_R} {L0 : cz_L} {d : Int} (hW0 : Wf T cn K N I0 R0 d)  {a0 : Nat} (ta0 : T a0 = 8) {x1 : Int32} (hx1 : 0 ≤ x1.toInt ∧ x1.toInt ≤ 240) : ConE l mX3_drawBelow [.ref a0, .int x1] cn K N I0 R0 L0 (ca_i (fun v cn' K' N' I' R' L' => cn = cn' ∧ K = K' ∧ N = N' ∧ R0 = R' ∧ L0 = L' ∧ St T cn K N d wik_X3_drawBelow wrk_X3_drawBelow I0 R0 I' R0 ∧ (0 ≤ v.toInt ∧ v.toInt ≤ 239) ∧ ((I' a0 1).toInt = (dw (I0 a0 1).toInt)) ∧ ((x1.toInt ≥ 1 → v.toInt = (dwm (I0 a0 1).toInt x1.toInt))) ∧ True)) := by
  refine ConE.of (by decide +kernel) rfl (Nat.le_of_ble_eq_true rfl) rfl (fun X hX hZ hE => ?_)
  subst hX
  have hS0 : St T cn K N d wik_X3_drawBelow wrk_X3_drawBelow I0 R0 I0 R0 := St.rf0 hW0
  obtain ⟨v1, c2⟩ : ∃ v, I0 a0 1 = v := ⟨_, rfl⟩
  have b3 := iv8_1 hS0.1 ta0 c2
  refine tr_aload_n dX3_drawBelow_0 rfl ?_
  refine q_bipush dX3_drawBelow_1 (by decide +kernel) ?_
  intro v4 h5
  refine tr_aload_n dX3_drawBelow_3 rfl ?_
  refine q_getI dX3_drawBelow_4 fl3_22 (kR8 hS0.1 ta0) c2 ?_
  refine q_imulE (c := 75) dX3_drawBelow_7 (by exact om_563a2c66 h5) (by exact om_d18d9d8c b3.2 b3.1) ?_
  intro v6 h7
  refine q_bipush dX3_drawBelow_8 (by decide +kernel) ?_
  intro v8 h9
  refine q_iaddE dX3_drawBelow_10 (by intro j1 j2 j3 j4; exact om_e2c0ec39 b3.2 b3.1 h7 h9 j1 j2) ?_
  intro v10 h11
  refine q_ldc 65537 dX3_drawBelow_11 ld3_42 (by decide +kernel) ?_
  intro v12 h13
  refine q_iremV dX3_drawBelow_13 (by exact om_8ae986c7 b3.2 b3.1 h7 h9 h11) (by exact om_1204c38e h13) ?_
  intro v14 h15
  have p16 : 0 ≤ v14.toInt ∧ v14.toInt < v12.toInt := by rw [h15]; exact ⟨Int.emod_nonneg _ (by exact om_59ce6793 h13), Int.emod_lt_of_pos _ (by exact om_1204c38e h13)⟩
  refine q_putI dX3_drawBelow_14 fl3_22 (kR8 hS0.1 ta0) (Or.inl rfl) hS0 ta0 (by show (0 : Int) ≤ v14.toInt ∧ v14.toInt ≤ (65536 : Int); exact om_c9694f01 h13 h15 p16.2 p16.1) rfl (by decide +kernel) ?_
  intro I17 hS18 e19 f20
  refine tr_iload_n dX3_drawBelow_17 rfl ?_
  refine q_iconst dX3_drawBelow_18 (by decide) ?_
  intro v21 h22
  refine q_icmp_ge 26 dX3_drawBelow_19 (by decide) (fun h23 => ?_) (fun h23 => ?_)
  · skip
    refine tr_aload_n dX3_drawBelow_26 rfl ?_
    refine q_getI dX3_drawBelow_27 fl3_22 (kR8 hS18.1 ta0) e19 ?_
    refine tr_iload_n dX3_drawBelow_30 rfl ?_
    refine q_iremV dX3_drawBelow_31 (by exact om_9465cfbf h13 h15 p16.2 p16.1) (by exact om_828bfde1 hx1.2 hx1.1 h22 h23) ?_
    intro v24 h25
    have p26 : 0 ≤ v24.toInt ∧ v24.toInt < x1.toInt := by rw [h25]; exact ⟨Int.emod_nonneg _ (by exact om_a654601d h22 h23), Int.emod_lt_of_pos _ (by exact om_828bfde1 hx1.2 hx1.1 h22 h23)⟩
    exact tr_iret hZ dX3_drawBelow_32 rfl (by decide) (by decide) ⟨v24, rfl, rfl, rfl, rfl, rfl, rfl, hS18, (by exact om_82ef7745 hx1.2 hx1.1 h25 p26.1 p26.2), (by rw [e19, c2]; unfold dw; rw [h15]; congr 1; exact om_a990527d h7 h9 h11), (fun q => by (try rw [c2]); unfold dwm dw; rw [h25, h15]; congr 2; exact om_a990527d h7 h9 h11), trivial⟩
  · skip
    refine q_iconst dX3_drawBelow_22 (by decide) ?_
    intro v27 h28
    refine tr_goto 32 dX3_drawBelow_23 (by decide) ?_
    exact tr_iret hZ dX3_drawBelow_32 rfl (by decide) (by decide) ⟨v27, rfl, rfl, rfl, rfl, rfl, rfl, hS18, (by exact om_152feea5 h28), (by rw [e19, c2]; unfold dw; rw [h15]; congr 1; exact om_a990527d h7 h9 h11), (fun q => by exfalso; exact om_556a94df hx1.2 hx1.1 h22 h23 q), trivial⟩
def wik_X3_addDrawn : List Nat := [513, 514, 1791, 1855]
def wrk_X3_addDrawn : List Nat := []
set_option maxHeartbeats 4000000 in
theorem fk_X3_addDrawn {l : Launch} {T : Nat → Nat} {cn : Nat} {K N : Nat → Nat} {I0 : cz_I} {R0 : cz_R} {L0 : cz_L} {d : Int} (hW0 : Wf T cn K N I0 R0 d)  {a0 : Nat} (ta0 : T a0 = 8) {x1 : Int32} (hx1 : 0 ≤ x1.toInt ∧ x1.toInt ≤ 240) : ConE l mX3_addDrawn [.ref a0, .int x1] cn K N I0 R0 L0 (ca_i (fun v cn' K' N' I' R' L' => cn = cn' ∧ K = K' ∧ N = N' ∧ R0 = R' ∧ L0 = L' ∧ St T cn K N d wik_X3_addDrawn wrk_X3_addDrawn I0 R0 I' R0 ∧ (0 ≤ v.toInt ∧ v.toInt ≤ 239) ∧ ((I' a0 1).toInt = (dw (dw (I0 a0 1).toInt))) ∧ ((x1.toInt ≥ 1 → v.toInt = (dwm (I0 a0 1).toInt x1.toInt))) ∧ (((I0 a0 2).toInt ≤ 5 → (I' a0 2).toInt = (I0 a0 2).toInt + 1)) ∧ (AdE I0 R0 I' a0 x1.toInt) ∧ True)) := by
  refine ConE.of (by decide +kernel) rfl (Nat.le_of_ble_eq_true rfl) rfl (fun X hX hZ hE => ?_)
  subst hX
  have hS0 : St T cn K N d wik_X3_addDrawn wrk_X3_addDrawn I0 R0 I0 R0 := St.rf0 hW0
  obtain ⟨v1, c2⟩ : ∃ v, I0 a0 1 = v := ⟨_, rfl⟩
  have b3 := iv8_1 hS0.1 ta0 c2
  obtain ⟨v4, c5⟩ : ∃ v, I0 a0 2 = v := ⟨_, rfl⟩
  have b6 := iv8_2 hS0.1 ta0 c5
  obtain ⟨a7, d8, ta7⟩ := rf8_3 hW0 ta0
  obtain ⟨a9, d10, ta9⟩ := rf8_4 hW0 ta0
  refine tr_aload_n dX3_addDrawn_0 rfl ?_
  refine tr_iload_n dX3_addDrawn_1 rfl ?_
  refine q_callVi hE (M' := mX3_drawBelow) (as := [_]) dX3_addDrawn_2 lk3_28 inX3_drawBelow seX3_drawBelow myX3_drawBelow (by decide) ⟨by decide, by decide⟩ rfl (kR8 hS0.1 ta0) (Nat.le_of_ble_eq_true rfl) rfl rfl (by decide) (by decide) (fk_X3_drawBelow hS0.1  ta0 (by exact om_d956ef70 hx1)) ?_
  rintro v16 cn' K' N' I11 R12 L13 ⟨rfl, rfl, rfl, rfl, rfl, g14, h17, p18, p19, -⟩
  have hS20 := hS0.tr g14 (by decide +kernel) (by decide +kernel)
  have c21 : I11 a0 2 = v4 := (g14.cell ta0 (by decide +kernel)).trans c5
  obtain ⟨v22, c23⟩ : ∃ v, I11 a0 1 = v := ⟨_, rfl⟩
  have b24 := iv8_1 hS20.1 ta0 c23
  rw [c23] at p18
  rw [c2] at p18
  rw [c2] at p19
  refine tr_istore_n dX3_addDrawn_5 (by decide) (by decide) ?_
  refine q_iconst dX3_addDrawn_6 (by decide) ?_
  intro v25 h26
  refine tr_aload_n dX3_addDrawn_7 rfl ?_
  refine q_bipush dX3_addDrawn_8 (by decide +kernel) ?_
  intro v27 h28
  refine q_callVi hE (M' := mX3_drawBelow) (as := [_]) dX3_addDrawn_10 lk3_28 inX3_drawBelow seX3_drawBelow myX3_drawBelow (by decide) ⟨by decide, by decide⟩ rfl (kR8 hS20.1 ta0) (Nat.le_of_ble_eq_true rfl) rfl rfl (by decide) (by decide) (fk_X3_drawBelow hS20.1  ta0 (by exact om_6fa0956e h28)) ?_
  rintro v34 cn' K' N' I29 R30 L31 ⟨rfl, rfl, rfl, rfl, rfl, g32, h35, p36, p37, -⟩
  have hS38 := hS20.tr g32 (by decide +kernel) (by decide +kernel)
  have c39 : I29 a0 2 = v4 := (g32.cell ta0 (by decide +kernel)).trans c21
  obtain ⟨v40, c41⟩ : ∃ v, I29 a0 1 = v := ⟨_, rfl⟩
  have b42 := iv8_1 hS38.1 ta0 c41
  rw [c41] at p36
  rw [c23] at p36
  rw [c23] at p37
  refine q_iaddE dX3_addDrawn_13 (by intro j1 j2 j3 j4; exact om_57cfbf44 h26 h35.2 h35.1) ?_
  intro v43 h44
  refine tr_istore_n dX3_addDrawn_14 (by decide) (by decide) ?_
  refine tr_aload_n dX3_addDrawn_15 rfl ?_
  refine tr_iload_n dX3_addDrawn_16 rfl ?_
  refine tr_iload_n dX3_addDrawn_17 rfl ?_
  refine tr_iload_n dX3_addDrawn_18 rfl ?_
  refine q_iaddE dX3_addDrawn_19 (by intro j1 j2 j3 j4; exact om_41648b6b h17.2 h17.1 h26 h35.2 h35.1 h44) ?_
  intro v45 h46
  refine tr_iload_n dX3_addDrawn_20 rfl ?_
  refine q_mmin dX3_addDrawn_21 lk3_32 (by decide) (Nat.le_of_ble_eq_true rfl) (by decide) (by decide) ?_
  intro v47 h48
  refine q_callVv hE (M' := mX3_add) (as := [_, _]) dX3_addDrawn_24 lk3_38 inX3_add seX3_add myX3_add (by decide) ⟨by decide, by decide⟩ rfl (kR8 hS38.1 ta0) (Nat.le_of_ble_eq_true rfl) rfl rfl (by decide) (by decide) (fk_X3_add hS38.1  ta0 (by exact om_e3386c53 h17.2 h17.1 h46) (by exact om_7442ebf1 hx1.2 hx1.1 h17.2 h17.1 h26 h35.2 h35.1 h44 h46 h48.1 h48.2.2)) ?_
  rintro cn' K' N' I49 R50 L51 ⟨rfl, rfl, rfl, rfl, rfl, g52, p55, p56, rp57, -⟩
  have hS58 := hS38.tr g52 (by decide +kernel) (by decide +kernel)
  have c59 : I49 a0 1 = v40 := (g52.cell ta0 (by decide +kernel)).trans c41
  obtain ⟨v60, c61⟩ : ∃ v, I49 a0 2 = v := ⟨_, rfl⟩
  have b62 := iv8_2 hS58.1 ta0 c61
  rw [c39] at p55
  rw [c61] at p55
  rw [c39] at p56
  rw [c61] at p56
  refine tr_iload_n dX3_addDrawn_27 rfl ?_
  exact tr_iret hZ dX3_addDrawn_28 rfl (by decide) (by decide) ⟨v16, rfl, rfl, rfl, rfl, rfl, rfl, hS58, (by exact om_87537644 h17), (by rw [c59, c2]; have z : v22.toInt = dw v1.toInt := (by exact om_acd7a85a p18); rw [← z]; exact om_acd7a85a p36), (by (try rw [c2]); first | done | with_reducible assumption | omega), (by (try rw [c5]); (try rw [c61]); first | done | with_reducible assumption | omega), (fun q1 q2 => by rw [c5] at q1; have z0 : v22.toInt = dw v1.toInt := (by exact om_acd7a85a p18); have z2 := p37 (by exact om_02a6d060 h28); rw [z0, show v27.toInt = 20 by exact om_ed5c0606 h28] at z2; have z := rp57 (by rw [c39]; exact om_8bcc88d8 q1); refine ⟨_, _, AdC.cv z (fun g k h => by rcases h with h | h; (have th : T g = 27 := hW0.rs ta0 rfl rfl h); exact ((g32.cell th (wm_no (by decide +kernel))).trans (g14.cell th (wm_no (by decide +kernel)))); (have th : T g = 28 := hW0.rs ta0 rfl rfl h); exact ((g32.cell th (wm_no (by decide +kernel))).trans (g14.cell th (wm_no (by decide +kernel))))) (fun g k h => by rcases h with h | h; (have th : T g = 27 := hW0.rs ta0 rfl rfl h); exact rfl; (have th : T g = 28 := hW0.rs ta0 rfl rfl h); exact rfl) (by rw [c5, c39]), ?_, ?_⟩; (rw [c2]; have z3 := p19 (by exact om_a2ccd3a2 q2); exact z3); (rw [c2]; have z3 := p19 (by exact om_a2ccd3a2 q2); unfold dwt; rw [← z3, ← z2]; split <;> omega)), trivial⟩
def wik_X10_draw : List Nat := [73, 75, 81, 513, 514, 640, 641, 642, 704, 1791, 1855, 2047, 2111]
def wrk_X10_draw : List Nat := [2175]
def Cs_X10_draw (T : Nat → Nat) (I0 : cz_I) (R0 : cz_R) (a0 : Nat) (v : Int32) (I' : cz_I) (R' : cz_R) : Prop :=
  (((I0 a0 5).toInt = 0) ∧ (v.toInt = -1) ∧ (SmC T I0 R0 I' R') ∧ ((I' a0 9).toInt = (I0 a0 9).toInt) ∧ True) ∨
  (((I0 a0 5).toInt = 1) ∧ (∀ b1, R0 a0 6 = some b1 → (I0 b1 2).toInt ≥ 6) ∧ (v.toInt = -1) ∧ (SmC T I0 R0 I' R') ∧ ((I' a0 9).toInt = (I0 a0 9).toInt) ∧ True) ∨
  (((I0 a0 5).toInt = 1) ∧ (∀ b1, R0 a0 6 = some b1 → (I0 b1 2).toInt ≤ 5) ∧ (∀ b1, R' a0 6 = some b1 → ∀ b2, R0 a0 6 = some b2 → (I' b1 2).toInt = (I0 b2 2).toInt + 1) ∧ (∀ b1, R' a0 6 = some b1 → ∀ b2, R0 a0 6 = some b2 → (I' b1 1).toInt = (dw (dw (I0 b2 1).toInt))) ∧ (∀ b1, R0 a0 6 = some b1 → ∀ b2, R0 a0 2 = some b2 → v.toInt = (dwm (I0 b1 1).toInt (I0 b2 0).toInt)) ∧ (KpC T I0 R0 I' R' a0) ∧ (∀ nw al, R0 a0 6 = some nw → R0 a0 2 = some al → ∃ va vb : Int32, AdC I0 R0 I' nw (I0 nw 2).toInt va vb ∧ va.toInt = dwm (I0 nw 1).toInt (I0 al 0).toInt ∧ vb.toInt = dwt (I0 nw 1).toInt (I0 al 0).toInt) ∧ ((I' a0 9).toInt = 0) ∧ True)
set_option maxHeartbeats 4000000 in
theorem fk_X10_draw {l : Launch} {T : Nat → Nat} {cn : Nat} {K N : Nat → Nat} {I0 : cz_I} {R0 : cz_R} {L0 : cz_L} {d : Int} (hW0 : Wf T cn K N I0 R0 d)  {a0 : Nat} (ta0 : T a0 = 1) (pre0 : ∀ b1, R0 a0 2 = some b1 → ((I0 a0 5).toInt = 1 → (I0 b1 0).toInt ≥ 1)) : ConE l mX10_draw [.ref a0] cn K N I0 R0 L0 (ca_i (fun v cn' K' N' I' R' L' => cn = cn' ∧ K = K' ∧ N = N' ∧ L0 = L' ∧ St T cn K N d wik_X10_draw wrk_X10_draw I0 R0 I' R' ∧ Cs_X10_draw T I0 R0 a0 v I' R' ∧ True)) := by
  refine ConE.of (by decide +kernel) rfl (Nat.le_of_ble_eq_true rfl) rfl (fun X hX hZ hE => ?_)
  subst hX
  have hS0 : St T cn K N d wik_X10_draw wrk_X10_draw I0 R0 I0 R0 := St.rf0 hW0
  obtain ⟨v1, c2⟩ : ∃ v, I0 a0 5 = v := ⟨_, rfl⟩
  have b3 := iv1_5 hW0 ta0 c2
  obtain ⟨a4, d5, ta4⟩ := rf1_2 hW0 ta0
  obtain ⟨v6, c7⟩ : ∃ v, I0 a4 0 = v := ⟨_, rfl⟩
  have b8 := iv2_0 hW0 ta4 c7
  have p9 := pre0 _ d5
  rw [c2] at p9
  rw [c7] at p9
  obtain ⟨a10, d11, ta10⟩ := rf1_6 hW0 ta0
  obtain ⟨v12, c13⟩ : ∃ v, I0 a10 2 = v := ⟨_, rfl⟩
  have b14 := iv8_2 hS0.1 ta10 c13
  obtain ⟨v15, c16⟩ : ∃ v, I0 a10 1 = v := ⟨_, rfl⟩
  have b17 := iv8_1 hS0.1 ta10 c16
  obtain ⟨v18, c19⟩ : ∃ v, I0 a0 9 = v := ⟨_, rfl⟩
  have b20 := iv1_9 hS0.1 ta0 c19
  obtain ⟨a21, d22, ta21⟩ := rf1_7 hW0 ta0
  obtain ⟨a23, d24, ta23⟩ := rf11_1 hW0 ta21
  obtain ⟨a25, d26, ta25⟩ := rf11_3 hW0 ta21
  obtain ⟨v27, c28⟩ : ∃ v, I0 a21 0 = v := ⟨_, rfl⟩
  have b29 := iv11_0 hS0.1 ta21 c28
  obtain ⟨v30, c31⟩ : ∃ v, I0 a21 2 = v := ⟨_, rfl⟩
  have b32 := iv11_2 hW0 ta21 c31
  obtain ⟨v33, c34⟩ : ∃ v, I0 a10 0 = v := ⟨_, rfl⟩
  refine tr_aload_n dX10_draw_0 rfl ?_
  refine q_getZ dX10_draw_1 fl10_95 (kR1 hS0.1 ta0) c2 ?_
  refine q_if_ne 13 dX10_draw_4 (by decide) (fun h35 => ?_) (fun h35 => ?_)
  · skip
    refine tr_aload_n dX10_draw_13 rfl ?_
    refine tr_getR dX10_draw_14 fl10_35 (kR1 hS0.1 ta0) d11 ?_
    refine q_getI dX10_draw_17 fl10_272 (kR8 hS0.1 ta10) c13 ?_
    refine q_bipush dX10_draw_20 (by decide +kernel) ?_
    intro v36 h37
    refine q_icmp_lt 31 dX10_draw_22 (by decide) (fun h38 => ?_) (fun h38 => ?_)
    · skip
      refine tr_aload_n dX10_draw_31 rfl ?_
      refine tr_getR dX10_draw_32 fl10_42 (kR1 hS0.1 ta0) d22 ?_
      refine tr_aload_n dX10_draw_35 rfl ?_
      refine tr_getR dX10_draw_36 fl10_35 (kR1 hS0.1 ta0) d11 ?_
      refine q_callVv hE (M' := mX6_keepAct) (as := [_]) dX10_draw_39 lk10_284 inX6_keepAct seX6_keepAct myX6_keepAct (by decide) ⟨by decide, by decide⟩ rfl (kR11 hS0.1 ta21) (Nat.le_of_ble_eq_true rfl) rfl rfl (by decide) (by decide) (fk_X6_keepAct hS0.1  ta21 ta10) ?_
      rintro cn' K' N' I39 R40 L41 ⟨rfl, rfl, rfl, rfl, g42, p45, p46, rp47, -⟩
      have hS48 := hS0.tr g42 (by decide +kernel) (by decide +kernel)
      have c49 : I39 a10 2 = v12 := (g42.cell ta10 (by decide +kernel)).trans c13
      have c50 : I39 a10 1 = v15 := (g42.cell ta10 (by decide +kernel)).trans c16
      have c51 : I39 a0 9 = v18 := (g42.cell ta0 (by decide +kernel)).trans c19
      obtain ⟨v52, c53⟩ : ∃ v, I39 a21 0 = v := ⟨_, rfl⟩
      have b54 := iv11_0 hS48.1 ta21 c53
      rw [c28] at p45
      rw [c53] at p45
      rw [c28] at p46
      rw [c53] at p46
      refine tr_aload_n dX10_draw_42 rfl ?_
      refine tr_getR dX10_draw_43 fl10_35 (kR1 hS48.1 ta0) ((hS48.rcell ta0 (by decide +kernel)).trans d11) ?_
      refine tr_aload_n dX10_draw_46 rfl ?_
      refine tr_getR dX10_draw_47 fl10_16 (kR1 hS48.1 ta0) ((hS48.rcell ta0 (by decide +kernel)).trans d5) ?_
      refine q_getI dX10_draw_50 fl10_146 (kR2 hS48.1 ta4) ((hS48.cell ta4 (by decide +kernel)).trans c7) ?_
      refine q_callVi hE (M' := mX3_addDrawn) (as := [_]) dX10_draw_53 lk10_275 inX3_addDrawn seX3_addDrawn myX3_addDrawn (by decide) ⟨by decide, by decide⟩ rfl (kR8 hS48.1 ta10) (Nat.le_of_ble_eq_true rfl) rfl rfl (by decide) (by decide) (fk_X3_addDrawn hS48.1  ta10 (by exact om_d956ef70 b8)) ?_
      rintro v60 cn' K' N' I55 R56 L57 ⟨rfl, rfl, rfl, rfl, rfl, g58, h61, p62, p63, p64, rp65, -⟩
      have hS66 := hS48.tr g58 (by decide +kernel) (by decide +kernel)
      have c67 : I55 a0 9 = v18 := (g58.cell ta0 (by decide +kernel)).trans c51
      have c68 : I55 a21 0 = v52 := (g58.cell ta21 (by decide +kernel)).trans c53
      obtain ⟨v69, c70⟩ : ∃ v, I55 a10 1 = v := ⟨_, rfl⟩
      have b71 := iv8_1 hS66.1 ta10 c70
      rw [c70] at p62
      rw [c50] at p62
      rw [c50] at p63
      obtain ⟨v72, c73⟩ : ∃ v, I55 a10 2 = v := ⟨_, rfl⟩
      have b74 := iv8_2 hS66.1 ta10 c73
      rw [c49] at p64
      rw [c73] at p64
      refine tr_istore_n dX10_draw_56 (by decide) (by decide) ?_
      refine tr_aload_n dX10_draw_57 rfl ?_
      refine q_callVv hE (M' := mX10_cloudsMoved) (as := []) dX10_draw_58 lk10_103 inX10_cloudsMoved seX10_cloudsMoved myX10_cloudsMoved (by decide) ⟨by decide, by decide⟩ rfl (kR1 hS66.1 ta0) (Nat.le_of_ble_eq_true rfl) rfl rfl (by decide) (by decide) (fk_X10_cloudsMoved hS66.1  ta0) ?_
      rintro cn' K' N' I75 R76 L77 ⟨rfl, rfl, rfl, rfl, rfl, g78, p81, p82, -⟩
      have hS83 := hS66.tr g78 (by decide +kernel) (by decide +kernel)
      have c84 : I75 a21 0 = v52 := (g78.cell ta21 (by decide +kernel)).trans c68
      have c85 : I75 a10 1 = v69 := (g78.cell ta10 (by decide +kernel)).trans c70
      have c86 : I75 a10 2 = v72 := (g78.cell ta10 (by decide +kernel)).trans c73
      obtain ⟨v87, c88⟩ : ∃ v, I75 a0 9 = v := ⟨_, rfl⟩
      have b89 := iv1_9 hS83.1 ta0 c88
      rw [c88] at p81
      obtain ⟨v90, c91⟩ : ∃ v, I75 a0 11 = v := ⟨_, rfl⟩
      have b92 := iv1_11 hS83.1 ta0 c91
      rw [c91] at p82
      refine tr_aload_n dX10_draw_61 rfl ?_
      refine tr_iload_n dX10_draw_62 rfl ?_
      refine q_callVi hE (M' := mX10_answered) (as := [_]) dX10_draw_63 lk10_109 inX10_answered seX10_answered myX10_answered (by decide) ⟨by decide, by decide⟩ rfl (kR1 hS83.1 ta0) (Nat.le_of_ble_eq_true rfl) rfl rfl (by decide) (by decide) (fk_X10_answered hS83.1  ta0) ?_
      rintro v98 cn' K' N' I93 R94 L95 ⟨rfl, rfl, rfl, rfl, rfl, g96, p99, p100, -⟩
      have hS101 := hS83.tr g96 (by decide +kernel) (by decide +kernel)
      have c102 : I93 a21 0 = v52 := (g96.cell ta21 (by decide +kernel)).trans c84
      have c103 : I93 a10 1 = v69 := (g96.cell ta10 (by decide +kernel)).trans c85
      have c104 : I93 a10 2 = v72 := (g96.cell ta10 (by decide +kernel)).trans c86
      have c105 : I93 a0 9 = v87 := (g96.cell ta0 (by decide +kernel)).trans c88
      have c106 : I93 a0 11 = v90 := (g96.cell ta0 (by decide +kernel)).trans c91
      obtain ⟨v107, c108⟩ : ∃ v, I93 a0 17 = v := ⟨_, rfl⟩
      rw [c108] at p100
      exact tr_iret hZ dX10_draw_66 rfl (by decide) (by decide) ⟨v98, rfl, rfl, rfl, rfl, rfl, hS101, (Or.inr (Or.inr (⟨(by (try rw [c2]); first | done | with_reducible assumption | exact om_958f2aaf b3.2 b3.1 b14.2 b14.1 b29.2 b29.1 h35 h37 h38 p46 p45 p63 p64), (fun q0 z0 => by obtain rfl := Option.some.inj ((d11).symm.trans z0); (try rw [c13]); first | done | with_reducible assumption | exact om_a10b6f45 b14.2 b14.1 h37 h38), (fun q0 z0 => fun q1 z1 => by obtain rfl := Option.some.inj ((((hS101.rcell ta0 (by decide +kernel)).trans d11)).symm.trans z0); obtain rfl := Option.some.inj ((d11).symm.trans z1); (try rw [c104]); (try rw [c13]); first | done | with_reducible assumption | exact om_3fda9231 b14.2 b14.1 h37 h38 p64), (fun q0 z0 => fun q1 z1 => by obtain rfl := Option.some.inj ((((hS101.rcell ta0 (by decide +kernel)).trans d11)).symm.trans z0); obtain rfl := Option.some.inj ((d11).symm.trans z1); (try rw [c103]); (try rw [c16]); first | done | with_reducible assumption | omega), (fun q0 z0 => fun q1 z1 => by obtain rfl := Option.some.inj ((d11).symm.trans z0); obtain rfl := Option.some.inj ((d5).symm.trans z1); (try rw [c16]); (try rw [c7]); first | done | with_reducible assumption | exact om_9d2f6f7d b3.2 b3.1 b8.2 b8.1 p9 b14.2 b14.1 b29.2 b29.1 h35 h37 h38 p46 p45 p63 p64 p99), (fun nw pa A h1 h2 h3 => by obtain rfl := Option.some.inj (d11.symm.trans h1); obtain rfl := Option.some.inj (d22.symm.trans h2); obtain rfl := Option.some.inj (d24.symm.trans h3); exact ⟨KeC.kp (rp47 _ d24) (RoP.of hW0) (fun a j h => by rcases h with h | h | h; exact ((g96.cell h (wm_no (by decide +kernel))).trans ((g78.cell h (wm_no (by decide +kernel))).trans (g58.cell h (wm_no (by decide +kernel))))); exact ((g96.cell h (wm_no (by decide +kernel))).trans ((g78.cell h (wm_no (by decide +kernel))).trans (g58.cell h (wm_no (by decide +kernel))))); exact ((g96.cell h (wm_no (by decide +kernel))).trans ((g78.cell h (wm_no (by decide +kernel))).trans (g58.cell h (wm_no (by decide +kernel)))))), fun q => by rw [c102, c28]; rw [c28] at q; exact om_3419bee3 b14.2 b14.1 b29.2 b29.1 h37 h38 p45 p63 p64 q, fun q => by rw [c102]; rw [c28] at q; exact om_17a41ecb b14.2 b14.1 b29.2 b29.1 h37 h38 p46 p45 b54.2 b54.1 p63 p64 q⟩), (fun nw al hn hal => by obtain rfl := Option.some.inj (d11.symm.trans hn); obtain rfl := Option.some.inj (d5.symm.trans hal); obtain ⟨va, vb, z, y1, y2⟩ := rp65 (by rw [c49]; exact om_a10b6f45 b14.2 b14.1 h37 h38) (by exact om_b95f0fde b3.2 b3.1 b8.2 b8.1 p9 b14.2 b14.1 b29.2 b29.1 h35 h37 h38 p46 p45 p63 p64); rw [c50] at y1 y2; exact ⟨va, vb, AdC.cv (adR (fun j => (hS101.rcell ta10 (wm_no (by decide +kernel)))) z) (fun g k h => by rcases h with h | h; (have th : T g = 27 := hW0.rs ta10 rfl rfl h); exact (g42.cell th (wm_no (by decide +kernel))); (have th : T g = 28 := hW0.rs ta10 rfl rfl h); exact (g42.cell th (wm_no (by decide +kernel)))) (fun g k h => by rcases h with h | h; (have th : T g = 27 := hW0.rs ta10 rfl rfl h); exact ((g96.cell th (wm_no (by decide +kernel))).trans (g78.cell th (wm_no (by decide +kernel)))); (have th : T g = 28 := hW0.rs ta10 rfl rfl h); exact ((g96.cell th (wm_no (by decide +kernel))).trans (g78.cell th (wm_no (by decide +kernel))))) (by rw [c13, c49]), by rw [c16, c7]; exact y1, by rw [c16, c7]; exact y2⟩), (by rw [c105]; exact om_29f55913 p81), trivial⟩))), trivial⟩
    · skip
      refine tr_aload_n dX10_draw_25 rfl ?_
      refine q_iconst dX10_draw_26 (by decide) ?_
      intro v109 h110
      refine q_callVi hE (M' := mX10_refused) (as := [_]) dX10_draw_27 lk10_79 inX10_refused seX10_refused myX10_refused (by decide) ⟨by decide, by decide⟩ rfl (kR1 hS0.1 ta0) (Nat.le_of_ble_eq_true rfl) rfl rfl (by decide) (by decide) (fk_X10_refused hS0.1  ta0) ?_
      rintro v116 cn' K' N' I111 R112 L113 ⟨rfl, rfl, rfl, rfl, rfl, g114, p117, p118, -⟩
      have hS119 := hS0.tr g114 (by decide +kernel) (by decide +kernel)
      have c120 : I111 a10 2 = v12 := (g114.cell ta10 (by decide +kernel)).trans c13
      have c121 : I111 a10 1 = v15 := (g114.cell ta10 (by decide +kernel)).trans c16
      have c122 : I111 a0 9 = v18 := (g114.cell ta0 (by decide +kernel)).trans c19
      have c123 : I111 a21 0 = v27 := (g114.cell ta21 (by decide +kernel)).trans c28
      obtain ⟨v124, c125⟩ : ∃ v, I111 a0 17 = v := ⟨_, rfl⟩
      rw [c125] at p118
      exact tr_iret hZ dX10_draw_30 rfl (by decide) (by decide) ⟨v116, rfl, rfl, rfl, rfl, rfl, hS119, (Or.inr (Or.inl ⟨(by (try rw [c2]); first | done | with_reducible assumption | exact om_eea3e830 b3.2 b3.1 h35), (fun q0 z0 => by obtain rfl := Option.some.inj ((d11).symm.trans z0); (try rw [c13]); first | done | with_reducible assumption | exact om_c0d53a33 b14.2 b14.1 h37 h38), (by first | done | with_reducible assumption | omega), ⟨rfl, fun a j h => by rcases h with h | h | h | h | h | h | h; exact (g114.cell h (wm_no (by decide +kernel))); exact (g114.cell h (wm_no (by decide +kernel))); exact (g114.cell h (wm_no (by decide +kernel))); exact (g114.cell h (wm_no (by decide +kernel))); exact (g114.cell h (wm_no (by decide +kernel))); exact (g114.cell h (wm_no (by decide +kernel))); exact (g114.cell h (wm_no (by decide +kernel)))⟩, (by rw [c122, c19]; first | done | omega), trivial⟩)), trivial⟩
  · skip
    refine tr_aload_n dX10_draw_7 rfl ?_
    refine q_iconst dX10_draw_8 (by decide) ?_
    intro v126 h127
    refine q_callVi hE (M' := mX10_refused) (as := [_]) dX10_draw_9 lk10_79 inX10_refused seX10_refused myX10_refused (by decide) ⟨by decide, by decide⟩ rfl (kR1 hS0.1 ta0) (Nat.le_of_ble_eq_true rfl) rfl rfl (by decide) (by decide) (fk_X10_refused hS0.1  ta0) ?_
    rintro v133 cn' K' N' I128 R129 L130 ⟨rfl, rfl, rfl, rfl, rfl, g131, p134, p135, -⟩
    have hS136 := hS0.tr g131 (by decide +kernel) (by decide +kernel)
    have c137 : I128 a10 2 = v12 := (g131.cell ta10 (by decide +kernel)).trans c13
    have c138 : I128 a10 1 = v15 := (g131.cell ta10 (by decide +kernel)).trans c16
    have c139 : I128 a0 9 = v18 := (g131.cell ta0 (by decide +kernel)).trans c19
    have c140 : I128 a21 0 = v27 := (g131.cell ta21 (by decide +kernel)).trans c28
    obtain ⟨v141, c142⟩ : ∃ v, I128 a0 17 = v := ⟨_, rfl⟩
    rw [c142] at p135
    exact tr_iret hZ dX10_draw_12 rfl (by decide) (by decide) ⟨v133, rfl, rfl, rfl, rfl, rfl, hS136, (Or.inl ⟨(by (try rw [c2]); first | done | with_reducible assumption | omega), (by first | done | with_reducible assumption | omega), ⟨rfl, fun a j h => by rcases h with h | h | h | h | h | h | h; exact (g131.cell h (wm_no (by decide +kernel))); exact (g131.cell h (wm_no (by decide +kernel))); exact (g131.cell h (wm_no (by decide +kernel))); exact (g131.cell h (wm_no (by decide +kernel))); exact (g131.cell h (wm_no (by decide +kernel))); exact (g131.cell h (wm_no (by decide +kernel))); exact (g131.cell h (wm_no (by decide +kernel)))⟩, (by rw [c139, c19]; first | done | omega), trivial⟩), trivial⟩
def wik_X10_lift : List Nat := [73, 75, 81, 514, 640, 641, 642, 704, 2047, 2111]
def wrk_X10_lift : List Nat := [2175]
def Cs_X10_lift (T : Nat → Nat) (I0 : cz_I) (R0 : cz_R) (a0 : Nat) (v : Int32) (I' : cz_I) (R' : cz_R) : Prop :=
  ((∀ b1, R0 a0 6 = some b1 → (I0 b1 2).toInt = 0) ∧ (v.toInt = 0) ∧ (SmC T I0 R0 I' R') ∧ ((I' a0 9).toInt = (I0 a0 9).toInt) ∧ True) ∨
  ((∀ b1, R0 a0 6 = some b1 → (I0 b1 2).toInt ≥ 1) ∧ (v.toInt = 1) ∧ (∀ b1, R' a0 6 = some b1 → ∀ b2, R0 a0 6 = some b2 → (I' b1 2).toInt = (I0 b2 2).toInt - 1) ∧ (KpC T I0 R0 I' R' a0) ∧ ((I' a0 9).toInt = 0) ∧ True)
set_option maxHeartbeats 4000000 in
theorem fk_X10_lift {l : Launch} {T : Nat → Nat} {cn : Nat} {K N : Nat → Nat} {I0 : cz_I} {R0 : cz_R} {L0 : cz_L} {d : Int} (hW0 : Wf T cn K N I0 R0 d)  {a0 : Nat} (ta0 : T a0 = 1) : ConE l mX10_lift [.ref a0] cn K N I0 R0 L0 (ca_i (fun v cn' K' N' I' R' L' => cn = cn' ∧ K = K' ∧ N = N' ∧ L0 = L' ∧ St T cn K N d wik_X10_lift wrk_X10_lift I0 R0 I' R' ∧ (0 ≤ v.toInt ∧ v.toInt ≤ 1) ∧ Cs_X10_lift T I0 R0 a0 v I' R' ∧ True)) := by
  refine ConE.of (by decide +kernel) rfl (Nat.le_of_ble_eq_true rfl) rfl (fun X hX hZ hE => ?_)
  subst hX
  have hS0 : St T cn K N d wik_X10_lift wrk_X10_lift I0 R0 I0 R0 := St.rf0 hW0
  obtain ⟨a1, d2, ta1⟩ := rf1_6 hW0 ta0
  obtain ⟨v3, c4⟩ : ∃ v, I0 a1 2 = v := ⟨_, rfl⟩
  have b5 := iv8_2 hS0.1 ta1 c4
  obtain ⟨v6, c7⟩ : ∃ v, I0 a0 9 = v := ⟨_, rfl⟩
  have b8 := iv1_9 hS0.1 ta0 c7
  obtain ⟨a9, d10, ta9⟩ := rf1_7 hW0 ta0
  obtain ⟨a11, d12, ta11⟩ := rf11_1 hW0 ta9
  obtain ⟨a13, d14, ta13⟩ := rf11_3 hW0 ta9
  obtain ⟨v15, c16⟩ : ∃ v, I0 a9 0 = v := ⟨_, rfl⟩
  have b17 := iv11_0 hS0.1 ta9 c16
  obtain ⟨v18, c19⟩ : ∃ v, I0 a9 2 = v := ⟨_, rfl⟩
  have b20 := iv11_2 hW0 ta9 c19
  obtain ⟨v21, c22⟩ : ∃ v, I0 a1 0 = v := ⟨_, rfl⟩
  obtain ⟨v23, c24⟩ : ∃ v, I0 a1 1 = v := ⟨_, rfl⟩
  have b25 := iv8_1 hW0 ta1 c24
  refine tr_aload_n dX10_lift_0 rfl ?_
  refine tr_getR dX10_lift_1 fl10_35 (kR1 hS0.1 ta0) d2 ?_
  refine q_getI dX10_lift_4 fl10_272 (kR8 hS0.1 ta1) c4 ?_
  refine q_if_ne 17 dX10_lift_7 (by decide) (fun h26 => ?_) (fun h26 => ?_)
  · skip
    refine tr_aload_n dX10_lift_17 rfl ?_
    refine tr_getR dX10_lift_18 fl10_42 (kR1 hS0.1 ta0) d10 ?_
    refine tr_aload_n dX10_lift_21 rfl ?_
    refine tr_getR dX10_lift_22 fl10_35 (kR1 hS0.1 ta0) d2 ?_
    refine q_callVv hE (M' := mX6_keepAct) (as := [_]) dX10_lift_25 lk10_284 inX6_keepAct seX6_keepAct myX6_keepAct (by decide) ⟨by decide, by decide⟩ rfl (kR11 hS0.1 ta9) (Nat.le_of_ble_eq_true rfl) rfl rfl (by decide) (by decide) (fk_X6_keepAct hS0.1  ta9 ta1) ?_
    rintro cn' K' N' I27 R28 L29 ⟨rfl, rfl, rfl, rfl, g30, p33, p34, rp35, -⟩
    have hS36 := hS0.tr g30 (by decide +kernel) (by decide +kernel)
    have c37 : I27 a1 2 = v3 := (g30.cell ta1 (by decide +kernel)).trans c4
    have c38 : I27 a0 9 = v6 := (g30.cell ta0 (by decide +kernel)).trans c7
    obtain ⟨v39, c40⟩ : ∃ v, I27 a9 0 = v := ⟨_, rfl⟩
    have b41 := iv11_0 hS36.1 ta9 c40
    rw [c16] at p33
    rw [c40] at p33
    rw [c16] at p34
    rw [c40] at p34
    refine tr_aload_n dX10_lift_28 rfl ?_
    refine tr_getR dX10_lift_29 fl10_35 (kR1 hS36.1 ta0) ((hS36.rcell ta0 (by decide +kernel)).trans d2) ?_
    refine tr_dup dX10_lift_32 rfl ?_
    refine q_getI dX10_lift_33 fl10_272 (kR8 hS36.1 ta1) c37 ?_
    refine q_iconst dX10_lift_36 (by decide) ?_
    intro v42 h43
    refine q_isubE dX10_lift_37 (by intro j1 j2 j3 j4; exact om_8ca73117 b5.2 b5.1 h43) ?_
    intro v44 h45
    refine q_putI dX10_lift_38 fl10_272 (kR8 hS36.1 ta1) (Or.inl rfl) hS36 ta1 (by show (0 : Int) ≤ v44.toInt ∧ v44.toInt ≤ (6 : Int); exact om_1e90aae0 b5.2 b5.1 b17.2 b17.1 h26 p34 p33 h43 h45) rfl (by decide +kernel) ?_
    intro I46 hS47 e48 f49
    have c50 : I46 a0 9 = v6 := (f49 _ _ (fun q => absurd q.2 (by decide))).trans c38
    have c51 : I46 a9 0 = v39 := (f49 _ _ (fun q => absurd q.2 (by decide))).trans c40
    refine tr_aload_n dX10_lift_41 rfl ?_
    refine q_callVv hE (M' := mX10_cloudsMoved) (as := []) dX10_lift_42 lk10_103 inX10_cloudsMoved seX10_cloudsMoved myX10_cloudsMoved (by decide) ⟨by decide, by decide⟩ rfl (kR1 hS47.1 ta0) (Nat.le_of_ble_eq_true rfl) rfl rfl (by decide) (by decide) (fk_X10_cloudsMoved hS47.1  ta0) ?_
    rintro cn' K' N' I52 R53 L54 ⟨rfl, rfl, rfl, rfl, rfl, g55, p58, p59, -⟩
    have hS60 := hS47.tr g55 (by decide +kernel) (by decide +kernel)
    have c61 : I52 a9 0 = v39 := (g55.cell ta9 (by decide +kernel)).trans c51
    have c62 : I52 a1 2 = v44 := (g55.cell ta1 (by decide +kernel)).trans e48
    obtain ⟨v63, c64⟩ : ∃ v, I52 a0 9 = v := ⟨_, rfl⟩
    have b65 := iv1_9 hS60.1 ta0 c64
    rw [c64] at p58
    obtain ⟨v66, c67⟩ : ∃ v, I52 a0 11 = v := ⟨_, rfl⟩
    have b68 := iv1_11 hS60.1 ta0 c67
    rw [c67] at p59
    refine tr_aload_n dX10_lift_45 rfl ?_
    refine q_callVi hE (M' := mX10_allowed) (as := []) dX10_lift_46 lk10_291 inX10_allowed seX10_allowed myX10_allowed (by decide) ⟨by decide, by decide⟩ rfl (kR1 hS60.1 ta0) (Nat.le_of_ble_eq_true rfl) rfl rfl (by decide) (by decide) (fk_X10_allowed hS60.1  ta0) ?_
    rintro v74 cn' K' N' I69 R70 L71 ⟨rfl, rfl, rfl, rfl, rfl, g72, h75, p76, p77, -⟩
    have hS78 := hS60.tr g72 (by decide +kernel) (by decide +kernel)
    have c79 : I69 a9 0 = v39 := (g72.cell ta9 (by decide +kernel)).trans c61
    have c80 : I69 a1 2 = v44 := (g72.cell ta1 (by decide +kernel)).trans c62
    have c81 : I69 a0 9 = v63 := (g72.cell ta0 (by decide +kernel)).trans c64
    have c82 : I69 a0 11 = v66 := (g72.cell ta0 (by decide +kernel)).trans c67
    obtain ⟨v83, c84⟩ : ∃ v, I69 a0 17 = v := ⟨_, rfl⟩
    rw [c84] at p77
    exact tr_zret hZ dX10_lift_49 rfl (ti_b01 (by exact om_f9079521 p76) (by exact om_e6632817 p76)) (by decide) (by decide) ⟨v74, rfl, rfl, rfl, rfl, rfl, hS78, (by exact om_be53a44c h75), (Or.inr (⟨(fun q0 z0 => by obtain rfl := Option.some.inj ((d2).symm.trans z0); (try rw [c4]); first | done | with_reducible assumption | exact om_75b9b3ce b5.2 b5.1 b17.2 b17.1 h26 p34 p33 h43 h45), (by first | done | with_reducible assumption | omega), (fun q0 z0 => fun q1 z1 => by obtain rfl := Option.some.inj ((((hS78.rcell ta0 (by decide +kernel)).trans d2)).symm.trans z0); obtain rfl := Option.some.inj ((d2).symm.trans z1); (try rw [c80]); (try rw [c4]); first | done | with_reducible assumption | exact om_d85062b9 h43 h45), (fun nw pa A h1 h2 h3 => by obtain rfl := Option.some.inj (d2.symm.trans h1); obtain rfl := Option.some.inj (d10.symm.trans h2); obtain rfl := Option.some.inj (d12.symm.trans h3); exact ⟨KeC.kp (rp35 _ d12) (RoP.of hW0) (fun a j h => by rcases h with h | h | h; exact ((g72.cell h (wm_no (by decide +kernel))).trans ((g55.cell h (wm_no (by decide +kernel))).trans (f49 _ _ (fun q => by have z := h; rw [q.1, ta1] at z; exact absurd z (by decide))))); exact ((g72.cell h (wm_no (by decide +kernel))).trans ((g55.cell h (wm_no (by decide +kernel))).trans (f49 _ _ (fun q => by have z := h; rw [q.1, ta1] at z; exact absurd z (by decide))))); exact ((g72.cell h (wm_no (by decide +kernel))).trans ((g55.cell h (wm_no (by decide +kernel))).trans (f49 _ _ (fun q => by have z := h; rw [q.1, ta1] at z; exact absurd z (by decide)))))), fun q => by rw [c79, c16]; rw [c16] at q; exact om_6f80cd6c b17.2 b17.1 p33 q, fun q => by rw [c79]; rw [c16] at q; exact om_6851ab51 b17.2 b17.1 p34 p33 b41.2 b41.1 q⟩), (by rw [c81]; exact om_29f55913 p58), trivial⟩)), trivial⟩
  · skip
    refine tr_aload_n dX10_lift_10 rfl ?_
    refine q_bipush dX10_lift_11 (by decide +kernel) ?_
    intro v85 h86
    refine q_callVi hE (M' := mX10_refusedAct) (as := [_]) dX10_lift_13 lk10_281 inX10_refusedAct seX10_refusedAct myX10_refusedAct (by decide) ⟨by decide, by decide⟩ rfl (kR1 hS0.1 ta0) (Nat.le_of_ble_eq_true rfl) rfl rfl (by decide) (by decide) (fk_X10_refusedAct hS0.1  ta0) ?_
    rintro v92 cn' K' N' I87 R88 L89 ⟨rfl, rfl, rfl, rfl, rfl, g90, h93, p94, p95, -⟩
    have hS96 := hS0.tr g90 (by decide +kernel) (by decide +kernel)
    have c97 : I87 a1 2 = v3 := (g90.cell ta1 (by decide +kernel)).trans c4
    have c98 : I87 a0 9 = v6 := (g90.cell ta0 (by decide +kernel)).trans c7
    have c99 : I87 a9 0 = v15 := (g90.cell ta9 (by decide +kernel)).trans c16
    obtain ⟨v100, c101⟩ : ∃ v, I87 a0 17 = v := ⟨_, rfl⟩
    rw [c101] at p95
    exact tr_zret hZ dX10_lift_16 rfl (ti_b01 (by exact om_d99fa9e4 p94) (by exact om_d3de7ec9 p94)) (by decide) (by decide) ⟨v92, rfl, rfl, rfl, rfl, rfl, hS96, (by exact om_be53a44c h93), (Or.inl ⟨(fun q0 z0 => by obtain rfl := Option.some.inj ((d2).symm.trans z0); (try rw [c4]); first | done | with_reducible assumption | omega), (by first | done | with_reducible assumption | omega), ⟨rfl, fun a j h => by rcases h with h | h | h | h | h | h | h; exact (g90.cell h (wm_no (by decide +kernel))); exact (g90.cell h (wm_no (by decide +kernel))); exact (g90.cell h (wm_no (by decide +kernel))); exact (g90.cell h (wm_no (by decide +kernel))); exact (g90.cell h (wm_no (by decide +kernel))); exact (g90.cell h (wm_no (by decide +kernel))); exact (g90.cell h (wm_no (by decide +kernel)))⟩, (by rw [c98, c7]; first | done | omega), trivial⟩), trivial⟩
set_option maxHeartbeats 4000000 in
theorem fk_X10_isSeed {l : Launch} {T : Nat → Nat} {cn : Nat} {K N : Nat → Nat} {I0 : cz_I} {R0 : cz_R} {L0 : cz_L} {d : Int} (hW0 : Wf T cn K N I0 R0 d)  {x0 : Int32} : ConE l mX10_isSeed [.int x0] cn K N I0 R0 L0 (ca_i (fun v cn' K' N' I' R' L' => cn = cn' ∧ K = K' ∧ N = N' ∧ I0 = I' ∧ R0 = R' ∧ L0 = L' ∧ (0 ≤ v.toInt ∧ v.toInt ≤ 1) ∧ ((v.toInt = 1 → (0 ≤ x0.toInt ∧ x0.toInt ≤ 65536))) ∧ ((v.toInt = 0 → (x0.toInt < 0 ∨ x0.toInt > 65536))) ∧ True)) := by
  refine ConE.of (by decide +kernel) rfl (Nat.le_of_ble_eq_true rfl) rfl (fun X hX hZ hE => ?_)
  subst hX
  refine tr_iload_n dX10_isSeed_0 rfl ?_
  refine q_if_lt 15 dX10_isSeed_1 (by decide) (fun h1 => ?_) (fun h1 => ?_)
  · skip
    refine q_iconst dX10_isSeed_15 (by decide) ?_
    intro v2 h3
    exact tr_zret hZ dX10_isSeed_16 rfl (ti_b01 (by exact om_d99fa9e4 h3) (by exact om_d3de7ec9 h3)) (by decide) (by decide) ⟨v2, rfl, rfl, rfl, rfl, rfl, rfl, rfl, (by exact om_3b50ecb9 h3), (by first | done | with_reducible assumption | exact om_060355dc h3), (by first | done | with_reducible assumption | exact om_c59a50a2 h1), trivial⟩
  · skip
    refine tr_iload_n dX10_isSeed_4 rfl ?_
    refine q_ldcw 65537 dX10_isSeed_5 ld10_357 (by decide +kernel) ?_
    intro v4 h5
    refine q_icmp_ge 15 dX10_isSeed_8 (by decide) (fun h6 => ?_) (fun h6 => ?_)
    · skip
      refine q_iconst dX10_isSeed_15 (by decide) ?_
      intro v7 h8
      exact tr_zret hZ dX10_isSeed_16 rfl (ti_b01 (by exact om_d99fa9e4 h8) (by exact om_d3de7ec9 h8)) (by decide) (by decide) ⟨v7, rfl, rfl, rfl, rfl, rfl, rfl, rfl, (by exact om_3b50ecb9 h8), (by first | done | with_reducible assumption | exact om_060355dc h8), (by first | done | with_reducible assumption | exact om_c07223f1 h1 h5 h6), trivial⟩
    · skip
      refine q_iconst dX10_isSeed_11 (by decide) ?_
      intro v9 h10
      refine tr_goto 16 dX10_isSeed_12 (by decide) ?_
      exact tr_zret hZ dX10_isSeed_16 rfl (ti_b01 (by exact om_f9079521 h10) (by exact om_e6632817 h10)) (by decide) (by decide) ⟨v9, rfl, rfl, rfl, rfl, rfl, rfl, rfl, (by exact om_d753bc65 h10), (by first | done | with_reducible assumption | exact om_5af01e33 h1 h5 h6), (by first | done | with_reducible assumption | exact om_a04d2cda h10), trivial⟩
def wik_X10_seed : List Nat := [81, 513]
def wrk_X10_seed : List Nat := []
def Cs_X10_seed (T : Nat → Nat) (I0 : cz_I) (R0 : cz_R) (a0 : Nat) (x1 : Int32) (v : Int32) (I' : cz_I) (R' : cz_R) : Prop :=
  (((I0 a0 5).toInt = 0) ∧ (v.toInt = 0) ∧ (SmC T I0 R0 I' R0) ∧ True) ∨
  (((I0 a0 5).toInt = 1) ∧ ((x1.toInt < 0 ∨ x1.toInt > 65536)) ∧ (v.toInt = 0) ∧ (SmC T I0 R0 I' R0) ∧ True) ∨
  (((I0 a0 5).toInt = 1) ∧ (0 ≤ x1.toInt) ∧ (x1.toInt ≤ 65536) ∧ (v.toInt = 1) ∧ (∀ b1, R0 a0 6 = some b1 → (I' b1 1).toInt = x1.toInt) ∧ True)
set_option maxHeartbeats 4000000 in
theorem fk_X10_seed {l : Launch} {T : Nat → Nat} {cn : Nat} {K N : Nat → Nat} {I0 : cz_I} {R0 : cz_R} {L0 : cz_L} {d : Int} (hW0 : Wf T cn K N I0 R0 d)  {a0 : Nat} (ta0 : T a0 = 1) {x1 : Int32} : ConE l mX10_seed [.ref a0, .int x1] cn K N I0 R0 L0 (ca_i (fun v cn' K' N' I' R' L' => cn = cn' ∧ K = K' ∧ N = N' ∧ R0 = R' ∧ L0 = L' ∧ St T cn K N d wik_X10_seed wrk_X10_seed I0 R0 I' R0 ∧ (0 ≤ v.toInt ∧ v.toInt ≤ 1) ∧ Cs_X10_seed T I0 R0 a0 x1 v I' R0 ∧ True)) := by
  refine ConE.of (by decide +kernel) rfl (Nat.le_of_ble_eq_true rfl) rfl (fun X hX hZ hE => ?_)
  subst hX
  have hS0 : St T cn K N d wik_X10_seed wrk_X10_seed I0 R0 I0 R0 := St.rf0 hW0
  obtain ⟨v1, c2⟩ : ∃ v, I0 a0 5 = v := ⟨_, rfl⟩
  have b3 := iv1_5 hW0 ta0 c2
  obtain ⟨a4, d5, ta4⟩ := rf1_7 hW0 ta0
  obtain ⟨a6, d7, ta6⟩ := rf1_6 hW0 ta0
  obtain ⟨a8, d9, ta8⟩ := rf11_1 hW0 ta4
  obtain ⟨a10, d11, ta10⟩ := rf11_3 hW0 ta4
  obtain ⟨v12, c13⟩ : ∃ v, I0 a4 0 = v := ⟨_, rfl⟩
  have b14 := iv11_0 hW0 ta4 c13
  obtain ⟨v15, c16⟩ : ∃ v, I0 a4 2 = v := ⟨_, rfl⟩
  have b17 := iv11_2 hW0 ta4 c16
  obtain ⟨v18, c19⟩ : ∃ v, I0 a6 0 = v := ⟨_, rfl⟩
  obtain ⟨v20, c21⟩ : ∃ v, I0 a6 1 = v := ⟨_, rfl⟩
  have b22 := iv8_1 hS0.1 ta6 c21
  obtain ⟨v23, c24⟩ : ∃ v, I0 a6 2 = v := ⟨_, rfl⟩
  have b25 := iv8_2 hW0 ta6 c24
  refine tr_aload_n dX10_seed_0 rfl ?_
  refine q_getZ dX10_seed_1 fl10_95 (kR1 hS0.1 ta0) c2 ?_
  refine q_if_ne 13 dX10_seed_4 (by decide) (fun h26 => ?_) (fun h26 => ?_)
  · skip
    refine tr_iload_n dX10_seed_13 rfl ?_
    refine q_callSi hE (M' := mX10_isSeed) (as := [_]) dX10_seed_14 lk10_266 inX10_isSeed myX10_isSeed ⟨by decide, by decide⟩ rfl (Nat.le_of_ble_eq_true rfl) rfl rfl (by decide) (by decide) (fk_X10_isSeed hS0.1  ) ?_
    rintro v32 cn' K' N' I27 R28 L29 ⟨rfl, rfl, rfl, rfl, rfl, rfl, h33, p34, p35, -⟩
    refine q_if_ne 26 dX10_seed_17 (by decide) (fun h36 => ?_) (fun h36 => ?_)
    · skip
      refine tr_aload_n dX10_seed_26 rfl ?_
      refine tr_getR dX10_seed_27 fl10_35 (kR1 hS0.1 ta0) d7 ?_
      refine tr_iload_n dX10_seed_30 rfl ?_
      refine q_putI dX10_seed_31 fl10_269 (kR8 hS0.1 ta6) (Or.inl rfl) hS0 ta6 (by show (0 : Int) ≤ x1.toInt ∧ x1.toInt ≤ (65536 : Int); exact om_10c3df62 h33.2 h33.1 p34 p35 h36) rfl (by decide +kernel) ?_
      intro I37 hS38 e39 f40
      refine tr_aload_n dX10_seed_34 rfl ?_
      refine q_callVi hE (M' := mX10_allowed) (as := []) dX10_seed_35 lk10_291 inX10_allowed seX10_allowed myX10_allowed (by decide) ⟨by decide, by decide⟩ rfl (kR1 hS38.1 ta0) (Nat.le_of_ble_eq_true rfl) rfl rfl (by decide) (by decide) (fk_X10_allowed hS38.1  ta0) ?_
      rintro v46 cn' K' N' I41 R42 L43 ⟨rfl, rfl, rfl, rfl, rfl, g44, h47, p48, p49, -⟩
      have hS50 := hS38.tr g44 (by decide +kernel) (by decide +kernel)
      have c51 : I41 a6 1 = x1 := (g44.cell ta6 (by decide +kernel)).trans e39
      obtain ⟨v52, c53⟩ : ∃ v, I41 a0 17 = v := ⟨_, rfl⟩
      rw [c53] at p49
      exact tr_zret hZ dX10_seed_38 rfl (ti_b01 (by exact om_f9079521 p48) (by exact om_e6632817 p48)) (by decide) (by decide) ⟨v46, rfl, rfl, rfl, rfl, rfl, rfl, hS50, (by exact om_be53a44c h47), (Or.inr (Or.inr (⟨(by (try rw [c2]); first | done | with_reducible assumption | exact om_7a88fee0 b3.2 b3.1 h26 h33.2 h33.1 p34 p35 h36), (by first | done | with_reducible assumption | exact om_33db202d h33.2 h33.1 p34 p35 h36), (by first | done | with_reducible assumption | exact om_55230cc1 h33.2 h33.1 p34 p35 h36), (by first | done | with_reducible assumption | omega), (fun q0 z0 => by obtain rfl := Option.some.inj ((d7).symm.trans z0); (try rw [c51]); first | done | with_reducible assumption | omega), trivial⟩))), trivial⟩
    · skip
      refine tr_aload_n dX10_seed_20 rfl ?_
      refine q_iconst dX10_seed_21 (by decide) ?_
      intro v54 h55
      refine q_callVi hE (M' := mX10_refusedAct) (as := [_]) dX10_seed_22 lk10_281 inX10_refusedAct seX10_refusedAct myX10_refusedAct (by decide) ⟨by decide, by decide⟩ rfl (kR1 hS0.1 ta0) (Nat.le_of_ble_eq_true rfl) rfl rfl (by decide) (by decide) (fk_X10_refusedAct hS0.1  ta0) ?_
      rintro v61 cn' K' N' I56 R57 L58 ⟨rfl, rfl, rfl, rfl, rfl, g59, h62, p63, p64, -⟩
      have hS65 := hS0.tr g59 (by decide +kernel) (by decide +kernel)
      have c66 : I56 a6 1 = v20 := (g59.cell ta6 (by decide +kernel)).trans c21
      obtain ⟨v67, c68⟩ : ∃ v, I56 a0 17 = v := ⟨_, rfl⟩
      rw [c68] at p64
      exact tr_zret hZ dX10_seed_25 rfl (ti_b01 (by exact om_d99fa9e4 p63) (by exact om_d3de7ec9 p63)) (by decide) (by decide) ⟨v61, rfl, rfl, rfl, rfl, rfl, rfl, hS65, (by exact om_be53a44c h62), (Or.inr (Or.inl ⟨(by (try rw [c2]); first | done | with_reducible assumption | exact om_d7503d19 b3.2 b3.1 h26 p34 p35 h36), (by first | done | with_reducible assumption | exact om_836e5c5e p35 h36), (by first | done | with_reducible assumption | omega), ⟨rfl, fun a j h => by rcases h with h | h | h | h | h | h | h; exact (g59.cell h (wm_no (by decide +kernel))); exact (g59.cell h (wm_no (by decide +kernel))); exact (g59.cell h (wm_no (by decide +kernel))); exact (g59.cell h (wm_no (by decide +kernel))); exact (g59.cell h (wm_no (by decide +kernel))); exact (g59.cell h (wm_no (by decide +kernel))); exact (g59.cell h (wm_no (by decide +kernel)))⟩, trivial⟩)), trivial⟩
  · skip
    refine tr_aload_n dX10_seed_7 rfl ?_
    refine q_iconst dX10_seed_8 (by decide) ?_
    intro v69 h70
    refine q_callVi hE (M' := mX10_refusedAct) (as := [_]) dX10_seed_9 lk10_281 inX10_refusedAct seX10_refusedAct myX10_refusedAct (by decide) ⟨by decide, by decide⟩ rfl (kR1 hS0.1 ta0) (Nat.le_of_ble_eq_true rfl) rfl rfl (by decide) (by decide) (fk_X10_refusedAct hS0.1  ta0) ?_
    rintro v76 cn' K' N' I71 R72 L73 ⟨rfl, rfl, rfl, rfl, rfl, g74, h77, p78, p79, -⟩
    have hS80 := hS0.tr g74 (by decide +kernel) (by decide +kernel)
    have c81 : I71 a6 1 = v20 := (g74.cell ta6 (by decide +kernel)).trans c21
    obtain ⟨v82, c83⟩ : ∃ v, I71 a0 17 = v := ⟨_, rfl⟩
    rw [c83] at p79
    exact tr_zret hZ dX10_seed_12 rfl (ti_b01 (by exact om_d99fa9e4 p78) (by exact om_d3de7ec9 p78)) (by decide) (by decide) ⟨v76, rfl, rfl, rfl, rfl, rfl, rfl, hS80, (by exact om_be53a44c h77), (Or.inl ⟨(by (try rw [c2]); first | done | with_reducible assumption | omega), (by first | done | with_reducible assumption | omega), ⟨rfl, fun a j h => by rcases h with h | h | h | h | h | h | h; exact (g74.cell h (wm_no (by decide +kernel))); exact (g74.cell h (wm_no (by decide +kernel))); exact (g74.cell h (wm_no (by decide +kernel))); exact (g74.cell h (wm_no (by decide +kernel))); exact (g74.cell h (wm_no (by decide +kernel))); exact (g74.cell h (wm_no (by decide +kernel))); exact (g74.cell h (wm_no (by decide +kernel)))⟩, trivial⟩), trivial⟩
def wik_X3_become_1 : List Nat := [512, 513, 514, 1791, 1855]
def wrk_X3_become_1 : List Nat := []
set_option maxHeartbeats 4000000 in
theorem fk_X3_become_1 {l : Launch} {T : Nat → Nat} {cn : Nat} {K N : Nat → Nat} {I0 : cz_I} {R0 : cz_R} {L0 : cz_L} {d : Int} (hW0 : Wf T cn K N I0 R0 d)  {a0 : Nat} (ta0 : T a0 = 8) {a1 : Nat} (ta1 : T a1 = 10) : ConE l mX3_become [.ref a0, .ref a1] cn K N I0 R0 L0 (ca_v (fun cn' K' N' I' R' L' => cn = cn' ∧ K = K' ∧ N = N' ∧ R0 = R' ∧ L0 = L' ∧ St T cn K N d wik_X3_become_1 wrk_X3_become_1 I0 R0 I' R0 ∧ ((I' a0 0).toInt = (I0 a1 0).toInt) ∧ ((I' a0 1).toInt = (I0 a1 1).toInt) ∧ ((I' a0 2).toInt = (I0 a1 2).toInt) ∧ (RwC I0 R0 I' a0 a1 (I0 a1 2).toInt) ∧ True)) := by
  refine ConE.of (by decide +kernel) rfl (Nat.le_of_ble_eq_true rfl) rfl (fun X hX hZ hE => ?_)
  subst hX
  have hS0 : St T cn K N d wik_X3_become_1 wrk_X3_become_1 I0 R0 I0 R0 := St.rf0 hW0
  obtain ⟨v1, c2⟩ : ∃ v, I0 a1 0 = v := ⟨_, rfl⟩
  obtain ⟨v3, c4⟩ : ∃ v, I0 a1 1 = v := ⟨_, rfl⟩
  have b5 := iv10_1 hW0 ta1 c4
  obtain ⟨v6, c7⟩ : ∃ v, I0 a1 2 = v := ⟨_, rfl⟩
  have b8 := iv10_2 hW0 ta1 c7
  obtain ⟨a9, d10, ta9⟩ := rf8_3 hW0 ta0
  obtain ⟨a11, d12, ta11⟩ := rf8_4 hW0 ta0
  obtain ⟨a13, d14, ta13⟩ := rf10_3 hW0 ta1
  obtain ⟨a15, d16, ta15⟩ := rf10_4 hW0 ta1
  refine tr_aload_n dX3_become_0 rfl ?_
  refine tr_aload_n dX3_become_1 rfl ?_
  refine q_getI dX3_become_2 fl3_18 (kR10 hS0.1 ta1) c2 ?_
  refine q_putI dX3_become_5 fl3_18 (kR8 hS0.1 ta0) (Or.inl rfl) hS0 ta0 (iokF rfl) rfl (by decide +kernel) ?_
  intro I17 hS18 e19 f20
  refine tr_aload_n dX3_become_8 rfl ?_
  refine tr_aload_n dX3_become_9 rfl ?_
  refine q_getI dX3_become_10 fl3_22 (kR10 hS18.1 ta1) ((hS18.cell ta1 (by decide +kernel)).trans c4) ?_
  refine q_putI dX3_become_13 fl3_22 (kR8 hS18.1 ta0) (Or.inl rfl) hS18 ta0 (by show (0 : Int) ≤ v3.toInt ∧ v3.toInt ≤ (65536 : Int); exact om_fc33552b b5) rfl (by decide +kernel) ?_
  intro I21 hS22 e23 f24
  have c25 : I21 a0 0 = v1 := (f24 _ _ (fun q => absurd q.2 (by decide))).trans e19
  refine tr_aload_n dX3_become_16 rfl ?_
  refine tr_aload_n dX3_become_17 rfl ?_
  refine q_getI dX3_become_18 fl3_25 (kR10 hS22.1 ta1) ((hS22.cell ta1 (by decide +kernel)).trans c7) ?_
  refine q_putI dX3_become_21 fl3_25 (kR8 hS22.1 ta0) (Or.inl rfl) hS22 ta0 (by show (0 : Int) ≤ v6.toInt ∧ v6.toInt ≤ (6 : Int); exact om_cafeadf3 b8) rfl (by decide +kernel) ?_
  intro I26 hS27 e28 f29
  have c30 : I26 a0 0 = v1 := (f29 _ _ (fun q => absurd q.2 (by decide))).trans c25
  have c31 : I26 a0 1 = v3 := (f29 _ _ (fun q => absurd q.2 (by decide))).trans e23
  refine q_iconst dX3_become_24 (by decide) ?_
  intro v32 h33
  refine tr_istore_n dX3_become_25 (by decide) (by decide) ?_
  have lp53 : ∀ (fu : Nat) (ls : Nat → Option Value) (v34 : Int32) (I38 : cz_I) (v40 : Int32) (v42 : Int32) (v44 : Int32), ls 0 = some (.ref a0) → ls 1 = some (.ref a1) → ls 2 = some (.int v34) → St T cn K N d wik_X3_become_1 wrk_X3_become_1 I0 R0 I38 R0 → I38 a0 0 = v40 → I38 a0 1 = v42 → I38 a0 2 = v44 → v40.toInt = v1.toInt → v42.toInt = v3.toInt → v44.toInt = v6.toInt → 0 ≤ v34.toInt → (RwC I0 R0 I38 a0 a1 v34.toInt) → True → True → (-v34.toInt + 2147483647).toNat < fu → Tr X mX3_become 26 ls [] cn K N I38 R0 L0 0 0 := by
    intro fu
    induction fu with
    | zero => intros; rename_i hz; exact absurd hz (Nat.not_lt_zero _)
    | succ fu ih53 =>
      intro ls v34 I38 v40 v42 v44 hl35 hl36 hl37 hS39 c41 c43 c45 g46 g47 g48 g49 rw50 rw51 rw52 hm53
      have b55 := iv8_1 hS39.1 ta0 c43
      have b56 := iv8_2 hS39.1 ta0 c45
      refine tr_iload_n dX3_become_26 hl37 ?_
      refine tr_aload_n dX3_become_27 hl36 ?_
      refine q_getI dX3_become_28 fl3_25 (kR10 hS39.1 ta1) ((hS39.cell ta1 (by decide +kernel)).trans c7) ?_
      refine q_icmp_ge 64 dX3_become_31 (by decide) (fun h57 => ?_) (fun h57 => ?_)
      · skip
        exact tr_vret hZ dX3_become_64 rfl (by decide) (by decide) ⟨rfl, rfl, rfl, rfl, rfl, rfl, hS39, (by (try rw [c41]); (try rw [c2]); first | done | with_reducible assumption | omega), (by (try rw [c43]); (try rw [c4]); first | done | with_reducible assumption | omega), (by (try rw [c45]); (try rw [c7]); first | done | with_reducible assumption | omega), (by rw [c7]; exact RwC.le rw50 (by exact om_97f5682a h57)), trivial⟩
      · skip
        refine tr_aload_n dX3_become_34 hl35 ?_
        refine tr_getR dX3_become_35 fl3_9 (kR8 hS39.1 ta0) d10 ?_
        refine tr_iload_n dX3_become_38 hl37 ?_
        refine tr_aload_n dX3_become_39 hl36 ?_
        refine tr_getR dX3_become_40 fl3_9 (kR10 hS39.1 ta1) d14 ?_
        refine tr_iload_n dX3_become_43 hl37 ?_
        refine q_iald dX3_become_44 (kR31 hS39.1 ta13) (ti_in (nR31 hS39.1 ta13) (by exact om_2cfcd5a5 g49) (by exact om_fcfbe61b b8.2 b8.1 g48 h57)) ?_
        intro v58 c59
        have b60 := iv31 hS39.1 ta13 c59
        refine q_iast dX3_become_45 (kR27 hS39.1 ta9) (ti_in (nR27 hS39.1 ta9) (by exact om_2cfcd5a5 g49) (by exact om_fcfbe61b b8.2 b8.1 g48 h57)) hS39 ta9 (by show (0 : Int) ≤ v58.toInt ∧ v58.toInt ≤ (240 : Int); exact om_d956ef70 b60) rfl (by rfl) ?_
        intro I61 hS62 e64 f63
        have c65 : I61 a0 0 = v40 := (f63 _ _ (fun q => by have z := ta0; rw [q.1, ta9] at z; exact absurd z (by decide))).trans c41
        have c66 : I61 a0 1 = v42 := (f63 _ _ (fun q => by have z := ta0; rw [q.1, ta9] at z; exact absurd z (by decide))).trans c43
        have c67 : I61 a0 2 = v44 := (f63 _ _ (fun q => by have z := ta0; rw [q.1, ta9] at z; exact absurd z (by decide))).trans c45
        refine tr_aload_n dX3_become_46 hl35 ?_
        refine tr_getR dX3_become_47 fl3_15 (kR8 hS62.1 ta0) d12 ?_
        refine tr_iload_n dX3_become_50 hl37 ?_
        refine tr_aload_n dX3_become_51 hl36 ?_
        refine tr_getR dX3_become_52 fl3_15 (kR10 hS62.1 ta1) d16 ?_
        refine tr_iload_n dX3_become_55 hl37 ?_
        refine q_iald dX3_become_56 (kR32 hS62.1 ta15) (ti_in (nR32 hS62.1 ta15) (by exact om_2cfcd5a5 g49) (by exact om_fcfbe61b b8.2 b8.1 g48 h57)) ?_
        intro v68 c69
        have b70 := iv32 hS62.1 ta15 c69
        refine q_iast dX3_become_57 (kR28 hS62.1 ta11) (ti_in (nR28 hS62.1 ta11) (by exact om_2cfcd5a5 g49) (by exact om_fcfbe61b b8.2 b8.1 g48 h57)) hS62 ta11 (by show (0 : Int) ≤ v68.toInt ∧ v68.toInt ≤ (240 : Int); exact om_d956ef70 b70) rfl (by rfl) ?_
        intro I71 hS72 e74 f73
        have c75 : I71 a0 0 = v40 := (f73 _ _ (fun q => by have z := ta0; rw [q.1, ta11] at z; exact absurd z (by decide))).trans c65
        have c76 : I71 a0 1 = v42 := (f73 _ _ (fun q => by have z := ta0; rw [q.1, ta11] at z; exact absurd z (by decide))).trans c66
        have c77 : I71 a0 2 = v44 := (f73 _ _ (fun q => by have z := ta0; rw [q.1, ta11] at z; exact absurd z (by decide))).trans c67
        refine q_iincE dX3_become_58 hl37 (by decide) (by decide) (by intro j1 j2; exact om_978e3cdf b8.2 b8.1 g48 g49 h57 j2) ?_
        intro v78 h79
        refine tr_goto 26 dX3_become_61 (by decide) ?_
        exact ih53 _ v78 I71 v40 v42 v44 hl35 hl36 rfl hS72 c75 c76 c77 (by exact om_acd7a85a g46) (by exact om_acd7a85a g47) (by exact om_acd7a85a g48) (by exact om_68881c41 g49 h79) (RwC.stp (ix := v34.toNatClampNeg) rw50 d10 d12 d14 d16 (ti_nat (by exact om_2cfcd5a5 g49)) (by exact om_764ef139 h79) e64 f63 e74 f73 (fun q => by have z := ta9; rw [q, ta11] at z; exact absurd z (by decide)) ((hS39.cell ta13 (wm_no (by decide +kernel))).symm.trans c59) ((hS62.cell ta15 (wm_no (by decide +kernel))).symm.trans c69)) trivial trivial (by exact om_d9b35a09 b8.2 b8.1 g48 g49 hm53 h57 h79)
  exact lp53 _ _ v32 I26 v1 v3 v6 rfl rfl rfl hS27 c30 c31 e28 (by exact om_4ee7209a) (by exact om_4ee7209a) (by exact om_4ee7209a) (by exact om_d99fa9e4 h33) (RwC.z (by exact om_6493ed0e h33)) trivial trivial (Nat.lt_succ_self _)
def wik_X6_takeBack : List Nat := [512, 513, 514, 704, 1791, 1855]
def wrk_X6_takeBack : List Nat := []
set_option maxHeartbeats 4000000 in
theorem fk_X6_takeBack {l : Launch} {T : Nat → Nat} {cn : Nat} {K N : Nat → Nat} {I0 : cz_I} {R0 : cz_R} {L0 : cz_L} {d : Int} (hW0 : Wf T cn K N I0 R0 d)  {a0 : Nat} (ta0 : T a0 = 11) {a1 : Nat} (ta1 : T a1 = 8) : ConE l mX6_takeBack [.ref a0, .ref a1] cn K N I0 R0 L0 (ca_i (fun v cn' K' N' I' R' L' => cn = cn' ∧ K = K' ∧ N = N' ∧ R0 = R' ∧ L0 = L' ∧ St T cn K N d wik_X6_takeBack wrk_X6_takeBack I0 R0 I' R0 ∧ (0 ≤ v.toInt ∧ v.toInt ≤ 1) ∧ ((((I0 a0 0).toInt = 0) ∧ (v.toInt = 0) ∧ (SmC T I0 R0 I' R0) ∧ True) ∨ (((I0 a0 0).toInt ≥ 1) ∧ (v.toInt = 1) ∧ ((I' a0 0).toInt = (I0 a0 0).toInt - 1) ∧ (∀ A, R0 a0 1 = some A → BkC I0 R0 I' A a1 ((I0 a0 0).toInt - 1).toNat) ∧ True)) ∧ True)) := by
  refine ConE.of (by decide +kernel) rfl (Nat.le_of_ble_eq_true rfl) rfl (fun X hX hZ hE => ?_)
  subst hX
  have hS0 : St T cn K N d wik_X6_takeBack wrk_X6_takeBack I0 R0 I0 R0 := St.rf0 hW0
  obtain ⟨v1, c2⟩ : ∃ v, I0 a0 0 = v := ⟨_, rfl⟩
  have b3 := iv11_0 hS0.1 ta0 c2
  obtain ⟨a4, d5, ta4⟩ := rf11_1 hW0 ta0
  obtain ⟨a6, d7, ta6⟩ := rf11_3 hW0 ta0
  obtain ⟨v8, c9⟩ : ∃ v, I0 a0 2 = v := ⟨_, rfl⟩
  have b10 := iv11_2 hW0 ta0 c9
  obtain ⟨v11, c12⟩ : ∃ v, I0 a1 0 = v := ⟨_, rfl⟩
  obtain ⟨v13, c14⟩ : ∃ v, I0 a1 1 = v := ⟨_, rfl⟩
  have b15 := iv8_1 hS0.1 ta1 c14
  obtain ⟨v16, c17⟩ : ∃ v, I0 a1 2 = v := ⟨_, rfl⟩
  have b18 := iv8_2 hS0.1 ta1 c17
  refine tr_aload_n dX6_takeBack_0 rfl ?_
  refine q_getI dX6_takeBack_1 fl6_21 (kR11 hS0.1 ta0) c2 ?_
  refine q_if_ne 9 dX6_takeBack_4 (by decide) (fun h19 => ?_) (fun h19 => ?_)
  · skip
    refine tr_aload_n dX6_takeBack_9 rfl ?_
    refine tr_dup dX6_takeBack_10 rfl ?_
    refine q_getI dX6_takeBack_11 fl6_21 (kR11 hS0.1 ta0) c2 ?_
    refine q_iconst dX6_takeBack_14 (by decide) ?_
    intro v20 h21
    refine q_isubE dX6_takeBack_15 (by intro j1 j2 j3 j4; exact om_7c03527b b3.2 b3.1 h21) ?_
    intro v22 h23
    refine q_putI dX6_takeBack_16 fl6_21 (kR11 hS0.1 ta0) (Or.inl rfl) hS0 ta0 (by show (0 : Int) ≤ v22.toInt ∧ v22.toInt ≤ (12 : Int); exact om_72140644 b3.2 b3.1 h19 h21 h23) rfl (by decide +kernel) ?_
    intro I24 hS25 e26 f27
    have c28 : I24 a1 0 = v11 := (f27 _ _ (fun q => by have z := ta1; rw [q.1, ta0] at z; exact absurd z (by decide))).trans c12
    have c29 : I24 a1 1 = v13 := (f27 _ _ (fun q => absurd q.2 (by decide))).trans c14
    have c30 : I24 a1 2 = v16 := (f27 _ _ (fun q => absurd q.2 (by decide))).trans c17
    refine tr_aload_n dX6_takeBack_19 rfl ?_
    refine tr_aload_n dX6_takeBack_20 rfl ?_
    refine tr_getR dX6_takeBack_21 fl6_11 (kR11 hS25.1 ta0) d5 ?_
    refine tr_aload_n dX6_takeBack_24 rfl ?_
    refine q_getI dX6_takeBack_25 fl6_21 (kR11 hS25.1 ta0) e26 ?_
    obtain ⟨a31, d32, ta31⟩ := rf33 hS25.1 ta4 (j := v22.toNatClampNeg) (ti_lt (by exact om_66bfef5d b3.2 b3.1 h19 h21 h23) (by exact om_83e42569 b3.2 b3.1 h21 h23))
    refine tr_aald dX6_takeBack_28 (kR33 hS25.1 ta4) (by decide) (by decide) (ti_in (nR33 hS25.1 ta4) (by exact om_66bfef5d b3.2 b3.1 h19 h21 h23) (by exact om_83e42569 b3.2 b3.1 h21 h23)) d32 ?_
    obtain ⟨a33, d34, ta33⟩ := rf8_3 hW0 ta1
    obtain ⟨a35, d36, ta35⟩ := rf8_4 hW0 ta1
    obtain ⟨a37, d38, ta37⟩ := rf10_3 hW0 ta31
    obtain ⟨a39, d40, ta39⟩ := rf10_4 hW0 ta31
    obtain ⟨v41, c42⟩ : ∃ v, I0 a31 2 = v := ⟨_, rfl⟩
    have b43 := iv10_2 hW0 ta31 c42
    obtain ⟨v44, c45⟩ : ∃ v, I0 a31 0 = v := ⟨_, rfl⟩
    obtain ⟨v46, c47⟩ : ∃ v, I0 a31 1 = v := ⟨_, rfl⟩
    have b48 := iv10_1 hW0 ta31 c47
    refine q_callVv hE (M' := mX3_become) (as := [_]) dX6_takeBack_29 lk6_31 inX3_become seX3_become myX3_become (by decide) ⟨by decide, by decide⟩ rfl (kR8 hS25.1 ta1) (Nat.le_of_ble_eq_true rfl) rfl rfl (by decide) (by decide) (fk_X3_become_1 hS25.1  ta1 ta31) ?_
    rintro cn' K' N' I49 R50 L51 ⟨rfl, rfl, rfl, rfl, rfl, g52, p55, p56, p57, rp58, -⟩
    have hS59 := hS25.tr g52 (by decide +kernel) (by decide +kernel)
    have c60 : I49 a0 0 = v22 := (g52.cell ta0 (by decide +kernel)).trans e26
    obtain ⟨v61, c62⟩ : ∃ v, I49 a1 0 = v := ⟨_, rfl⟩
    rw [c62] at p55
    rw [((hS25.cell ta31 (by decide +kernel)).trans c45)] at p55
    obtain ⟨v63, c64⟩ : ∃ v, I49 a1 1 = v := ⟨_, rfl⟩
    have b65 := iv8_1 hS59.1 ta1 c64
    rw [c64] at p56
    rw [((hS25.cell ta31 (by decide +kernel)).trans c47)] at p56
    obtain ⟨v66, c67⟩ : ∃ v, I49 a1 2 = v := ⟨_, rfl⟩
    have b68 := iv8_2 hS59.1 ta1 c67
    rw [c67] at p57
    rw [((hS25.cell ta31 (by decide +kernel)).trans c42)] at p57
    refine q_iconst dX6_takeBack_32 (by decide) ?_
    intro v69 h70
    exact tr_zret hZ dX6_takeBack_33 rfl (ti_b01 (by exact om_f9079521 h70) (by exact om_e6632817 h70)) (by decide) (by decide) ⟨v69, rfl, rfl, rfl, rfl, rfl, rfl, hS59, (by exact om_d753bc65 h70), (Or.inr (⟨(by (try rw [c2]); first | done | with_reducible assumption | exact om_edfa4314 b3.2 b3.1 h19 h21 h23), (by first | done | with_reducible assumption | omega), (by (try rw [c60]); (try rw [c2]); first | done | with_reducible assumption | exact om_d85062b9 h21 h23), (fun A hA h hh => by obtain rfl := Option.some.inj (d5.symm.trans hA); have z := d32; rw [show v22.toNatClampNeg = ((I0 a0 0).toInt - 1).toNat by (rw [c2]; show Int.toNat _ = _; congr 1; exact om_d85062b9 h21 h23)] at z; obtain rfl := Option.some.inj (z.symm.trans hh); exact ⟨by rw [c62, c45]; exact om_acd7a85a p55, by rw [c64, c47]; exact om_acd7a85a p56, by rw [c67, c42]; exact om_acd7a85a p57, (RwC.cv rp58 (fun j => rfl) (fun j => rfl) (fun g k h => by rcases h with h | h; (have th : T g = 31 := (hS25.1).rs ta31 rfl rfl h); exact ((f27 _ _ (fun q => by have z := th; rw [q.1, ta0] at z; exact absurd z (by decide)))).symm; (have th : T g = 32 := (hS25.1).rs ta31 rfl rfl h); exact ((f27 _ _ (fun q => by have z := th; rw [q.1, ta0] at z; exact absurd z (by decide)))).symm) (fun g k h => by rcases h with h | h; (have th : T g = 27 := (hS25.1).rs ta1 rfl rfl h); exact rfl; (have th : T g = 28 := (hS25.1).rs ta1 rfl rfl h); exact rfl) (by rw [c42]; first | done | exact congrArg Int32.toInt ((((hS25.cell ta31 (by decide +kernel)).trans c42)).symm)))⟩), trivial⟩)), trivial⟩
  · skip
    refine q_iconst dX6_takeBack_7 (by decide) ?_
    intro v71 h72
    exact tr_zret hZ dX6_takeBack_8 rfl (ti_b01 (by exact om_d99fa9e4 h72) (by exact om_d3de7ec9 h72)) (by decide) (by decide) ⟨v71, rfl, rfl, rfl, rfl, rfl, rfl, hS0, (by exact om_3b50ecb9 h72), (Or.inl ⟨(by (try rw [c2]); first | done | with_reducible assumption | omega), (by first | done | with_reducible assumption | omega), ⟨rfl, fun a j h => by rcases h with h | h | h | h | h | h | h; exact rfl; exact rfl; exact rfl; exact rfl; exact rfl; exact rfl; exact rfl⟩, trivial⟩), trivial⟩
def wik_X10_undo : List Nat := [73, 75, 81, 512, 513, 514, 704, 1791, 1855]
def wrk_X10_undo : List Nat := []
def Cs_X10_undo (T : Nat → Nat) (I0 : cz_I) (R0 : cz_R) (a0 : Nat) (v : Int32) (I' : cz_I) (R' : cz_R) : Prop :=
  ((∀ b1, R0 a0 7 = some b1 → (I0 b1 0).toInt = 0) ∧ (v.toInt = 0) ∧ (SmC T I0 R0 I' R0) ∧ ((I' a0 9).toInt = (I0 a0 9).toInt) ∧ True) ∨
  ((∀ b1, R0 a0 7 = some b1 → (I0 b1 0).toInt ≥ 1) ∧ (v.toInt = 1) ∧ (∀ b1, R0 a0 7 = some b1 → (I' b1 0).toInt = (I0 b1 0).toInt - 1) ∧ (∀ nw pa A, R0 a0 6 = some nw → R0 a0 7 = some pa → R0 pa 1 = some A → BkC I0 R0 I' A nw ((I0 pa 0).toInt - 1).toNat) ∧ ((I' a0 9).toInt = 0) ∧ True)
set_option maxHeartbeats 4000000 in
theorem fk_X10_undo {l : Launch} {T : Nat → Nat} {cn : Nat} {K N : Nat → Nat} {I0 : cz_I} {R0 : cz_R} {L0 : cz_L} {d : Int} (hW0 : Wf T cn K N I0 R0 d)  {a0 : Nat} (ta0 : T a0 = 1) : ConE l mX10_undo [.ref a0] cn K N I0 R0 L0 (ca_i (fun v cn' K' N' I' R' L' => cn = cn' ∧ K = K' ∧ N = N' ∧ R0 = R' ∧ L0 = L' ∧ St T cn K N d wik_X10_undo wrk_X10_undo I0 R0 I' R0 ∧ (0 ≤ v.toInt ∧ v.toInt ≤ 1) ∧ Cs_X10_undo T I0 R0 a0 v I' R0 ∧ True)) := by
  refine ConE.of (by decide +kernel) rfl (Nat.le_of_ble_eq_true rfl) rfl (fun X hX hZ hE => ?_)
  subst hX
  have hS0 : St T cn K N d wik_X10_undo wrk_X10_undo I0 R0 I0 R0 := St.rf0 hW0
  obtain ⟨a1, d2, ta1⟩ := rf1_7 hW0 ta0
  obtain ⟨v3, c4⟩ : ∃ v, I0 a1 0 = v := ⟨_, rfl⟩
  have b5 := iv11_0 hS0.1 ta1 c4
  obtain ⟨v6, c7⟩ : ∃ v, I0 a0 9 = v := ⟨_, rfl⟩
  have b8 := iv1_9 hS0.1 ta0 c7
  obtain ⟨a9, d10, ta9⟩ := rf1_6 hW0 ta0
  obtain ⟨a11, d12, ta11⟩ := rf11_1 hW0 ta1
  obtain ⟨a13, d14, ta13⟩ := rf11_3 hW0 ta1
  obtain ⟨v15, c16⟩ : ∃ v, I0 a1 2 = v := ⟨_, rfl⟩
  have b17 := iv11_2 hW0 ta1 c16
  obtain ⟨v18, c19⟩ : ∃ v, I0 a9 0 = v := ⟨_, rfl⟩
  obtain ⟨v20, c21⟩ : ∃ v, I0 a9 1 = v := ⟨_, rfl⟩
  have b22 := iv8_1 hS0.1 ta9 c21
  obtain ⟨v23, c24⟩ : ∃ v, I0 a9 2 = v := ⟨_, rfl⟩
  have b25 := iv8_2 hS0.1 ta9 c24
  refine tr_aload_n dX10_undo_0 rfl ?_
  refine tr_getR dX10_undo_1 fl10_42 (kR1 hS0.1 ta0) d2 ?_
  refine tr_aload_n dX10_undo_4 rfl ?_
  refine tr_getR dX10_undo_5 fl10_35 (kR1 hS0.1 ta0) d10 ?_
  refine q_callVi hE (M' := mX6_takeBack) (as := [_]) dX10_undo_8 lk10_299 inX6_takeBack seX6_takeBack myX6_takeBack (by decide) ⟨by decide, by decide⟩ rfl (kR11 hS0.1 ta1) (Nat.le_of_ble_eq_true rfl) rfl rfl (by decide) (by decide) (fk_X6_takeBack hS0.1  ta1 ta9) ?_
  rintro v31 cn' K' N' I26 R27 L28 ⟨rfl, rfl, rfl, rfl, rfl, g29, h32, dj33, -⟩
  have hS34 := hS0.tr g29 (by decide +kernel) (by decide +kernel)
  have c35 : I26 a0 9 = v6 := (g29.cell ta0 (by decide +kernel)).trans c7
  rcases dj33 with ⟨p36, p37, rp38, -⟩ | ⟨p39, p40, p41, rp42, -⟩
  · skip
    rw [c4] at p36
    refine q_if_ne 21 dX10_undo_11 (by decide) (fun h43 => ?_) (fun h43 => ?_)
    · skip
      exfalso; exact om_3a97d4a5 p37 h43
    · skip
      refine tr_aload_n dX10_undo_14 rfl ?_
      refine q_bipush dX10_undo_15 (by decide +kernel) ?_
      intro v44 h45
      refine q_callVi hE (M' := mX10_refusedAct) (as := [_]) dX10_undo_17 lk10_281 inX10_refusedAct seX10_refusedAct myX10_refusedAct (by decide) ⟨by decide, by decide⟩ rfl (kR1 hS34.1 ta0) (Nat.le_of_ble_eq_true rfl) rfl rfl (by decide) (by decide) (fk_X10_refusedAct hS34.1  ta0) ?_
      rintro v51 cn' K' N' I46 R47 L48 ⟨rfl, rfl, rfl, rfl, rfl, g49, h52, p53, p54, -⟩
      have hS55 := hS34.tr g49 (by decide +kernel) (by decide +kernel)
      have c56 : I46 a0 9 = v6 := (g49.cell ta0 (by decide +kernel)).trans c35
      obtain ⟨v57, c58⟩ : ∃ v, I46 a0 17 = v := ⟨_, rfl⟩
      rw [c58] at p54
      obtain ⟨v59, c60⟩ : ∃ v, I46 a1 0 = v := ⟨_, rfl⟩
      have b61 := iv11_0 hS55.1 ta1 c60
      exact tr_zret hZ dX10_undo_20 rfl (ti_b01 (by exact om_d99fa9e4 p53) (by exact om_d3de7ec9 p53)) (by decide) (by decide) ⟨v51, rfl, rfl, rfl, rfl, rfl, rfl, hS55, (by exact om_be53a44c h52), (Or.inl ⟨(fun q0 z0 => by obtain rfl := Option.some.inj ((d2).symm.trans z0); (try rw [c4]); first | done | with_reducible assumption | omega), (by first | done | with_reducible assumption | omega), (SmC.kp rp38 (fun a j h => by rcases h with h | h | h | h | h | h | h; exact (g49.cell h (wm_no (by decide +kernel))); exact (g49.cell h (wm_no (by decide +kernel))); exact (g49.cell h (wm_no (by decide +kernel))); exact (g49.cell h (wm_no (by decide +kernel))); exact (g49.cell h (wm_no (by decide +kernel))); exact (g49.cell h (wm_no (by decide +kernel))); exact (g49.cell h (wm_no (by decide +kernel))))), (by rw [c56, c7]; first | done | omega), trivial⟩), trivial⟩
  · skip
    rw [c4] at p39
    obtain ⟨v62, c63⟩ : ∃ v, I26 a1 0 = v := ⟨_, rfl⟩
    have b64 := iv11_0 hS34.1 ta1 c63
    rw [c63] at p41
    rw [c4] at p41
    refine q_if_ne 21 dX10_undo_11 (by decide) (fun h65 => ?_) (fun h65 => ?_)
    · skip
      refine tr_aload_n dX10_undo_21 rfl ?_
      refine q_callVv hE (M' := mX10_cloudsMoved) (as := []) dX10_undo_22 lk10_103 inX10_cloudsMoved seX10_cloudsMoved myX10_cloudsMoved (by decide) ⟨by decide, by decide⟩ rfl (kR1 hS34.1 ta0) (Nat.le_of_ble_eq_true rfl) rfl rfl (by decide) (by decide) (fk_X10_cloudsMoved hS34.1  ta0) ?_
      rintro cn' K' N' I66 R67 L68 ⟨rfl, rfl, rfl, rfl, rfl, g69, p72, p73, -⟩
      have hS74 := hS34.tr g69 (by decide +kernel) (by decide +kernel)
      have c75 : I66 a1 0 = v62 := (g69.cell ta1 (by decide +kernel)).trans c63
      obtain ⟨v76, c77⟩ : ∃ v, I66 a0 9 = v := ⟨_, rfl⟩
      have b78 := iv1_9 hS74.1 ta0 c77
      rw [c77] at p72
      obtain ⟨v79, c80⟩ : ∃ v, I66 a0 11 = v := ⟨_, rfl⟩
      have b81 := iv1_11 hS74.1 ta0 c80
      rw [c80] at p73
      refine tr_aload_n dX10_undo_25 rfl ?_
      refine q_callVi hE (M' := mX10_allowed) (as := []) dX10_undo_26 lk10_291 inX10_allowed seX10_allowed myX10_allowed (by decide) ⟨by decide, by decide⟩ rfl (kR1 hS74.1 ta0) (Nat.le_of_ble_eq_true rfl) rfl rfl (by decide) (by decide) (fk_X10_allowed hS74.1  ta0) ?_
      rintro v87 cn' K' N' I82 R83 L84 ⟨rfl, rfl, rfl, rfl, rfl, g85, h88, p89, p90, -⟩
      have hS91 := hS74.tr g85 (by decide +kernel) (by decide +kernel)
      have c92 : I82 a1 0 = v62 := (g85.cell ta1 (by decide +kernel)).trans c75
      have c93 : I82 a0 9 = v76 := (g85.cell ta0 (by decide +kernel)).trans c77
      have c94 : I82 a0 11 = v79 := (g85.cell ta0 (by decide +kernel)).trans c80
      obtain ⟨v95, c96⟩ : ∃ v, I82 a0 17 = v := ⟨_, rfl⟩
      rw [c96] at p90
      exact tr_zret hZ dX10_undo_29 rfl (ti_b01 (by exact om_f9079521 p89) (by exact om_e6632817 p89)) (by decide) (by decide) ⟨v87, rfl, rfl, rfl, rfl, rfl, rfl, hS91, (by exact om_be53a44c h88), (Or.inr (⟨(fun q0 z0 => by obtain rfl := Option.some.inj ((d2).symm.trans z0); (try rw [c4]); first | done | with_reducible assumption | omega), (by first | done | with_reducible assumption | omega), (fun q0 z0 => by obtain rfl := Option.some.inj ((d2).symm.trans z0); (try rw [c92]); (try rw [c4]); first | done | with_reducible assumption | omega), (fun nw pa A h1 h2 h3 => by obtain rfl := Option.some.inj (d10.symm.trans h1); obtain rfl := Option.some.inj (d2.symm.trans h2); obtain rfl := Option.some.inj (d12.symm.trans h3); exact BkC.kp (rp42 _ d12) (fun j => ((g85.cell ta9 (wm_no (by decide +kernel))).trans (g69.cell ta9 (wm_no (by decide +kernel))))) (fun a j h => by rcases h with h | h; (have th : T a = 27 := hW0.rs ta9 rfl rfl h); exact ((g85.cell th (wm_no (by decide +kernel))).trans (g69.cell th (wm_no (by decide +kernel)))); (have th : T a = 28 := hW0.rs ta9 rfl rfl h); exact ((g85.cell th (wm_no (by decide +kernel))).trans (g69.cell th (wm_no (by decide +kernel)))))), (by rw [c93]; exact om_29f55913 p72), trivial⟩)), trivial⟩
    · skip
      exfalso; exact om_3624102b p40 h65
def wik_X6_keepMark : List Nat := [640, 641, 642, 706, 2047, 2111]
def wrk_X6_keepMark : List Nat := []
set_option maxHeartbeats 4000000 in
theorem fk_X6_keepMark {l : Launch} {T : Nat → Nat} {cn : Nat} {K N : Nat → Nat} {I0 : cz_I} {R0 : cz_R} {L0 : cz_L} {d : Int} (hW0 : Wf T cn K N I0 R0 d)  {a0 : Nat} (ta0 : T a0 = 11) {a1 : Nat} (ta1 : T a1 = 8) : ConE l mX6_keepMark [.ref a0, .ref a1] cn K N I0 R0 L0 (ca_i (fun v cn' K' N' I' R' L' => cn = cn' ∧ K = K' ∧ N = N' ∧ R0 = R' ∧ L0 = L' ∧ St T cn K N d wik_X6_keepMark wrk_X6_keepMark I0 R0 I' R0 ∧ ((((I0 a0 2).toInt = 3) ∧ (v.toInt = -1) ∧ (SmC T I0 R0 I' R0) ∧ True) ∨ (((I0 a0 2).toInt ≤ 2) ∧ (v.toInt = (I0 a0 2).toInt) ∧ ((I' a0 2).toInt = (I0 a0 2).toInt + 1) ∧ (∀ A, R0 a0 3 = some A → MkC T I0 R0 I' A a1 (I0 a0 2).toInt.toNat) ∧ True)) ∧ True)) := by
  refine ConE.of (by decide +kernel) rfl (Nat.le_of_ble_eq_true rfl) rfl (fun X hX hZ hE => ?_)
  subst hX
  have hS0 : St T cn K N d wik_X6_keepMark wrk_X6_keepMark I0 R0 I0 R0 := St.rf0 hW0
  obtain ⟨v1, c2⟩ : ∃ v, I0 a0 2 = v := ⟨_, rfl⟩
  have b3 := iv11_2 hS0.1 ta0 c2
  obtain ⟨a4, d5, ta4⟩ := rf11_1 hW0 ta0
  obtain ⟨a6, d7, ta6⟩ := rf11_3 hW0 ta0
  obtain ⟨v8, c9⟩ : ∃ v, I0 a0 0 = v := ⟨_, rfl⟩
  have b10 := iv11_0 hW0 ta0 c9
  obtain ⟨v11, c12⟩ : ∃ v, I0 a1 0 = v := ⟨_, rfl⟩
  obtain ⟨v13, c14⟩ : ∃ v, I0 a1 1 = v := ⟨_, rfl⟩
  have b15 := iv8_1 hW0 ta1 c14
  obtain ⟨v16, c17⟩ : ∃ v, I0 a1 2 = v := ⟨_, rfl⟩
  have b18 := iv8_2 hW0 ta1 c17
  refine tr_aload_n dX6_keepMark_0 rfl ?_
  refine q_getI dX6_keepMark_1 fl6_25 (kR11 hS0.1 ta0) c2 ?_
  refine q_iconst dX6_keepMark_4 (by decide) ?_
  intro v19 h20
  refine q_icmp_ne 10 dX6_keepMark_5 (by decide) (fun h21 => ?_) (fun h21 => ?_)
  · skip
    refine tr_aload_n dX6_keepMark_10 rfl ?_
    refine tr_getR dX6_keepMark_11 fl6_17 (kR11 hS0.1 ta0) d7 ?_
    refine tr_aload_n dX6_keepMark_14 rfl ?_
    refine q_getI dX6_keepMark_15 fl6_25 (kR11 hS0.1 ta0) c2 ?_
    obtain ⟨a22, d23, ta22⟩ := rf34 hS0.1 ta6 (j := v1.toNatClampNeg) (ti_lt (by exact om_7ab14413 b3.2 b3.1) (by exact om_4969980a b3.2 b3.1 h20 h21))
    refine tr_aald dX6_keepMark_18 (kR34 hS0.1 ta6) (by decide) (by decide) (ti_in (nR34 hS0.1 ta6) (by exact om_7ab14413 b3.2 b3.1) (by exact om_4969980a b3.2 b3.1 h20 h21)) d23 ?_
    refine tr_aload_n dX6_keepMark_19 rfl ?_
    obtain ⟨a24, d25, ta24⟩ := rf10_3 hW0 ta22
    obtain ⟨a26, d27, ta26⟩ := rf10_4 hW0 ta22
    obtain ⟨a28, d29, ta28⟩ := rf8_3 hW0 ta1
    obtain ⟨a30, d31, ta30⟩ := rf8_4 hW0 ta1
    refine q_callVv hE (M' := mX3_become) (as := [_]) dX6_keepMark_20 lk6_31 inX3_become seX3_become myX3_become (by decide) ⟨by decide, by decide⟩ rfl (kR10 hS0.1 ta22) (Nat.le_of_ble_eq_true rfl) rfl rfl (by decide) (by decide) (fk_X3_become hS0.1  ta22 ta1) ?_
    rintro cn' K' N' I32 R33 L34 ⟨rfl, rfl, rfl, rfl, rfl, g35, p38, p39, p40, rp41, rp42, rp43, rp44, -⟩
    have hS45 := hS0.tr g35 (by decide +kernel) (by decide +kernel)
    have c46 : I32 a0 2 = v1 := (g35.cell ta0 (by decide +kernel)).trans c2
    obtain ⟨v47, c48⟩ : ∃ v, I32 a22 0 = v := ⟨_, rfl⟩
    rw [c48] at p38
    rw [c12] at p38
    obtain ⟨v49, c50⟩ : ∃ v, I32 a22 1 = v := ⟨_, rfl⟩
    have b51 := iv10_1 hS45.1 ta22 c50
    rw [c50] at p39
    rw [c14] at p39
    obtain ⟨v52, c53⟩ : ∃ v, I32 a22 2 = v := ⟨_, rfl⟩
    have b54 := iv10_2 hS45.1 ta22 c53
    rw [c53] at p40
    rw [c17] at p40
    refine tr_aload_n dX6_keepMark_23 rfl ?_
    refine tr_dup dX6_keepMark_24 rfl ?_
    refine q_getI dX6_keepMark_25 fl6_25 (kR11 hS45.1 ta0) c46 ?_
    refine q_iconst dX6_keepMark_28 (by decide) ?_
    intro v55 h56
    refine q_iaddE dX6_keepMark_29 (by intro j1 j2 j3 j4; exact om_86353b21 b3.2 b3.1 h56) ?_
    intro v57 h58
    refine q_putI dX6_keepMark_30 fl6_25 (kR11 hS45.1 ta0) (Or.inl rfl) hS45 ta0 (by show (0 : Int) ≤ v57.toInt ∧ v57.toInt ≤ (3 : Int); exact om_600cb043 b3.2 b3.1 h20 h21 h56 h58) rfl (by decide +kernel) ?_
    intro I59 hS60 e61 f62
    have c63 : I59 a22 0 = v47 := (f62 _ _ (fun q => absurd q.2 (by decide))).trans c48
    have c64 : I59 a22 1 = v49 := (f62 _ _ (fun q => absurd q.2 (by decide))).trans c50
    have c65 : I59 a22 2 = v52 := (f62 _ _ (fun q => by have z := ta22; rw [q.1, ta0] at z; exact absurd z (by decide))).trans c53
    refine tr_aload_n dX6_keepMark_33 rfl ?_
    refine q_getI dX6_keepMark_34 fl6_25 (kR11 hS60.1 ta0) e61 ?_
    refine q_iconst dX6_keepMark_37 (by decide) ?_
    intro v66 h67
    refine q_isubE dX6_keepMark_38 (by intro j1 j2 j3 j4; exact om_13b0d7ee b3.2 b3.1 h56 h58 h67) ?_
    intro v68 h69
    exact tr_iret hZ dX6_keepMark_39 rfl (by decide) (by decide) ⟨v68, rfl, rfl, rfl, rfl, rfl, rfl, hS60, (Or.inr (⟨(by (try rw [c2]); first | done | with_reducible assumption | exact om_581ed98b b3.2 b3.1 h20 h21 h56 h58 h67 h69), (by (try rw [c2]); first | done | with_reducible assumption | exact om_bac1b91d h56 h58 h67 h69), (by (try rw [e61]); (try rw [c2]); first | done | with_reducible assumption | exact om_73462c49 h56 h58), (fun A hA h hh => by obtain rfl := Option.some.inj (d7.symm.trans hA); have z := d23; rw [show v1.toNatClampNeg = (I0 a0 2).toInt.toNat by rw [c2]; rfl] at z; obtain rfl := Option.some.inj (z.symm.trans hh); exact ⟨ta22, (((FrO.rf (r := 10) (dr := a22) (T := T)).tr rp44).put f62 ta0 (Or.inl (by decide))), by rw [c63, c12]; exact om_acd7a85a p38, by rw [c64, c14]; exact om_acd7a85a p39, by rw [c65, c17]; exact om_acd7a85a p40, (fun f hf => (Option.some.inj (d25.symm.trans hf)) ▸ (((FrO.rf (r := 31) (dr := a24) (T := T)).tr (rp42 _ d25)).put f62 ta0 (Or.inl (by decide)))), (fun f hf => (Option.some.inj (d27.symm.trans hf)) ▸ (((FrO.rf (r := 32) (dr := a26) (T := T)).tr (rp43 _ d27)).put f62 ta0 (Or.inl (by decide)))), (RwC.cv rp41 (fun j => rfl) (fun j => rfl) (fun g k h => by rcases h with h | h; (have th : T g = 27 := (hS0.1).rs ta1 rfl rfl h); exact (rfl).symm; (have th : T g = 28 := (hS0.1).rs ta1 rfl rfl h); exact (rfl).symm) (fun g k h => by rcases h with h | h; (have th : T g = 31 := (hS0.1).rs ta22 rfl rfl h); exact (f62 _ _ (fun q => by have z := th; rw [q.1, ta0] at z; exact absurd z (by decide))); (have th : T g = 32 := (hS0.1).rs ta22 rfl rfl h); exact (f62 _ _ (fun q => by have z := th; rw [q.1, ta0] at z; exact absurd z (by decide)))) (by rw [c17]; first | done | exact congrArg Int32.toInt ((c17).symm)))⟩), trivial⟩)), trivial⟩
  · skip
    refine q_iconst dX6_keepMark_8 (by decide) ?_
    intro v70 h71
    exact tr_iret hZ dX6_keepMark_9 rfl (by decide) (by decide) ⟨v70, rfl, rfl, rfl, rfl, rfl, rfl, hS0, (Or.inl ⟨(by (try rw [c2]); first | done | with_reducible assumption | exact om_e7da7805 h20 h21), (by first | done | with_reducible assumption | omega), ⟨rfl, fun a j h => by rcases h with h | h | h | h | h | h | h; exact rfl; exact rfl; exact rfl; exact rfl; exact rfl; exact rfl; exact rfl⟩, trivial⟩), trivial⟩
def wik_X10_mark : List Nat := [81, 640, 641, 642, 706, 2047, 2111]
def wrk_X10_mark : List Nat := []
def Cs_X10_mark (T : Nat → Nat) (I0 : cz_I) (R0 : cz_R) (a0 : Nat) (v : Int32) (I' : cz_I) (R' : cz_R) : Prop :=
  (((I0 a0 5).toInt = 0) ∧ (v.toInt = -1) ∧ (SmC T I0 R0 I' R0) ∧ True) ∨
  (((I0 a0 5).toInt = 1) ∧ (∀ b1, R0 a0 7 = some b1 → (I0 b1 2).toInt = 3) ∧ (v.toInt = -1) ∧ (SmC T I0 R0 I' R0) ∧ True) ∨
  (((I0 a0 5).toInt = 1) ∧ (∀ b1, R0 a0 7 = some b1 → (I0 b1 2).toInt ≤ 2) ∧ (∀ b1, R0 a0 7 = some b1 → v.toInt = (I0 b1 2).toInt) ∧ (∀ b1, R0 a0 7 = some b1 → (I' b1 2).toInt = (I0 b1 2).toInt + 1) ∧ (∀ nw pa A, R0 a0 6 = some nw → R0 a0 7 = some pa → R0 pa 3 = some A → MkC T I0 R0 I' A nw (I0 pa 2).toInt.toNat) ∧ True)
set_option maxHeartbeats 4000000 in
theorem fk_X10_mark {l : Launch} {T : Nat → Nat} {cn : Nat} {K N : Nat → Nat} {I0 : cz_I} {R0 : cz_R} {L0 : cz_L} {d : Int} (hW0 : Wf T cn K N I0 R0 d)  {a0 : Nat} (ta0 : T a0 = 1) : ConE l mX10_mark [.ref a0] cn K N I0 R0 L0 (ca_i (fun v cn' K' N' I' R' L' => cn = cn' ∧ K = K' ∧ N = N' ∧ R0 = R' ∧ L0 = L' ∧ St T cn K N d wik_X10_mark wrk_X10_mark I0 R0 I' R0 ∧ Cs_X10_mark T I0 R0 a0 v I' R0 ∧ True)) := by
  refine ConE.of (by decide +kernel) rfl (Nat.le_of_ble_eq_true rfl) rfl (fun X hX hZ hE => ?_)
  subst hX
  have hS0 : St T cn K N d wik_X10_mark wrk_X10_mark I0 R0 I0 R0 := St.rf0 hW0
  obtain ⟨v1, c2⟩ : ∃ v, I0 a0 5 = v := ⟨_, rfl⟩
  have b3 := iv1_5 hW0 ta0 c2
  obtain ⟨a4, d5, ta4⟩ := rf1_7 hW0 ta0
  obtain ⟨v6, c7⟩ : ∃ v, I0 a4 2 = v := ⟨_, rfl⟩
  have b8 := iv11_2 hS0.1 ta4 c7
  obtain ⟨a9, d10, ta9⟩ := rf1_6 hW0 ta0
  obtain ⟨a11, d12, ta11⟩ := rf11_1 hW0 ta4
  obtain ⟨a13, d14, ta13⟩ := rf11_3 hW0 ta4
  obtain ⟨v15, c16⟩ : ∃ v, I0 a4 0 = v := ⟨_, rfl⟩
  have b17 := iv11_0 hW0 ta4 c16
  obtain ⟨v18, c19⟩ : ∃ v, I0 a9 0 = v := ⟨_, rfl⟩
  obtain ⟨v20, c21⟩ : ∃ v, I0 a9 1 = v := ⟨_, rfl⟩
  have b22 := iv8_1 hW0 ta9 c21
  obtain ⟨v23, c24⟩ : ∃ v, I0 a9 2 = v := ⟨_, rfl⟩
  have b25 := iv8_2 hW0 ta9 c24
  refine tr_aload_n dX10_mark_0 rfl ?_
  refine q_getZ dX10_mark_1 fl10_95 (kR1 hS0.1 ta0) c2 ?_
  refine q_if_ne 13 dX10_mark_4 (by decide) (fun h26 => ?_) (fun h26 => ?_)
  · skip
    refine tr_aload_n dX10_mark_13 rfl ?_
    refine tr_getR dX10_mark_14 fl10_42 (kR1 hS0.1 ta0) d5 ?_
    refine tr_aload_n dX10_mark_17 rfl ?_
    refine tr_getR dX10_mark_18 fl10_35 (kR1 hS0.1 ta0) d10 ?_
    refine q_callVi hE (M' := mX6_keepMark) (as := [_]) dX10_mark_21 lk10_303 inX6_keepMark seX6_keepMark myX6_keepMark (by decide) ⟨by decide, by decide⟩ rfl (kR11 hS0.1 ta4) (Nat.le_of_ble_eq_true rfl) rfl rfl (by decide) (by decide) (fk_X6_keepMark hS0.1  ta4 ta9) ?_
    rintro v32 cn' K' N' I27 R28 L29 ⟨rfl, rfl, rfl, rfl, rfl, g30, dj33, -⟩
    have hS34 := hS0.tr g30 (by decide +kernel) (by decide +kernel)
    rcases dj33 with ⟨p35, p36, rp37, -⟩ | ⟨p38, p39, p40, rp41, -⟩
    · skip
      rw [c7] at p35
      refine tr_istore_n dX10_mark_24 (by decide) (by decide) ?_
      refine tr_iload_n dX10_mark_25 rfl ?_
      refine q_iconst dX10_mark_26 (by decide) ?_
      intro v42 h43
      refine q_icmp_ne 38 dX10_mark_27 (by decide) (fun h44 => ?_) (fun h44 => ?_)
      · skip
        exfalso; exact om_51c27872 p36 h43 h44
      · skip
        refine tr_aload_n dX10_mark_30 rfl ?_
        refine q_iconst dX10_mark_31 (by decide) ?_
        intro v45 h46
        refine q_callVi hE (M' := mX10_refused) (as := [_]) dX10_mark_32 lk10_79 inX10_refused seX10_refused myX10_refused (by decide) ⟨by decide, by decide⟩ rfl (kR1 hS34.1 ta0) (Nat.le_of_ble_eq_true rfl) rfl rfl (by decide) (by decide) (fk_X10_refused hS34.1  ta0) ?_
        rintro v52 cn' K' N' I47 R48 L49 ⟨rfl, rfl, rfl, rfl, rfl, g50, p53, p54, -⟩
        have hS55 := hS34.tr g50 (by decide +kernel) (by decide +kernel)
        obtain ⟨v56, c57⟩ : ∃ v, I47 a0 17 = v := ⟨_, rfl⟩
        rw [c57] at p54
        refine tr_goto 43 dX10_mark_35 (by decide) ?_
        obtain ⟨v58, c59⟩ : ∃ v, I47 a4 2 = v := ⟨_, rfl⟩
        have b60 := iv11_2 hS55.1 ta4 c59
        exact tr_iret hZ dX10_mark_43 rfl (by decide) (by decide) ⟨v52, rfl, rfl, rfl, rfl, rfl, rfl, hS55, (Or.inr (Or.inl ⟨(by (try rw [c2]); first | done | with_reducible assumption | exact om_eea3e830 b3.2 b3.1 h26), (fun q0 z0 => by obtain rfl := Option.some.inj ((d5).symm.trans z0); (try rw [c7]); first | done | with_reducible assumption | omega), (by first | done | with_reducible assumption | omega), (SmC.kp rp37 (fun a j h => by rcases h with h | h | h | h | h | h | h; exact (g50.cell h (wm_no (by decide +kernel))); exact (g50.cell h (wm_no (by decide +kernel))); exact (g50.cell h (wm_no (by decide +kernel))); exact (g50.cell h (wm_no (by decide +kernel))); exact (g50.cell h (wm_no (by decide +kernel))); exact (g50.cell h (wm_no (by decide +kernel))); exact (g50.cell h (wm_no (by decide +kernel))))), trivial⟩)), trivial⟩
    · skip
      rw [c7] at p38
      rw [c7] at p39
      obtain ⟨v61, c62⟩ : ∃ v, I27 a4 2 = v := ⟨_, rfl⟩
      have b63 := iv11_2 hS34.1 ta4 c62
      rw [c62] at p40
      rw [c7] at p40
      refine tr_istore_n dX10_mark_24 (by decide) (by decide) ?_
      refine tr_iload_n dX10_mark_25 rfl ?_
      refine q_iconst dX10_mark_26 (by decide) ?_
      intro v64 h65
      refine q_icmp_ne 38 dX10_mark_27 (by decide) (fun h66 => ?_) (fun h66 => ?_)
      · skip
        refine tr_aload_n dX10_mark_38 rfl ?_
        refine tr_iload_n dX10_mark_39 rfl ?_
        refine q_callVi hE (M' := mX10_answered) (as := [_]) dX10_mark_40 lk10_109 inX10_answered seX10_answered myX10_answered (by decide) ⟨by decide, by decide⟩ rfl (kR1 hS34.1 ta0) (Nat.le_of_ble_eq_true rfl) rfl rfl (by decide) (by decide) (fk_X10_answered hS34.1  ta0) ?_
        rintro v72 cn' K' N' I67 R68 L69 ⟨rfl, rfl, rfl, rfl, rfl, g70, p73, p74, -⟩
        have hS75 := hS34.tr g70 (by decide +kernel) (by decide +kernel)
        have c76 : I67 a4 2 = v61 := (g70.cell ta4 (by decide +kernel)).trans c62
        obtain ⟨v77, c78⟩ : ∃ v, I67 a0 17 = v := ⟨_, rfl⟩
        rw [c78] at p74
        exact tr_iret hZ dX10_mark_43 rfl (by decide) (by decide) ⟨v72, rfl, rfl, rfl, rfl, rfl, rfl, hS75, (Or.inr (Or.inr (⟨(by (try rw [c2]); first | done | with_reducible assumption | exact om_649628b9 b3.2 b3.1 b8.2 b8.1 h26 p38 p39 p40 h65 h66 p73), (fun q0 z0 => by obtain rfl := Option.some.inj ((d5).symm.trans z0); (try rw [c7]); first | done | with_reducible assumption | omega), (fun q0 z0 => by obtain rfl := Option.some.inj ((d5).symm.trans z0); (try rw [c7]); first | done | with_reducible assumption | exact om_9aba9cfc p39 p40 p73), (fun q0 z0 => by obtain rfl := Option.some.inj ((d5).symm.trans z0); (try rw [c76]); (try rw [c7]); first | done | with_reducible assumption | omega), (fun nw pa A h1 h2 h3 => by obtain rfl := Option.some.inj (d10.symm.trans h1); obtain rfl := Option.some.inj (d5.symm.trans h2); obtain rfl := Option.some.inj (d14.symm.trans h3); exact MkC.kp (rp41 _ d14) (RoP.of hW0) (fun a j h => by rcases h with h | h | h; exact (g70.cell h (wm_no (by decide +kernel))); exact (g70.cell h (wm_no (by decide +kernel))); exact (g70.cell h (wm_no (by decide +kernel))))), trivial⟩))), trivial⟩
      · skip
        exfalso; exact om_ed24b58c b8.2 b8.1 p38 p39 p40 h65 h66
  · skip
    refine tr_aload_n dX10_mark_7 rfl ?_
    refine q_iconst dX10_mark_8 (by decide) ?_
    intro v79 h80
    refine q_callVi hE (M' := mX10_refused) (as := [_]) dX10_mark_9 lk10_79 inX10_refused seX10_refused myX10_refused (by decide) ⟨by decide, by decide⟩ rfl (kR1 hS0.1 ta0) (Nat.le_of_ble_eq_true rfl) rfl rfl (by decide) (by decide) (fk_X10_refused hS0.1  ta0) ?_
    rintro v86 cn' K' N' I81 R82 L83 ⟨rfl, rfl, rfl, rfl, rfl, g84, p87, p88, -⟩
    have hS89 := hS0.tr g84 (by decide +kernel) (by decide +kernel)
    have c90 : I81 a4 2 = v6 := (g84.cell ta4 (by decide +kernel)).trans c7
    obtain ⟨v91, c92⟩ : ∃ v, I81 a0 17 = v := ⟨_, rfl⟩
    rw [c92] at p88
    exact tr_iret hZ dX10_mark_12 rfl (by decide) (by decide) ⟨v86, rfl, rfl, rfl, rfl, rfl, rfl, hS89, (Or.inl ⟨(by (try rw [c2]); first | done | with_reducible assumption | omega), (by first | done | with_reducible assumption | omega), ⟨rfl, fun a j h => by rcases h with h | h | h | h | h | h | h; exact (g84.cell h (wm_no (by decide +kernel))); exact (g84.cell h (wm_no (by decide +kernel))); exact (g84.cell h (wm_no (by decide +kernel))); exact (g84.cell h (wm_no (by decide +kernel))); exact (g84.cell h (wm_no (by decide +kernel))); exact (g84.cell h (wm_no (by decide +kernel))); exact (g84.cell h (wm_no (by decide +kernel)))⟩, trivial⟩), trivial⟩
def wik_X6_goBack : List Nat := [512, 513, 514, 704, 1791, 1855]
def wrk_X6_goBack : List Nat := []
set_option maxHeartbeats 4000000 in
theorem fk_X6_goBack {l : Launch} {T : Nat → Nat} {cn : Nat} {K N : Nat → Nat} {I0 : cz_I} {R0 : cz_R} {L0 : cz_L} {d : Int} (hW0 : Wf T cn K N I0 R0 d)  {a0 : Nat} (ta0 : T a0 = 11) {a1 : Nat} (ta1 : T a1 = 8) {x2 : Int32} : ConE l mX6_goBack [.ref a0, .ref a1, .int x2] cn K N I0 R0 L0 (ca_i (fun v cn' K' N' I' R' L' => cn = cn' ∧ K = K' ∧ N = N' ∧ R0 = R' ∧ L0 = L' ∧ St T cn K N d wik_X6_goBack wrk_X6_goBack I0 R0 I' R0 ∧ (0 ≤ v.toInt ∧ v.toInt ≤ 1) ∧ ((((x2.toInt < 0 ∨ x2.toInt ≥ (I0 a0 2).toInt)) ∧ (v.toInt = 0) ∧ (SmC T I0 R0 I' R0) ∧ True) ∨ ((0 ≤ x2.toInt) ∧ (x2.toInt < (I0 a0 2).toInt) ∧ (v.toInt = 1) ∧ ((I' a0 0).toInt = 0) ∧ (∀ A, R0 a0 3 = some A → BkC I0 R0 I' A a1 x2.toInt.toNat) ∧ True)) ∧ True)) := by
  refine ConE.of (by decide +kernel) rfl (Nat.le_of_ble_eq_true rfl) rfl (fun X hX hZ hE => ?_)
  subst hX
  have hS0 : St T cn K N d wik_X6_goBack wrk_X6_goBack I0 R0 I0 R0 := St.rf0 hW0
  obtain ⟨v1, c2⟩ : ∃ v, I0 a0 2 = v := ⟨_, rfl⟩
  have b3 := iv11_2 hW0 ta0 c2
  obtain ⟨a4, d5, ta4⟩ := rf11_1 hW0 ta0
  obtain ⟨a6, d7, ta6⟩ := rf11_3 hW0 ta0
  obtain ⟨v8, c9⟩ : ∃ v, I0 a0 0 = v := ⟨_, rfl⟩
  have b10 := iv11_0 hS0.1 ta0 c9
  obtain ⟨v11, c12⟩ : ∃ v, I0 a1 0 = v := ⟨_, rfl⟩
  obtain ⟨v13, c14⟩ : ∃ v, I0 a1 1 = v := ⟨_, rfl⟩
  have b15 := iv8_1 hS0.1 ta1 c14
  obtain ⟨v16, c17⟩ : ∃ v, I0 a1 2 = v := ⟨_, rfl⟩
  have b18 := iv8_2 hS0.1 ta1 c17
  refine tr_iload_n dX6_goBack_0 rfl ?_
  refine q_if_lt 12 dX6_goBack_1 (by decide) (fun h19 => ?_) (fun h19 => ?_)
  · skip
    refine q_iconst dX6_goBack_12 (by decide) ?_
    intro v20 h21
    exact tr_zret hZ dX6_goBack_13 rfl (ti_b01 (by exact om_d99fa9e4 h21) (by exact om_d3de7ec9 h21)) (by decide) (by decide) ⟨v20, rfl, rfl, rfl, rfl, rfl, rfl, hS0, (by exact om_3b50ecb9 h21), (Or.inl ⟨(by (try rw [c2]); first | done | with_reducible assumption | exact om_82eb7c5a h19), (by first | done | with_reducible assumption | omega), ⟨rfl, fun a j h => by rcases h with h | h | h | h | h | h | h; exact rfl; exact rfl; exact rfl; exact rfl; exact rfl; exact rfl; exact rfl⟩, trivial⟩), trivial⟩
  · skip
    refine tr_iload_n dX6_goBack_4 rfl ?_
    refine tr_aload_n dX6_goBack_5 rfl ?_
    refine q_getI dX6_goBack_6 fl6_25 (kR11 hS0.1 ta0) c2 ?_
    refine q_icmp_lt 14 dX6_goBack_9 (by decide) (fun h22 => ?_) (fun h22 => ?_)
    · skip
      refine tr_aload_n dX6_goBack_14 rfl ?_
      refine tr_aload_n dX6_goBack_15 rfl ?_
      refine tr_getR dX6_goBack_16 fl6_17 (kR11 hS0.1 ta0) d7 ?_
      refine tr_iload_n dX6_goBack_19 rfl ?_
      obtain ⟨a23, d24, ta23⟩ := rf34 hS0.1 ta6 (j := x2.toNatClampNeg) (ti_lt (by exact om_2cfcd5a5 h19) (by exact om_386095fb b3.2 b3.1 h22))
      refine tr_aald dX6_goBack_20 (kR34 hS0.1 ta6) (by decide) (by decide) (ti_in (nR34 hS0.1 ta6) (by exact om_2cfcd5a5 h19) (by exact om_386095fb b3.2 b3.1 h22)) d24 ?_
      obtain ⟨a25, d26, ta25⟩ := rf8_3 hW0 ta1
      obtain ⟨a27, d28, ta27⟩ := rf8_4 hW0 ta1
      obtain ⟨a29, d30, ta29⟩ := rf10_3 hW0 ta23
      obtain ⟨a31, d32, ta31⟩ := rf10_4 hW0 ta23
      obtain ⟨v33, c34⟩ : ∃ v, I0 a23 2 = v := ⟨_, rfl⟩
      have b35 := iv10_2 hW0 ta23 c34
      obtain ⟨v36, c37⟩ : ∃ v, I0 a23 0 = v := ⟨_, rfl⟩
      obtain ⟨v38, c39⟩ : ∃ v, I0 a23 1 = v := ⟨_, rfl⟩
      have b40 := iv10_1 hW0 ta23 c39
      refine q_callVv hE (M' := mX3_become) (as := [_]) dX6_goBack_21 lk6_31 inX3_become seX3_become myX3_become (by decide) ⟨by decide, by decide⟩ rfl (kR8 hS0.1 ta1) (Nat.le_of_ble_eq_true rfl) rfl rfl (by decide) (by decide) (fk_X3_become_1 hS0.1  ta1 ta23) ?_
      rintro cn' K' N' I41 R42 L43 ⟨rfl, rfl, rfl, rfl, rfl, g44, p47, p48, p49, rp50, -⟩
      have hS51 := hS0.tr g44 (by decide +kernel) (by decide +kernel)
      have c52 : I41 a0 0 = v8 := (g44.cell ta0 (by decide +kernel)).trans c9
      obtain ⟨v53, c54⟩ : ∃ v, I41 a1 0 = v := ⟨_, rfl⟩
      rw [c54] at p47
      rw [c37] at p47
      obtain ⟨v55, c56⟩ : ∃ v, I41 a1 1 = v := ⟨_, rfl⟩
      have b57 := iv8_1 hS51.1 ta1 c56
      rw [c56] at p48
      rw [c39] at p48
      obtain ⟨v58, c59⟩ : ∃ v, I41 a1 2 = v := ⟨_, rfl⟩
      have b60 := iv8_2 hS51.1 ta1 c59
      rw [c59] at p49
      rw [c34] at p49
      refine tr_aload_n dX6_goBack_24 rfl ?_
      refine q_iconst dX6_goBack_25 (by decide) ?_
      intro v61 h62
      refine q_putI dX6_goBack_26 fl6_21 (kR11 hS51.1 ta0) (Or.inl rfl) hS51 ta0 (by show (0 : Int) ≤ v61.toInt ∧ v61.toInt ≤ (12 : Int); exact om_dbf687ed h62) rfl (by decide +kernel) ?_
      intro I63 hS64 e65 f66
      have c67 : I63 a1 0 = v53 := (f66 _ _ (fun q => by have z := ta1; rw [q.1, ta0] at z; exact absurd z (by decide))).trans c54
      have c68 : I63 a1 1 = v55 := (f66 _ _ (fun q => absurd q.2 (by decide))).trans c56
      have c69 : I63 a1 2 = v58 := (f66 _ _ (fun q => absurd q.2 (by decide))).trans c59
      refine q_iconst dX6_goBack_29 (by decide) ?_
      intro v70 h71
      exact tr_zret hZ dX6_goBack_30 rfl (ti_b01 (by exact om_f9079521 h71) (by exact om_e6632817 h71)) (by decide) (by decide) ⟨v70, rfl, rfl, rfl, rfl, rfl, rfl, hS64, (by exact om_d753bc65 h71), (Or.inr (⟨(by first | done | with_reducible assumption | omega), (by (try rw [c2]); first | done | with_reducible assumption | omega), (by first | done | with_reducible assumption | omega), (by (try rw [e65]); first | done | with_reducible assumption | omega), (fun A hA h hh => by obtain rfl := Option.some.inj (d7.symm.trans hA); have z := d24; rw [show x2.toNatClampNeg = x2.toInt.toNat by rfl] at z; obtain rfl := Option.some.inj (z.symm.trans hh); exact ⟨by rw [c67, c37]; exact om_acd7a85a p47, by rw [c68, c39]; exact om_acd7a85a p48, by rw [c69, c34]; exact om_acd7a85a p49, (RwC.cv rp50 (fun j => rfl) (fun j => rfl) (fun g k h => by rcases h with h | h; (have th : T g = 31 := (hS0.1).rs ta23 rfl rfl h); exact (rfl).symm; (have th : T g = 32 := (hS0.1).rs ta23 rfl rfl h); exact (rfl).symm) (fun g k h => by rcases h with h | h; (have th : T g = 27 := (hS0.1).rs ta1 rfl rfl h); exact (f66 _ _ (fun q => by have z := th; rw [q.1, ta0] at z; exact absurd z (by decide))); (have th : T g = 28 := (hS0.1).rs ta1 rfl rfl h); exact (f66 _ _ (fun q => by have z := th; rw [q.1, ta0] at z; exact absurd z (by decide)))) (by rw [c34]; first | done | exact congrArg Int32.toInt ((c34).symm)))⟩), trivial⟩)), trivial⟩
    · skip
      refine q_iconst dX6_goBack_12 (by decide) ?_
      intro v72 h73
      exact tr_zret hZ dX6_goBack_13 rfl (ti_b01 (by exact om_d99fa9e4 h73) (by exact om_d3de7ec9 h73)) (by decide) (by decide) ⟨v72, rfl, rfl, rfl, rfl, rfl, rfl, hS0, (by exact om_3b50ecb9 h73), (Or.inl ⟨(by (try rw [c2]); first | done | with_reducible assumption | exact om_0273c8de h22), (by first | done | with_reducible assumption | omega), ⟨rfl, fun a j h => by rcases h with h | h | h | h | h | h | h; exact rfl; exact rfl; exact rfl; exact rfl; exact rfl; exact rfl; exact rfl⟩, trivial⟩), trivial⟩
def wik_X10_back : List Nat := [73, 75, 81, 512, 513, 514, 704, 1791, 1855]
def wrk_X10_back : List Nat := []
def Cs_X10_back (T : Nat → Nat) (I0 : cz_I) (R0 : cz_R) (a0 : Nat) (x1 : Int32) (v : Int32) (I' : cz_I) (R' : cz_R) : Prop :=
  ((∀ b1, R0 a0 7 = some b1 → (x1.toInt < 0 ∨ x1.toInt ≥ (I0 b1 2).toInt)) ∧ (v.toInt = 0) ∧ (SmC T I0 R0 I' R0) ∧ ((I' a0 9).toInt = (I0 a0 9).toInt) ∧ True) ∨
  ((0 ≤ x1.toInt) ∧ (∀ b1, R0 a0 7 = some b1 → x1.toInt < (I0 b1 2).toInt) ∧ (v.toInt = 1) ∧ (∀ b1, R0 a0 7 = some b1 → (I' b1 0).toInt = 0) ∧ (∀ nw pa A, R0 a0 6 = some nw → R0 a0 7 = some pa → R0 pa 3 = some A → BkC I0 R0 I' A nw x1.toInt.toNat) ∧ ((I' a0 9).toInt = 0) ∧ True)
set_option maxHeartbeats 4000000 in
theorem fk_X10_back {l : Launch} {T : Nat → Nat} {cn : Nat} {K N : Nat → Nat} {I0 : cz_I} {R0 : cz_R} {L0 : cz_L} {d : Int} (hW0 : Wf T cn K N I0 R0 d)  {a0 : Nat} (ta0 : T a0 = 1) {x1 : Int32} : ConE l mX10_back [.ref a0, .int x1] cn K N I0 R0 L0 (ca_i (fun v cn' K' N' I' R' L' => cn = cn' ∧ K = K' ∧ N = N' ∧ R0 = R' ∧ L0 = L' ∧ St T cn K N d wik_X10_back wrk_X10_back I0 R0 I' R0 ∧ (0 ≤ v.toInt ∧ v.toInt ≤ 1) ∧ Cs_X10_back T I0 R0 a0 x1 v I' R0 ∧ True)) := by
  refine ConE.of (by decide +kernel) rfl (Nat.le_of_ble_eq_true rfl) rfl (fun X hX hZ hE => ?_)
  subst hX
  have hS0 : St T cn K N d wik_X10_back wrk_X10_back I0 R0 I0 R0 := St.rf0 hW0
  obtain ⟨a1, d2, ta1⟩ := rf1_7 hW0 ta0
  obtain ⟨v3, c4⟩ : ∃ v, I0 a1 2 = v := ⟨_, rfl⟩
  have b5 := iv11_2 hW0 ta1 c4
  obtain ⟨v6, c7⟩ : ∃ v, I0 a0 9 = v := ⟨_, rfl⟩
  have b8 := iv1_9 hS0.1 ta0 c7
  obtain ⟨a9, d10, ta9⟩ := rf1_6 hW0 ta0
  obtain ⟨a11, d12, ta11⟩ := rf11_1 hW0 ta1
  obtain ⟨a13, d14, ta13⟩ := rf11_3 hW0 ta1
  obtain ⟨v15, c16⟩ : ∃ v, I0 a1 0 = v := ⟨_, rfl⟩
  have b17 := iv11_0 hS0.1 ta1 c16
  obtain ⟨v18, c19⟩ : ∃ v, I0 a9 0 = v := ⟨_, rfl⟩
  obtain ⟨v20, c21⟩ : ∃ v, I0 a9 1 = v := ⟨_, rfl⟩
  have b22 := iv8_1 hS0.1 ta9 c21
  obtain ⟨v23, c24⟩ : ∃ v, I0 a9 2 = v := ⟨_, rfl⟩
  have b25 := iv8_2 hS0.1 ta9 c24
  refine tr_aload_n dX10_back_0 rfl ?_
  refine tr_getR dX10_back_1 fl10_42 (kR1 hS0.1 ta0) d2 ?_
  refine tr_aload_n dX10_back_4 rfl ?_
  refine tr_getR dX10_back_5 fl10_35 (kR1 hS0.1 ta0) d10 ?_
  refine tr_iload_n dX10_back_8 rfl ?_
  refine q_callVi hE (M' := mX6_goBack) (as := [_, _]) dX10_back_9 lk10_307 inX6_goBack seX6_goBack myX6_goBack (by decide) ⟨by decide, by decide⟩ rfl (kR11 hS0.1 ta1) (Nat.le_of_ble_eq_true rfl) rfl rfl (by decide) (by decide) (fk_X6_goBack hS0.1  ta1 ta9) ?_
  rintro v31 cn' K' N' I26 R27 L28 ⟨rfl, rfl, rfl, rfl, rfl, g29, h32, dj33, -⟩
  have hS34 := hS0.tr g29 (by decide +kernel) (by decide +kernel)
  have c35 : I26 a0 9 = v6 := (g29.cell ta0 (by decide +kernel)).trans c7
  rcases dj33 with ⟨p36, p37, rp38, -⟩ | ⟨p39, p40, p41, p42, rp43, -⟩
  · skip
    rw [c4] at p36
    refine q_if_ne 21 dX10_back_12 (by decide) (fun h44 => ?_) (fun h44 => ?_)
    · skip
      exfalso; exact om_3a97d4a5 p37 h44
    · skip
      refine tr_aload_n dX10_back_15 rfl ?_
      refine q_iconst dX10_back_16 (by decide) ?_
      intro v45 h46
      refine q_callVi hE (M' := mX10_refusedAct) (as := [_]) dX10_back_17 lk10_281 inX10_refusedAct seX10_refusedAct myX10_refusedAct (by decide) ⟨by decide, by decide⟩ rfl (kR1 hS34.1 ta0) (Nat.le_of_ble_eq_true rfl) rfl rfl (by decide) (by decide) (fk_X10_refusedAct hS34.1  ta0) ?_
      rintro v52 cn' K' N' I47 R48 L49 ⟨rfl, rfl, rfl, rfl, rfl, g50, h53, p54, p55, -⟩
      have hS56 := hS34.tr g50 (by decide +kernel) (by decide +kernel)
      have c57 : I47 a0 9 = v6 := (g50.cell ta0 (by decide +kernel)).trans c35
      obtain ⟨v58, c59⟩ : ∃ v, I47 a0 17 = v := ⟨_, rfl⟩
      rw [c59] at p55
      obtain ⟨v60, c61⟩ : ∃ v, I47 a1 0 = v := ⟨_, rfl⟩
      have b62 := iv11_0 hS56.1 ta1 c61
      exact tr_zret hZ dX10_back_20 rfl (ti_b01 (by exact om_d99fa9e4 p54) (by exact om_d3de7ec9 p54)) (by decide) (by decide) ⟨v52, rfl, rfl, rfl, rfl, rfl, rfl, hS56, (by exact om_be53a44c h53), (Or.inl ⟨(fun q0 z0 => by obtain rfl := Option.some.inj ((d2).symm.trans z0); (try rw [c4]); first | done | with_reducible assumption | omega), (by first | done | with_reducible assumption | omega), (SmC.kp rp38 (fun a j h => by rcases h with h | h | h | h | h | h | h; exact (g50.cell h (wm_no (by decide +kernel))); exact (g50.cell h (wm_no (by decide +kernel))); exact (g50.cell h (wm_no (by decide +kernel))); exact (g50.cell h (wm_no (by decide +kernel))); exact (g50.cell h (wm_no (by decide +kernel))); exact (g50.cell h (wm_no (by decide +kernel))); exact (g50.cell h (wm_no (by decide +kernel))))), (by rw [c57, c7]; first | done | omega), trivial⟩), trivial⟩
  · skip
    rw [c4] at p40
    obtain ⟨v63, c64⟩ : ∃ v, I26 a1 0 = v := ⟨_, rfl⟩
    have b65 := iv11_0 hS34.1 ta1 c64
    rw [c64] at p42
    refine q_if_ne 21 dX10_back_12 (by decide) (fun h66 => ?_) (fun h66 => ?_)
    · skip
      refine tr_aload_n dX10_back_21 rfl ?_
      refine q_callVv hE (M' := mX10_cloudsMoved) (as := []) dX10_back_22 lk10_103 inX10_cloudsMoved seX10_cloudsMoved myX10_cloudsMoved (by decide) ⟨by decide, by decide⟩ rfl (kR1 hS34.1 ta0) (Nat.le_of_ble_eq_true rfl) rfl rfl (by decide) (by decide) (fk_X10_cloudsMoved hS34.1  ta0) ?_
      rintro cn' K' N' I67 R68 L69 ⟨rfl, rfl, rfl, rfl, rfl, g70, p73, p74, -⟩
      have hS75 := hS34.tr g70 (by decide +kernel) (by decide +kernel)
      have c76 : I67 a1 0 = v63 := (g70.cell ta1 (by decide +kernel)).trans c64
      obtain ⟨v77, c78⟩ : ∃ v, I67 a0 9 = v := ⟨_, rfl⟩
      have b79 := iv1_9 hS75.1 ta0 c78
      rw [c78] at p73
      obtain ⟨v80, c81⟩ : ∃ v, I67 a0 11 = v := ⟨_, rfl⟩
      have b82 := iv1_11 hS75.1 ta0 c81
      rw [c81] at p74
      refine tr_aload_n dX10_back_25 rfl ?_
      refine q_callVi hE (M' := mX10_allowed) (as := []) dX10_back_26 lk10_291 inX10_allowed seX10_allowed myX10_allowed (by decide) ⟨by decide, by decide⟩ rfl (kR1 hS75.1 ta0) (Nat.le_of_ble_eq_true rfl) rfl rfl (by decide) (by decide) (fk_X10_allowed hS75.1  ta0) ?_
      rintro v88 cn' K' N' I83 R84 L85 ⟨rfl, rfl, rfl, rfl, rfl, g86, h89, p90, p91, -⟩
      have hS92 := hS75.tr g86 (by decide +kernel) (by decide +kernel)
      have c93 : I83 a1 0 = v63 := (g86.cell ta1 (by decide +kernel)).trans c76
      have c94 : I83 a0 9 = v77 := (g86.cell ta0 (by decide +kernel)).trans c78
      have c95 : I83 a0 11 = v80 := (g86.cell ta0 (by decide +kernel)).trans c81
      obtain ⟨v96, c97⟩ : ∃ v, I83 a0 17 = v := ⟨_, rfl⟩
      rw [c97] at p91
      exact tr_zret hZ dX10_back_29 rfl (ti_b01 (by exact om_f9079521 p90) (by exact om_e6632817 p90)) (by decide) (by decide) ⟨v88, rfl, rfl, rfl, rfl, rfl, rfl, hS92, (by exact om_be53a44c h89), (Or.inr (⟨(by first | done | with_reducible assumption | omega), (fun q0 z0 => by obtain rfl := Option.some.inj ((d2).symm.trans z0); (try rw [c4]); first | done | with_reducible assumption | omega), (by first | done | with_reducible assumption | omega), (fun q0 z0 => by obtain rfl := Option.some.inj ((d2).symm.trans z0); (try rw [c93]); first | done | with_reducible assumption | omega), (fun nw pa A h1 h2 h3 => by obtain rfl := Option.some.inj (d10.symm.trans h1); obtain rfl := Option.some.inj (d2.symm.trans h2); obtain rfl := Option.some.inj (d14.symm.trans h3); exact BkC.kp (rp43 _ d14) (fun j => ((g86.cell ta9 (wm_no (by decide +kernel))).trans (g70.cell ta9 (wm_no (by decide +kernel))))) (fun a j h => by rcases h with h | h; (have th : T a = 27 := hW0.rs ta9 rfl rfl h); exact ((g86.cell th (wm_no (by decide +kernel))).trans (g70.cell th (wm_no (by decide +kernel)))); (have th : T a = 28 := hW0.rs ta9 rfl rfl h); exact ((g86.cell th (wm_no (by decide +kernel))).trans (g70.cell th (wm_no (by decide +kernel)))))), (by rw [c94]; exact om_29f55913 p73), trivial⟩)), trivial⟩
    · skip
      exfalso; exact om_3624102b p41 h66
