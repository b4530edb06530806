def wik_X10_refusedAct : List Nat := [81]
def wrk_X10_refusedAct : List Nat := []
set_option maxHeartbeats 4000000 in
theorem fk_X10_refusedAct {l : Launch} {T : Nat → Nat} {cn : Nat} {K N : Nat → Nat} {I0 : cz_I} {R0 : cz_R} {L0 : cz_L} {d : Int} (hW0 : Wf T cn K N I0 R0 d)  {a0 : Nat} (ta0 : T a0 = 1) {x1 : Int32} : ConE l mX10_refusedAct [.ref a0, .int x1] cn K N I0 R0 L0 (ca_i (fun v cn' K' N' I' R' L' => cn = cn' ∧ K = K' ∧ N = N' ∧ R0 = R' ∧ L0 = L' ∧ St T cn K N d wik_X10_refusedAct wrk_X10_refusedAct I0 R0 I' R0 ∧ (0 ≤ v.toInt ∧ v.toInt ≤ 1) ∧ (v.toInt = 0) ∧ ((I' a0 17).toInt = x1.toInt) ∧ True)) := by
  refine ConE.of (by decide +kernel) rfl (Nat.le_of_ble_eq_true rfl) rfl (fun X hX hZ hE => ?_)
  subst hX
  have hS0 : St T cn K N d wik_X10_refusedAct wrk_X10_refusedAct I0 R0 I0 R0 := St.rf0 hW0
  refine tr_aload_n dX10_refusedAct_0 rfl ?_
  refine tr_iload_n dX10_refusedAct_1 rfl ?_
  refine q_putI dX10_refusedAct_2 fl10_112 (kR1 hS0.1 ta0) (Or.inl rfl) hS0 ta0 (iokF rfl) rfl (by decide +kernel) ?_
  intro I1 hS2 e3 f4
  refine q_iconst dX10_refusedAct_5 (by decide) ?_
  intro v5 h6
  exact tr_zret hZ dX10_refusedAct_6 rfl (ti_b01 (by exact om_d99fa9e4 h6) (by exact om_d3de7ec9 h6)) (by decide) (by decide) ⟨v5, rfl, rfl, rfl, rfl, rfl, rfl, hS2, (by exact om_3b50ecb9 h6), (by first | done | with_reducible assumption | omega), (by (try rw [e3]); first | done | with_reducible assumption | omega), trivial⟩
def wik_X3_become : List Nat := [640, 641, 642, 2047, 2111]
def wrk_X3_become : List Nat := []
set_option maxHeartbeats 4000000 in
theorem fk_X3_become {l : Launch} {T : Nat → Nat} {cn : Nat} {K N : Nat → Nat} {I0 : cz_I} {R0 : cz_R} {L0 : cz_L} {d : Int} (hW0 : Wf T cn K N I0 R0 d)  {a0 : Nat} (ta0 : T a0 = 10) {a1 : Nat} (ta1 : T a1 = 8) : ConE l mX3_become [.ref a0, .ref a1] cn K N I0 R0 L0 (ca_v (fun cn' K' N' I' R' L' => cn = cn' ∧ K = K' ∧ N = N' ∧ R0 = R' ∧ L0 = L' ∧ St T cn K N d wik_X3_become wrk_X3_become I0 R0 I' R0 ∧ ((I' a0 0).toInt = (I0 a1 0).toInt) ∧ ((I' a0 1).toInt = (I0 a1 1).toInt) ∧ ((I' a0 2).toInt = (I0 a1 2).toInt) ∧ (FrO 10 a0 T I0 I') ∧ True)) := by
  refine ConE.of (by decide +kernel) rfl (Nat.le_of_ble_eq_true rfl) rfl (fun X hX hZ hE => ?_)
  subst hX
  have hS0 : St T cn K N d wik_X3_become wrk_X3_become I0 R0 I0 R0 := St.rf0 hW0
  obtain ⟨v1, c2⟩ : ∃ v, I0 a1 0 = v := ⟨_, rfl⟩
  obtain ⟨v3, c4⟩ : ∃ v, I0 a1 1 = v := ⟨_, rfl⟩
  have b5 := iv8_1 hW0 ta1 c4
  obtain ⟨v6, c7⟩ : ∃ v, I0 a1 2 = v := ⟨_, rfl⟩
  have b8 := iv8_2 hW0 ta1 c7
  have hO0 : FrO 10 a0 T I0 I0 := FrO.rf
  refine tr_aload_n dX3_become_0 rfl ?_
  refine tr_aload_n dX3_become_1 rfl ?_
  refine q_getI dX3_become_2 fl3_18 (kR8 hS0.1 ta1) c2 ?_
  refine q_putI dX3_become_5 fl3_18 (kR10 hS0.1 ta0) (Or.inl rfl) hS0 ta0 (iokF rfl) rfl (by decide +kernel) ?_
  intro I9 hS10 e11 f12
  have hO13 : FrO 10 a0 T I0 I9 := hO0.put f12 ta0 (Or.inr rfl)
  refine tr_aload_n dX3_become_8 rfl ?_
  refine tr_aload_n dX3_become_9 rfl ?_
  refine q_getI dX3_become_10 fl3_22 (kR8 hS10.1 ta1) ((hS10.cell ta1 (by decide +kernel)).trans c4) ?_
  refine q_putI dX3_become_13 fl3_22 (kR10 hS10.1 ta0) (Or.inl rfl) hS10 ta0 (by show (0 : Int) ≤ v3.toInt ∧ v3.toInt ≤ (65536 : Int); exact om_fc33552b b5) rfl (by decide +kernel) ?_
  intro I14 hS15 e16 f17
  have c18 : I14 a0 0 = v1 := (f17 _ _ (fun q => absurd q.2 (by decide))).trans e11
  have hO19 : FrO 10 a0 T I0 I14 := hO13.put f17 ta0 (Or.inr rfl)
  refine tr_aload_n dX3_become_16 rfl ?_
  refine tr_aload_n dX3_become_17 rfl ?_
  refine q_getI dX3_become_18 fl3_25 (kR8 hS15.1 ta1) ((hS15.cell ta1 (by decide +kernel)).trans c7) ?_
  refine q_putI dX3_become_21 fl3_25 (kR10 hS15.1 ta0) (Or.inl rfl) hS15 ta0 (by show (0 : Int) ≤ v6.toInt ∧ v6.toInt ≤ (6 : Int); exact om_cafeadf3 b8) rfl (by decide +kernel) ?_
  intro I20 hS21 e22 f23
  have c24 : I20 a0 0 = v1 := (f23 _ _ (fun q => absurd q.2 (by decide))).trans c18
  have c25 : I20 a0 1 = v3 := (f23 _ _ (fun q => absurd q.2 (by decide))).trans e16
  have hO26 : FrO 10 a0 T I0 I20 := hO19.put f23 ta0 (Or.inr rfl)
  refine q_iconst dX3_become_24 (by decide) ?_
  intro v27 h28
  refine tr_istore_n dX3_become_25 (by decide) (by decide) ?_
  have lp46 : ∀ (fu : Nat) (ls : Nat → Option Value) (v29 : Int32) (I33 : cz_I) (v36 : Int32) (v38 : Int32) (v40 : Int32), ls 0 = some (.ref a0) → ls 1 = some (.ref a1) → ls 2 = some (.int v29) → St T cn K N d wik_X3_become wrk_X3_become I0 R0 I33 R0 → FrO 10 a0 T I0 I33 → I33 a0 0 = v36 → I33 a0 1 = v38 → I33 a0 2 = v40 → v36.toInt = v1.toInt → v38.toInt = v3.toInt → v40.toInt = v6.toInt → 0 ≤ v29.toInt → (-v29.toInt + 2147483647).toNat < fu → Tr X mX3_become 26 ls [] cn K N I33 R0 L0 0 0 := by
    intro fu
    induction fu with
    | zero => intros; rename_i hz; exact absurd hz (Nat.not_lt_zero _)
    | succ fu ih46 =>
      intro ls v29 I33 v36 v38 v40 hl30 hl31 hl32 hS34 hO35 c37 c39 c41 g42 g43 g44 g45 hm46
      have b48 := iv10_1 hS34.1 ta0 c39
      have b49 := iv10_2 hS34.1 ta0 c41
      refine tr_iload_n dX3_become_26 hl32 ?_
      refine tr_aload_n dX3_become_27 hl31 ?_
      refine q_getI dX3_become_28 fl3_25 (kR8 hS34.1 ta1) ((hS34.cell ta1 (by decide +kernel)).trans c7) ?_
      refine q_icmp_ge 64 dX3_become_31 (by decide) (fun h50 => ?_) (fun h50 => ?_)
      · skip
        exact tr_vret hZ dX3_become_64 rfl (by decide) (by decide) ⟨rfl, rfl, rfl, rfl, rfl, rfl, hS34, (by (try rw [c37]); (try rw [c2]); first | done | with_reducible assumption | omega), (by (try rw [c39]); (try rw [c4]); first | done | with_reducible assumption | omega), (by (try rw [c41]); (try rw [c7]); first | done | with_reducible assumption | omega), hO35, trivial⟩
      · skip
        refine tr_aload_n dX3_become_34 hl30 ?_
        obtain ⟨a51, d52, ta51⟩ := rf10_3 hW0 ta0
        refine tr_getR dX3_become_35 fl3_9 (kR10 hS34.1 ta0) d52 ?_
        refine tr_iload_n dX3_become_38 hl32 ?_
        refine tr_aload_n dX3_become_39 hl31 ?_
        obtain ⟨a53, d54, ta53⟩ := rf8_3 hW0 ta1
        refine tr_getR dX3_become_40 fl3_9 (kR8 hS34.1 ta1) d54 ?_
        refine tr_iload_n dX3_become_43 hl32 ?_
        refine q_iald dX3_become_44 (kR27 hS34.1 ta53) (ti_in (nR27 hS34.1 ta53) (by exact om_2cfcd5a5 g45) (by exact om_fcfbe61b b8.2 b8.1 g44 h50)) ?_
        intro v55 c56
        have b57 := iv27 hS34.1 ta53 c56
        refine q_iast dX3_become_45 (kR31 hS34.1 ta51) (ti_in (nR31 hS34.1 ta51) (by exact om_2cfcd5a5 g45) (by exact om_fcfbe61b b8.2 b8.1 g44 h50)) hS34 ta51 (by show (0 : Int) ≤ v55.toInt ∧ v55.toInt ≤ (240 : Int); exact om_d956ef70 b57) rfl (by rfl) ?_
        intro I58 hS59 e61 f60
        have c62 : I58 a0 0 = v36 := (f60 _ _ (fun q => by have z := ta0; rw [q.1, ta51] at z; exact absurd z (by decide))).trans c37
        have c63 : I58 a0 1 = v38 := (f60 _ _ (fun q => by have z := ta0; rw [q.1, ta51] at z; exact absurd z (by decide))).trans c39
        have c64 : I58 a0 2 = v40 := (f60 _ _ (fun q => by have z := ta0; rw [q.1, ta51] at z; exact absurd z (by decide))).trans c41
        have hO65 : FrO 10 a0 T I0 I58 := hO35.put f60 ta51 (Or.inl (by decide))
        refine tr_aload_n dX3_become_46 hl30 ?_
        obtain ⟨a66, d67, ta66⟩ := rf10_4 hW0 ta0
        refine tr_getR dX3_become_47 fl3_15 (kR10 hS59.1 ta0) d67 ?_
        refine tr_iload_n dX3_become_50 hl32 ?_
        refine tr_aload_n dX3_become_51 hl31 ?_
        obtain ⟨a68, d69, ta68⟩ := rf8_4 hW0 ta1
        refine tr_getR dX3_become_52 fl3_15 (kR8 hS59.1 ta1) d69 ?_
        refine tr_iload_n dX3_become_55 hl32 ?_
        refine q_iald dX3_become_56 (kR28 hS59.1 ta68) (ti_in (nR28 hS59.1 ta68) (by exact om_2cfcd5a5 g45) (by exact om_fcfbe61b b8.2 b8.1 g44 h50)) ?_
        intro v70 c71
        have b72 := iv28 hS59.1 ta68 c71
        refine q_iast dX3_become_57 (kR32 hS59.1 ta66) (ti_in (nR32 hS59.1 ta66) (by exact om_2cfcd5a5 g45) (by exact om_fcfbe61b b8.2 b8.1 g44 h50)) hS59 ta66 (by show (0 : Int) ≤ v70.toInt ∧ v70.toInt ≤ (240 : Int); exact om_d956ef70 b72) rfl (by rfl) ?_
        intro I73 hS74 e76 f75
        have c77 : I73 a0 0 = v36 := (f75 _ _ (fun q => by have z := ta0; rw [q.1, ta66] at z; exact absurd z (by decide))).trans c62
        have c78 : I73 a0 1 = v38 := (f75 _ _ (fun q => by have z := ta0; rw [q.1, ta66] at z; exact absurd z (by decide))).trans c63
        have c79 : I73 a0 2 = v40 := (f75 _ _ (fun q => by have z := ta0; rw [q.1, ta66] at z; exact absurd z (by decide))).trans c64
        have hO80 : FrO 10 a0 T I0 I73 := hO65.put f75 ta66 (Or.inl (by decide))
        refine q_iincE dX3_become_58 hl32 (by decide) (by decide) (by intro j1 j2; exact om_978e3cdf b8.2 b8.1 g44 g45 h50 j2) ?_
        intro v81 h82
        refine tr_goto 26 dX3_become_61 (by decide) ?_
        exact ih46 _ v81 I73 v36 v38 v40 hl30 hl31 rfl hS74 hO80 c77 c78 c79 (by exact om_acd7a85a g42) (by exact om_acd7a85a g43) (by exact om_acd7a85a g44) (by exact om_68881c41 g45 h82) (by exact om_d9b35a09 b8.2 b8.1 g44 g45 hm46 h50 h82)
  exact lp46 _ _ v27 I20 v1 v3 v6 rfl rfl rfl hS21 hO26 c24 c25 e22 (by exact om_4ee7209a) (by exact om_4ee7209a) (by exact om_4ee7209a) (by exact om_d99fa9e4 h28) (Nat.lt_succ_self _)
def wik_X6_dropOldestAct : List Nat := [704]
def wrk_X6_dropOldestAct : List Nat := [2175]
set_option maxHeartbeats 4000000 in
theorem fk_X6_dropOldestAct {l : Launch} {T : Nat → Nat} {cn : Nat} {K N : Nat → Nat} {I0 : cz_I} {R0 : cz_R} {L0 : cz_L} {d : Int} (hW0 : Wf T cn K N I0 R0 d)  {a0 : Nat} (ta0 : T a0 = 11) : ConE l mX6_dropOldestAct [.ref a0] cn K N I0 R0 L0 (ca_v (fun cn' K' N' I' R' L' => cn = cn' ∧ K = K' ∧ N = N' ∧ L0 = L' ∧ St T cn K N d wik_X6_dropOldestAct wrk_X6_dropOldestAct I0 R0 I' R' ∧ ((I' a0 0).toInt = 11) ∧ (∀ A, R0 a0 1 = some A → RotR R0 R' A) ∧ True)) := by
  refine ConE.of (by decide +kernel) rfl (Nat.le_of_ble_eq_true rfl) rfl (fun X hX hZ hE => ?_)
  subst hX
  have hS0 : St T cn K N d wik_X6_dropOldestAct wrk_X6_dropOldestAct I0 R0 I0 R0 := St.rf0 hW0
  obtain ⟨a1, d2, ta1⟩ := rf11_1 hW0 ta0
  refine tr_aload_n dX6_dropOldestAct_0 rfl ?_
  refine tr_getR dX6_dropOldestAct_1 fl6_11 (kR11 hS0.1 ta0) d2 ?_
  refine q_iconst dX6_dropOldestAct_4 (by decide) ?_
  intro v3 h4
  obtain ⟨a5, d6, ta5⟩ := rf33 hS0.1 ta1 (j := v3.toNatClampNeg) (ti_lt (by exact om_d99fa9e4 h4) (by exact om_ee80e408 h4))
  refine tr_aald dX6_dropOldestAct_5 (kR33 hS0.1 ta1) (by decide) (by decide) (ti_in (nR33 hS0.1 ta1) (by exact om_d99fa9e4 h4) (by exact om_ee80e408 h4)) d6 ?_
  refine tr_astore_n dX6_dropOldestAct_6 (by decide) (by decide) ?_
  refine q_iconst dX6_dropOldestAct_7 (by decide) ?_
  intro v7 h8
  refine tr_istore_n dX6_dropOldestAct_8 (by decide) (by decide) ?_
  have lp19 : ∀ (fu : Nat) (ls : Nat → Option Value) (v9 : Int32) (I13 : cz_I) (R14 : cz_R), ls 0 = some (.ref a0) → ls 1 = some (.ref a5) → ls 2 = some (.int v9) → St T cn K N d wik_X6_dropOldestAct wrk_X6_dropOldestAct I0 R0 I13 R14 → 1 ≤ v9.toInt → v9.toInt ≤ 12 → (RotI R0 R14 a1 v9.toInt) → (-v9.toInt + 2147483647).toNat < fu → Tr X mX6_dropOldestAct 9 ls [] cn K N I13 R14 L0 0 0 := by
    intro fu
    induction fu with
    | zero => intros; rename_i hz; exact absurd hz (Nat.not_lt_zero _)
    | succ fu ih19 =>
      intro ls v9 I13 R14 hl10 hl11 hl12 hS15 g16 g17 rw18 hm19
      refine tr_iload_n dX6_dropOldestAct_9 hl12 ?_
      refine q_bipush dX6_dropOldestAct_10 (by decide +kernel) ?_
      intro v21 h22
      refine q_icmp_ge 35 dX6_dropOldestAct_12 (by decide) (fun h23 => ?_) (fun h23 => ?_)
      · skip
        refine tr_aload_n dX6_dropOldestAct_35 hl10 ?_
        refine tr_getR dX6_dropOldestAct_36 fl6_11 (kR11 hS15.1 ta0) ((hS15.rcell ta0 (by decide +kernel)).trans d2) ?_
        refine q_bipush dX6_dropOldestAct_39 (by decide +kernel) ?_
        intro v24 h25
        refine tr_aload_n dX6_dropOldestAct_41 hl11 ?_
        refine q_aastE dX6_dropOldestAct_42 (kR33 hS15.1 ta1) (by decide) (by decide) (kR10 hS15.1 ta5) (ti_in (nR33 hS15.1 ta1) (by exact om_5ac1db1a h25) (by exact om_34141729 h25)) hS15 ta1 (by rw [re33 (ti_lt (by exact om_5ac1db1a h25) (by exact om_34141729 h25))]; exact okR_in rfl rfl ta5) rfl (by rfl) ?_
        intro R26 hS27 e28 f29
        refine tr_aload_n dX6_dropOldestAct_43 hl10 ?_
        refine q_bipush dX6_dropOldestAct_44 (by decide +kernel) ?_
        intro v30 h31
        refine q_putI dX6_dropOldestAct_46 fl6_21 (kR11 hS27.1 ta0) (Or.inl rfl) hS27 ta0 (by show (0 : Int) ≤ v30.toInt ∧ v30.toInt ≤ (12 : Int); exact om_a7613107 h31) rfl (by decide +kernel) ?_
        intro I32 hS33 e34 f35
        exact tr_vret hZ dX6_dropOldestAct_49 rfl (by decide) (by decide) ⟨rfl, rfl, rfl, rfl, rfl, hS33, (by (try rw [e34]); first | done | with_reducible assumption | omega), (fun A hA => by obtain rfl := Option.some.inj (d2.symm.trans hA); have z0 := d6; rw [show v3.toNatClampNeg = 0 from ti_cl (by exact om_71345643 h4)] at z0; have z1 := e28; have z2 := f29; rw [show v24.toNatClampNeg = 11 from ti_cl (by omega)] at z1 z2; exact RotI.fin rw18 (by exact om_c31ce048 g16 g17 h22 h23) z0 z1 z2), trivial⟩
      · skip
        refine tr_aload_n dX6_dropOldestAct_15 hl10 ?_
        refine tr_getR dX6_dropOldestAct_16 fl6_11 (kR11 hS15.1 ta0) ((hS15.rcell ta0 (by decide +kernel)).trans d2) ?_
        refine tr_iload_n dX6_dropOldestAct_19 hl12 ?_
        refine q_iconst dX6_dropOldestAct_20 (by decide) ?_
        intro v36 h37
        refine q_isubE dX6_dropOldestAct_21 (by intro j1 j2 j3 j4; exact om_b545e831 g16 g17 h37) ?_
        intro v38 h39
        refine tr_aload_n dX6_dropOldestAct_22 hl10 ?_
        refine tr_getR dX6_dropOldestAct_23 fl6_11 (kR11 hS15.1 ta0) ((hS15.rcell ta0 (by decide +kernel)).trans d2) ?_
        refine tr_iload_n dX6_dropOldestAct_26 hl12 ?_
        obtain ⟨a40, d41, ta40⟩ := rf33 hS15.1 ta1 (j := v9.toNatClampNeg) (ti_lt (by exact om_c2813513 g16 g17 h22 h23 h37 h39) (by exact om_0ea6762c g16 g17 h22 h23 h37 h39))
        refine tr_aald dX6_dropOldestAct_27 (kR33 hS15.1 ta1) (by decide) (by decide) (ti_in (nR33 hS15.1 ta1) (by exact om_c2813513 g16 g17 h22 h23 h37 h39) (by exact om_0ea6762c g16 g17 h22 h23 h37 h39)) d41 ?_
        refine q_aastE dX6_dropOldestAct_28 (kR33 hS15.1 ta1) (by decide) (by decide) (kR10 hS15.1 ta40) (ti_in (nR33 hS15.1 ta1) (by exact om_0065c546 g16 g17 h22 h23 h37 h39) (by exact om_5595707c g16 g17 h22 h23 h37 h39)) hS15 ta1 (by rw [re33 (ti_lt (by exact om_0065c546 g16 g17 h22 h23 h37 h39) (by exact om_5595707c g16 g17 h22 h23 h37 h39))]; exact okR_in rfl rfl ta40) rfl (by rfl) ?_
        intro R42 hS43 e44 f45
        refine q_iincE dX6_dropOldestAct_29 hl12 (by decide) (by decide) (by intro j1 j2; exact om_c94c2ed8 g16 g17 h22 h23 h37 h39) ?_
        intro v46 h47
        refine tr_goto 9 dX6_dropOldestAct_32 (by decide) ?_
        exact ih19 _ v46 I13 R42 hl10 hl11 rfl hS43 (by exact om_db319362 g16 g17 h22 h23 h37 h39 h47) (by exact om_3853b8b2 g16 g17 h22 h23 h37 h39 h47) (RotI.stp (j := v38.toNatClampNeg) rw18 (by have q := ti_nat (i := v38) (by exact om_1606ed00 g16 g17 h22 h23 h37 h39 h47); exact om_6ed9bbd8 h37 h39 h47 q) (by exact om_764ef139 h47) (by have q1 := ti_nat (i := v38) (by exact om_1606ed00 g16 g17 h22 h23 h37 h39 h47); have q2 := ti_nat (i := v9) (by exact om_49b29078 g16 g17 h22 h23 h37 h39 h47 q1); have z := d41; rw [show v9.toNatClampNeg = v38.toNatClampNeg + 1 by exact om_107ea215 h37 h39 h47 q1 q2] at z; exact z) e44 f45) (by exact om_9e13b349 g16 g17 hm19 h22 h23 h37 h39 h47)
  exact lp19 _ _ v7 I0 R0 rfl rfl rfl hS0 (by exact om_5f06d3fa h8) (by exact om_abd0eee8 h8) (RotI.rf (by exact om_e6632817 h8)) (Nat.lt_succ_self _)
def wik_X6_keepAct : List Nat := [640, 641, 642, 704, 2047, 2111]
def wrk_X6_keepAct : List Nat := [2175]
set_option maxHeartbeats 4000000 in
theorem fk_X6_keepAct {l : Launch} {T : Nat → Nat} {cn : Nat} {K N : Nat → Nat} {I0 : cz_I} {R0 : cz_R} {L0 : cz_L} {d : Int} (hW0 : Wf T cn K N I0 R0 d)  {a0 : Nat} (ta0 : T a0 = 11) {a1 : Nat} (ta1 : T a1 = 8) : ConE l mX6_keepAct [.ref a0, .ref a1] cn K N I0 R0 L0 (ca_v (fun cn' K' N' I' R' L' => cn = cn' ∧ K = K' ∧ N = N' ∧ L0 = L' ∧ St T cn K N d wik_X6_keepAct wrk_X6_keepAct I0 R0 I' R' ∧ (((I0 a0 0).toInt < 12 → (I' a0 0).toInt = (I0 a0 0).toInt + 1)) ∧ (((I0 a0 0).toInt ≥ 12 → (I' a0 0).toInt = 12)) ∧ (∀ A, R0 a0 1 = some A → KeC T I0 R0 I' R' A a1 (I0 a0 0).toInt) ∧ True)) := by
  refine ConE.of (by decide +kernel) rfl (Nat.le_of_ble_eq_true rfl) rfl (fun X hX hZ hE => ?_)
  subst hX
  have hS0 : St T cn K N d wik_X6_keepAct wrk_X6_keepAct I0 R0 I0 R0 := St.rf0 hW0
  obtain ⟨v1, c2⟩ : ∃ v, I0 a0 0 = v := ⟨_, rfl⟩
  have b3 := iv11_0 hS0.1 ta0 c2
  obtain ⟨a4, d5, ta4⟩ := rf11_1 hW0 ta0
  obtain ⟨v6, c7⟩ : ∃ v, I0 a1 0 = v := ⟨_, rfl⟩
  obtain ⟨v8, c9⟩ : ∃ v, I0 a1 1 = v := ⟨_, rfl⟩
  have b10 := iv8_1 hW0 ta1 c9
  obtain ⟨v11, c12⟩ : ∃ v, I0 a1 2 = v := ⟨_, rfl⟩
  have b13 := iv8_2 hW0 ta1 c12
  refine tr_aload_n dX6_keepAct_0 rfl ?_
  refine q_getI dX6_keepAct_1 fl6_21 (kR11 hS0.1 ta0) c2 ?_
  refine q_bipush dX6_keepAct_4 (by decide +kernel) ?_
  intro v14 h15
  refine q_icmp_ne 13 dX6_keepAct_6 (by decide) (fun h16 => ?_) (fun h16 => ?_)
  · skip
    refine tr_aload_n dX6_keepAct_13 rfl ?_
    refine tr_getR dX6_keepAct_14 fl6_11 (kR11 hS0.1 ta0) d5 ?_
    refine tr_aload_n dX6_keepAct_17 rfl ?_
    refine q_getI dX6_keepAct_18 fl6_21 (kR11 hS0.1 ta0) c2 ?_
    obtain ⟨a17, d18, ta17⟩ := rf33 hS0.1 ta4 (j := v1.toNatClampNeg) (ti_lt (by exact om_c59a7fde b3.2 b3.1) (by exact om_0565c6fc b3.2 b3.1 h15 h16))
    refine tr_aald dX6_keepAct_21 (kR33 hS0.1 ta4) (by decide) (by decide) (ti_in (nR33 hS0.1 ta4) (by exact om_c59a7fde b3.2 b3.1) (by exact om_0565c6fc b3.2 b3.1 h15 h16)) d18 ?_
    refine tr_aload_n dX6_keepAct_22 rfl ?_
    refine q_callVv hE (M' := mX3_become) (as := [_]) dX6_keepAct_23 lk6_31 inX3_become seX3_become myX3_become (by decide) ⟨by decide, by decide⟩ rfl (kR10 hS0.1 ta17) (Nat.le_of_ble_eq_true rfl) rfl rfl (by decide) (by decide) (fk_X3_become hS0.1  ta17 ta1) ?_
    rintro cn' K' N' I19 R20 L21 ⟨rfl, rfl, rfl, rfl, rfl, g22, p25, p26, p27, rp28, -⟩
    have hS29 := hS0.tr g22 (by decide +kernel) (by decide +kernel)
    have c30 : I19 a0 0 = v1 := (g22.cell ta0 (by decide +kernel)).trans c2
    obtain ⟨v31, c32⟩ : ∃ v, I19 a17 0 = v := ⟨_, rfl⟩
    rw [c32] at p25
    rw [c7] at p25
    obtain ⟨v33, c34⟩ : ∃ v, I19 a17 1 = v := ⟨_, rfl⟩
    have b35 := iv10_1 hS29.1 ta17 c34
    rw [c34] at p26
    rw [c9] at p26
    obtain ⟨v36, c37⟩ : ∃ v, I19 a17 2 = v := ⟨_, rfl⟩
    have b38 := iv10_2 hS29.1 ta17 c37
    rw [c37] at p27
    rw [c12] at p27
    refine tr_aload_n dX6_keepAct_26 rfl ?_
    refine tr_dup dX6_keepAct_27 rfl ?_
    refine q_getI dX6_keepAct_28 fl6_21 (kR11 hS29.1 ta0) c30 ?_
    refine q_iconst dX6_keepAct_31 (by decide) ?_
    intro v39 h40
    refine q_iaddE dX6_keepAct_32 (by intro j1 j2 j3 j4; exact om_e899b9cc b3.2 b3.1 h40) ?_
    intro v41 h42
    refine q_putI dX6_keepAct_33 fl6_21 (kR11 hS29.1 ta0) (Or.inl rfl) hS29 ta0 (by show (0 : Int) ≤ v41.toInt ∧ v41.toInt ≤ (12 : Int); exact om_32527961 b3.2 b3.1 h15 h16 h40 h42) rfl (by decide +kernel) ?_
    intro I43 hS44 e45 f46
    have c47 : I43 a17 0 = v31 := (f46 _ _ (fun q => by have z := ta17; rw [q.1, ta0] at z; exact absurd z (by decide))).trans c32
    have c48 : I43 a17 1 = v33 := (f46 _ _ (fun q => absurd q.2 (by decide))).trans c34
    have c49 : I43 a17 2 = v36 := (f46 _ _ (fun q => absurd q.2 (by decide))).trans c37
    exact tr_vret hZ dX6_keepAct_36 rfl (by decide) (by decide) ⟨rfl, rfl, rfl, rfl, rfl, hS44, (by (try rw [c2]); (try rw [e45]); first | done | with_reducible assumption | exact om_447baa6e h40 h42), (by (try rw [c2]); (try rw [e45]); first | done | with_reducible assumption | exact om_3d0de317 b3.2 b3.1 h15 h16 h40 h42), (fun A hA => by obtain rfl := Option.some.inj (d5.symm.trans hA); rw [c2]; exact ⟨a17, ta17, (by rw [if_pos (by exact om_1d16b0c4 b3.2 b3.1 h15 h16 h40 h42)]; have z := d18; rw [show v1.toNatClampNeg = v1.toInt.toNat from rfl] at z; exact z), (((FrO.rf (r := 10) (dr := a17) (T := T)).tr rp28).put f46 ta0 (Or.inl (by decide))), (by rw [c47, c7]; exact om_acd7a85a p25), (by rw [c48, c9]; exact om_acd7a85a p26), (by rw [c49, c12]; exact om_acd7a85a p27), (fun q => rfl), (fun q => absurd (by exact om_71c057db b3.2 b3.1 h15 h16 h40 h42 q) q)⟩), trivial⟩
  · skip
    refine tr_aload_n dX6_keepAct_9 rfl ?_
    refine q_callVv hE (M' := mX6_dropOldestAct) (as := []) dX6_keepAct_10 lk6_28 inX6_dropOldestAct seX6_dropOldestAct myX6_dropOldestAct (by decide) ⟨by decide, by decide⟩ rfl (kR11 hS0.1 ta0) (Nat.le_of_ble_eq_true rfl) rfl rfl (by decide) (by decide) (fk_X6_dropOldestAct hS0.1  ta0) ?_
    rintro cn' K' N' I50 R51 L52 ⟨rfl, rfl, rfl, rfl, g53, p56, rp57, -⟩
    have hS58 := hS0.tr g53 (by decide +kernel) (by decide +kernel)
    obtain ⟨v59, c60⟩ : ∃ v, I50 a0 0 = v := ⟨_, rfl⟩
    have b61 := iv11_0 hS58.1 ta0 c60
    rw [c60] at p56
    refine tr_aload_n dX6_keepAct_13 rfl ?_
    refine tr_getR dX6_keepAct_14 fl6_11 (kR11 hS58.1 ta0) ((hS58.rcell ta0 (by decide +kernel)).trans d5) ?_
    refine tr_aload_n dX6_keepAct_17 rfl ?_
    refine q_getI dX6_keepAct_18 fl6_21 (kR11 hS58.1 ta0) c60 ?_
    obtain ⟨a62, d63, ta62⟩ := rf33 hS58.1 ta4 (j := v59.toNatClampNeg) (ti_lt (by exact om_5ac1db1a p56) (by exact om_34141729 p56))
    refine tr_aald dX6_keepAct_21 (kR33 hS58.1 ta4) (by decide) (by decide) (ti_in (nR33 hS58.1 ta4) (by exact om_5ac1db1a p56) (by exact om_34141729 p56)) d63 ?_
    refine tr_aload_n dX6_keepAct_22 rfl ?_
    refine q_callVv hE (M' := mX3_become) (as := [_]) dX6_keepAct_23 lk6_31 inX3_become seX3_become myX3_become (by decide) ⟨by decide, by decide⟩ rfl (kR10 hS58.1 ta62) (Nat.le_of_ble_eq_true rfl) rfl rfl (by decide) (by decide) (fk_X3_become hS58.1  ta62 ta1) ?_
    rintro cn' K' N' I64 R65 L66 ⟨rfl, rfl, rfl, rfl, rfl, g67, p70, p71, p72, rp73, -⟩
    have hS74 := hS58.tr g67 (by decide +kernel) (by decide +kernel)
    have c75 : I64 a0 0 = v59 := (g67.cell ta0 (by decide +kernel)).trans c60
    obtain ⟨v76, c77⟩ : ∃ v, I64 a62 0 = v := ⟨_, rfl⟩
    rw [c77] at p70
    rw [((hS58.cell ta1 (by decide +kernel)).trans c7)] at p70
    obtain ⟨v78, c79⟩ : ∃ v, I64 a62 1 = v := ⟨_, rfl⟩
    have b80 := iv10_1 hS74.1 ta62 c79
    rw [c79] at p71
    rw [((hS58.cell ta1 (by decide +kernel)).trans c9)] at p71
    obtain ⟨v81, c82⟩ : ∃ v, I64 a62 2 = v := ⟨_, rfl⟩
    have b83 := iv10_2 hS74.1 ta62 c82
    rw [c82] at p72
    rw [((hS58.cell ta1 (by decide +kernel)).trans c12)] at p72
    refine tr_aload_n dX6_keepAct_26 rfl ?_
    refine tr_dup dX6_keepAct_27 rfl ?_
    refine q_getI dX6_keepAct_28 fl6_21 (kR11 hS74.1 ta0) c75 ?_
    refine q_iconst dX6_keepAct_31 (by decide) ?_
    intro v84 h85
    refine q_iaddE dX6_keepAct_32 (by intro j1 j2 j3 j4; exact om_31fc7224 p56 h85) ?_
    intro v86 h87
    refine q_putI dX6_keepAct_33 fl6_21 (kR11 hS74.1 ta0) (Or.inl rfl) hS74 ta0 (by show (0 : Int) ≤ v86.toInt ∧ v86.toInt ≤ (12 : Int); exact om_04d0eac9 p56 h85 h87) rfl (by decide +kernel) ?_
    intro I88 hS89 e90 f91
    have c92 : I88 a62 0 = v76 := (f91 _ _ (fun q => by have z := ta62; rw [q.1, ta0] at z; exact absurd z (by decide))).trans c77
    have c93 : I88 a62 1 = v78 := (f91 _ _ (fun q => absurd q.2 (by decide))).trans c79
    have c94 : I88 a62 2 = v81 := (f91 _ _ (fun q => absurd q.2 (by decide))).trans c82
    exact tr_vret hZ dX6_keepAct_36 rfl (by decide) (by decide) ⟨rfl, rfl, rfl, rfl, rfl, hS89, (by (try rw [c2]); (try rw [e90]); first | done | with_reducible assumption | exact om_2c95d5e0 h15 h16), (by (try rw [c2]); (try rw [e90]); first | done | with_reducible assumption | exact om_0df7a100 p56 h85 h87), (fun A hA => by obtain rfl := Option.some.inj (d5.symm.trans hA); rw [c2]; exact ⟨a62, ta62, (by rw [if_neg (by exact om_2944a011 h15 h16)]; have z := d63; rw [show v59.toNatClampNeg = 11 from ti_cl (by exact om_ee4ae450 p56)] at z; exact z), ((((FrO.rf (r := 10) (dr := a62) (T := T)).st g53 (by decide +kernel)).tr rp73).put f91 ta0 (Or.inl (by decide))), (by rw [c92, c7]; exact om_acd7a85a p70), (by rw [c93, c9]; exact om_acd7a85a p71), (by rw [c94, c12]; exact om_acd7a85a p72), (fun q => absurd q (by exact om_3bff7849 h15 h16 q)), (fun q => rp57 _ d5)⟩), trivial⟩
def wik_X10_allowed : List Nat := [81]
def wrk_X10_allowed : List Nat := []
set_option maxHeartbeats 4000000 in
theorem fk_X10_allowed {l : Launch} {T : Nat → Nat} {cn : Nat} {K N : Nat → Nat} {I0 : cz_I} {R0 : cz_R} {L0 : cz_L} {d : Int} (hW0 : Wf T cn K N I0 R0 d)  {a0 : Nat} (ta0 : T a0 = 1) : ConE l mX10_allowed [.ref a0] cn K N I0 R0 L0 (ca_i (fun v cn' K' N' I' R' L' => cn = cn' ∧ K = K' ∧ N = N' ∧ R0 = R' ∧ L0 = L' ∧ St T cn K N d wik_X10_allowed wrk_X10_allowed I0 R0 I' R0 ∧ (0 ≤ v.toInt ∧ v.toInt ≤ 1) ∧ (v.toInt = 1) ∧ ((I' a0 17).toInt = 0) ∧ True)) := by
  refine ConE.of (by decide +kernel) rfl (Nat.le_of_ble_eq_true rfl) rfl (fun X hX hZ hE => ?_)
  subst hX
  have hS0 : St T cn K N d wik_X10_allowed wrk_X10_allowed I0 R0 I0 R0 := St.rf0 hW0
  refine tr_aload_n dX10_allowed_0 rfl ?_
  refine q_iconst dX10_allowed_1 (by decide) ?_
  intro v1 h2
  refine q_putI dX10_allowed_2 fl10_112 (kR1 hS0.1 ta0) (Or.inl rfl) hS0 ta0 (iokF rfl) rfl (by decide +kernel) ?_
  intro I3 hS4 e5 f6
  refine q_iconst dX10_allowed_5 (by decide) ?_
  intro v7 h8
  exact tr_zret hZ dX10_allowed_6 rfl (ti_b01 (by exact om_f9079521 h8) (by exact om_e6632817 h8)) (by decide) (by decide) ⟨v7, rfl, rfl, rfl, rfl, rfl, rfl, hS4, (by exact om_d753bc65 h8), (by first | done | with_reducible assumption | omega), (by (try rw [e5]); first | done | with_reducible assumption | omega), trivial⟩
def wik_X10_call : List Nat := [75, 81, 512, 640, 641, 642, 704, 2047, 2111]
def wrk_X10_call : List Nat := [2175]
def Cs_X10_call (T : Nat → Nat) (I0 : cz_I) (R0 : cz_R) (a0 : Nat) (x1 : Int32) (x2 : Int32) (v : Int32) (I' : cz_I) (R' : cz_R) : Prop :=
  ((∀ b1, R0 a0 2 = some b1 → (x1.toInt < 0 ∨ x1.toInt ≥ (I0 b1 11).toInt)) ∧ (v.toInt = 0) ∧ (SmC T I0 R0 I' R') ∧ True) ∨
  ((0 ≤ x1.toInt) ∧ (∀ b1, R0 a0 2 = some b1 → x1.toInt < (I0 b1 11).toInt) ∧ (∀ b1, R0 a0 6 = some b1 → (bt (I0 b1 0).toInt x1.toInt) = x2.toInt) ∧ (v.toInt = 0) ∧ (SmC T I0 R0 I' R') ∧ True) ∨
  ((0 ≤ x1.toInt) ∧ (∀ b1, R0 a0 2 = some b1 → x1.toInt < (I0 b1 11).toInt) ∧ (∀ b1, R0 a0 6 = some b1 → (bt (I0 b1 0).toInt x1.toInt) ≠ x2.toInt) ∧ (v.toInt = 1) ∧ (KpC T I0 R0 I' R' a0) ∧ (∀ w, R0 a0 6 = some w → I' w 0 = I0 w 0 ^^^ ((1 : Int32) <<< (x1 &&& 31))) ∧ True)
set_option maxHeartbeats 4000000 in
theorem fk_X10_call {l : Launch} {T : Nat → Nat} {cn : Nat} {K N : Nat → Nat} {I0 : cz_I} {R0 : cz_R} {L0 : cz_L} {d : Int} (hW0 : Wf T cn K N I0 R0 d)  {a0 : Nat} (ta0 : T a0 = 1) {x1 : Int32} {x2 : Int32} (hx2 : 0 ≤ x2.toInt ∧ x2.toInt ≤ 1) (pre0 : ∀ b1, R0 a0 6 = some b1 → 0 ≤ (I0 b1 0).toInt) (pre1 : ∀ b1, R0 a0 6 = some b1 → (I0 b1 0).toInt ≤ 63) : ConE l mX10_call [.ref a0, .int x1, .int x2] cn K N I0 R0 L0 (ca_i (fun v cn' K' N' I' R' L' => cn = cn' ∧ K = K' ∧ N = N' ∧ L0 = L' ∧ St T cn K N d wik_X10_call wrk_X10_call I0 R0 I' R' ∧ (0 ≤ v.toInt ∧ v.toInt ≤ 1) ∧ Cs_X10_call T I0 R0 a0 x1 x2 v I' R' ∧ True)) := by
  refine ConE.of (by decide +kernel) rfl (Nat.le_of_ble_eq_true rfl) rfl (fun X hX hZ hE => ?_)
  subst hX
  have hS0 : St T cn K N d wik_X10_call wrk_X10_call I0 R0 I0 R0 := St.rf0 hW0
  obtain ⟨a1, d2, ta1⟩ := rf1_6 hW0 ta0
  obtain ⟨v3, c4⟩ : ∃ v, I0 a1 0 = v := ⟨_, rfl⟩
  have p5 := pre0 _ d2
  rw [c4] at p5
  have p6 := pre1 _ d2
  rw [c4] at p6
  obtain ⟨a7, d8, ta7⟩ := rf1_2 hW0 ta0
  obtain ⟨v9, c10⟩ : ∃ v, I0 a7 11 = v := ⟨_, rfl⟩
  have b11 := iv2_11 hW0 ta7 c10
  obtain ⟨a12, d13, ta12⟩ := rf1_7 hW0 ta0
  obtain ⟨a14, d15, ta14⟩ := rf11_1 hW0 ta12
  obtain ⟨a16, d17, ta16⟩ := rf11_3 hW0 ta12
  obtain ⟨v18, c19⟩ : ∃ v, I0 a12 0 = v := ⟨_, rfl⟩
  have b20 := iv11_0 hS0.1 ta12 c19
  obtain ⟨v21, c22⟩ : ∃ v, I0 a12 2 = v := ⟨_, rfl⟩
  have b23 := iv11_2 hW0 ta12 c22
  obtain ⟨v24, c25⟩ : ∃ v, I0 a1 1 = v := ⟨_, rfl⟩
  have b26 := iv8_1 hW0 ta1 c25
  obtain ⟨v27, c28⟩ : ∃ v, I0 a1 2 = v := ⟨_, rfl⟩
  have b29 := iv8_2 hW0 ta1 c28
  refine tr_iload_n dX10_call_0 rfl ?_
  refine q_if_lt 15 dX10_call_1 (by decide) (fun h30 => ?_) (fun h30 => ?_)
  · skip
    refine tr_aload_n dX10_call_15 rfl ?_
    refine q_iconst dX10_call_16 (by decide) ?_
    intro v31 h32
    refine q_callVi hE (M' := mX10_refusedAct) (as := [_]) dX10_call_17 lk10_281 inX10_refusedAct seX10_refusedAct myX10_refusedAct (by decide) ⟨by decide, by decide⟩ rfl (kR1 hS0.1 ta0) (Nat.le_of_ble_eq_true rfl) rfl rfl (by decide) (by decide) (fk_X10_refusedAct hS0.1  ta0) ?_
    rintro v38 cn' K' N' I33 R34 L35 ⟨rfl, rfl, rfl, rfl, rfl, g36, h39, p40, p41, -⟩
    have hS42 := hS0.tr g36 (by decide +kernel) (by decide +kernel)
    have c43 : I33 a1 0 = v3 := (g36.cell ta1 (by decide +kernel)).trans c4
    have c44 : I33 a12 0 = v18 := (g36.cell ta12 (by decide +kernel)).trans c19
    obtain ⟨v45, c46⟩ : ∃ v, I33 a0 17 = v := ⟨_, rfl⟩
    rw [c46] at p41
    exact tr_zret hZ dX10_call_20 rfl (ti_b01 (by exact om_d99fa9e4 p40) (by exact om_d3de7ec9 p40)) (by decide) (by decide) ⟨v38, rfl, rfl, rfl, rfl, rfl, hS42, (by exact om_be53a44c h39), (Or.inl ⟨(fun q0 z0 => by obtain rfl := Option.some.inj ((d8).symm.trans z0); (try rw [c10]); first | done | with_reducible assumption | exact om_82eb7c5a h30), (by first | done | with_reducible assumption | omega), ⟨rfl, fun a j h => by rcases h with h | h | h; exact (g36.cell h (wm_no (by decide +kernel))); exact (g36.cell h (wm_no (by decide +kernel))); exact (g36.cell h (wm_no (by decide +kernel)))⟩, trivial⟩), trivial⟩
  · skip
    refine tr_iload_n dX10_call_4 rfl ?_
    refine tr_aload_n dX10_call_5 rfl ?_
    refine tr_getR dX10_call_6 fl10_16 (kR1 hS0.1 ta0) d8 ?_
    refine q_getI dX10_call_9 fl10_278 (kR2 hS0.1 ta7) c10 ?_
    refine q_icmp_lt 21 dX10_call_12 (by decide) (fun h47 => ?_) (fun h47 => ?_)
    · skip
      refine tr_aload_n dX10_call_21 rfl ?_
      refine tr_getR dX10_call_22 fl10_35 (kR1 hS0.1 ta0) d2 ?_
      refine q_getI dX10_call_25 fl10_181 (kR8 hS0.1 ta1) c4 ?_
      refine tr_iload_n dX10_call_28 rfl ?_
      refine q_callSi hE (M' := mX10_bit) (as := [_, _]) dX10_call_29 lk10_136 inX10_bit myX10_bit ⟨by decide, by decide⟩ rfl (Nat.le_of_ble_eq_true rfl) rfl rfl (by decide) (by decide) (f_X10_bitW   (by exact om_a8c3f4c1 p5 p6) (by exact om_d73abc73 b11.2 b11.1 h30 h47)) ?_
      rintro v53 cn' K' N' I48 R49 L50 ⟨rfl, rfl, rfl, rfl, rfl, rfl, p54, -⟩
      have btv53 := bt_01 v3.toInt x1.toInt
      refine q_iconst dX10_call_32 (by decide) ?_
      intro v55 h56
      refine q_icmp_ne 40 dX10_call_33 (by decide) (fun h57 => ?_) (fun h57 => ?_)
      · skip
        refine q_iconst dX10_call_40 (by decide) ?_
        intro v58 h59
        refine tr_iload_n dX10_call_41 rfl ?_
        refine q_icmp_ne 51 dX10_call_42 (by decide) (fun h60 => ?_) (fun h60 => ?_)
        · skip
          refine tr_aload_n dX10_call_51 rfl ?_
          refine tr_getR dX10_call_52 fl10_42 (kR1 hS0.1 ta0) d13 ?_
          refine tr_aload_n dX10_call_55 rfl ?_
          refine tr_getR dX10_call_56 fl10_35 (kR1 hS0.1 ta0) d2 ?_
          refine q_callVv hE (M' := mX6_keepAct) (as := [_]) dX10_call_59 lk10_284 inX6_keepAct seX6_keepAct myX6_keepAct (by decide) ⟨by decide, by decide⟩ rfl (kR11 hS0.1 ta12) (Nat.le_of_ble_eq_true rfl) rfl rfl (by decide) (by decide) (fk_X6_keepAct hS0.1  ta12 ta1) ?_
          rintro cn' K' N' I61 R62 L63 ⟨rfl, rfl, rfl, rfl, g64, p67, p68, rp69, -⟩
          have hS70 := hS0.tr g64 (by decide +kernel) (by decide +kernel)
          have c71 : I61 a1 0 = v3 := (g64.cell ta1 (by decide +kernel)).trans c4
          obtain ⟨v72, c73⟩ : ∃ v, I61 a12 0 = v := ⟨_, rfl⟩
          have b74 := iv11_0 hS70.1 ta12 c73
          rw [c19] at p67
          rw [c73] at p67
          rw [c19] at p68
          rw [c73] at p68
          refine tr_aload_n dX10_call_62 rfl ?_
          refine tr_getR dX10_call_63 fl10_35 (kR1 hS70.1 ta0) ((hS70.rcell ta0 (by decide +kernel)).trans d2) ?_
          refine tr_dup dX10_call_66 rfl ?_
          refine q_getI dX10_call_67 fl10_181 (kR8 hS70.1 ta1) c71 ?_
          refine q_iconst dX10_call_70 (by decide) ?_
          intro v75 h76
          refine tr_iload_n dX10_call_71 rfl ?_
          refine tr_ishl dX10_call_72 ?_
          obtain ⟨v77, lx78⟩ : ∃ z, z = v75 <<< (x1 &&& 31) := ⟨_, rfl⟩
          rw [← lx78]
          refine tr_ixor dX10_call_73 ?_
          obtain ⟨v79, lx80⟩ : ∃ z, z = v3 ^^^ v77 := ⟨_, rfl⟩
          rw [← lx80]
          refine q_putI dX10_call_74 fl10_181 (kR8 hS70.1 ta1) (Or.inl rfl) hS70 ta1 (iokF rfl) rfl (by decide +kernel) ?_
          intro I81 hS82 e83 f84
          have c85 : I81 a12 0 = v72 := (f84 _ _ (fun q => by have z := ta12; rw [q.1, ta1] at z; exact absurd z (by decide))).trans c73
          refine tr_aload_n dX10_call_77 rfl ?_
          refine q_iconst dX10_call_78 (by decide) ?_
          intro v86 h87
          refine q_putZ dX10_call_79 fl10_288 (kR1 hS82.1 ta0) (Or.inl rfl) hS82 ta0 (by exact om_3b50ecb9 h87) (by show (0 : Int) ≤ v86.toInt ∧ v86.toInt ≤ (1 : Int); exact om_3b50ecb9 h87) rfl (by decide +kernel) ?_
          intro I88 hS89 e90 f91
          have c92 : I88 a12 0 = v72 := (f91 _ _ (fun q => absurd q.2 (by decide))).trans c85
          have c93 : I88 a1 0 = v79 := (f91 _ _ (fun q => absurd q.2 (by decide))).trans e83
          refine tr_aload_n dX10_call_82 rfl ?_
          refine q_callVi hE (M' := mX10_allowed) (as := []) dX10_call_83 lk10_291 inX10_allowed seX10_allowed myX10_allowed (by decide) ⟨by decide, by decide⟩ rfl (kR1 hS89.1 ta0) (Nat.le_of_ble_eq_true rfl) rfl rfl (by decide) (by decide) (fk_X10_allowed hS89.1  ta0) ?_
          rintro v99 cn' K' N' I94 R95 L96 ⟨rfl, rfl, rfl, rfl, rfl, g97, h100, p101, p102, -⟩
          have hS103 := hS89.tr g97 (by decide +kernel) (by decide +kernel)
          have c104 : I94 a12 0 = v72 := (g97.cell ta12 (by decide +kernel)).trans c92
          have c105 : I94 a1 0 = v79 := (g97.cell ta1 (by decide +kernel)).trans c93
          have c106 : I94 a0 11 = v86 := (g97.cell ta0 (by decide +kernel)).trans e90
          obtain ⟨v107, c108⟩ : ∃ v, I94 a0 17 = v := ⟨_, rfl⟩
          rw [c108] at p102
          exact tr_zret hZ dX10_call_86 rfl (ti_b01 (by exact om_f9079521 p101) (by exact om_e6632817 p101)) (by decide) (by decide) ⟨v99, rfl, rfl, rfl, rfl, rfl, hS103, (by exact om_be53a44c h100), (Or.inr (Or.inr (⟨(by first | done | with_reducible assumption | omega), (fun q0 z0 => by obtain rfl := Option.some.inj ((d8).symm.trans z0); (try rw [c10]); first | done | with_reducible assumption | omega), (fun q0 z0 => by obtain rfl := Option.some.inj ((d2).symm.trans z0); (try rw [c4]); first | done | with_reducible assumption | exact om_ae8bb8b2 hx2.2 hx2.1 b20.2 b20.1 p54 h56 h57 h59 h60 p68 p67), (by first | done | with_reducible assumption | omega), (fun nw pa A h1 h2 h3 => by obtain rfl := Option.some.inj (d2.symm.trans h1); obtain rfl := Option.some.inj (d13.symm.trans h2); obtain rfl := Option.some.inj (d15.symm.trans h3); exact ⟨KeC.kp (rp69 _ d15) (fun a j h => ((g97.cell h (wm_no (by decide +kernel))).trans ((f91 _ _ (fun q => by have z := h; rw [q.1, ta0] at z; exact absurd z (by decide))).trans (f84 _ _ (fun q => by have z := h; rw [q.1, ta1] at z; exact absurd z (by decide)))))), fun q => by rw [c104, c19]; rw [c19] at q; exact om_6f80cd6c b20.2 b20.1 p67 q, fun q => by rw [c104]; rw [c19] at q; exact om_6851ab51 b20.2 b20.1 p68 p67 b74.2 b74.1 q⟩), (fun w hw => by obtain rfl := Option.some.inj (d2.symm.trans hw); rw [c105, lx80, lx78, show v75 = (1 : Int32) from Int32.toInt_inj.mp (by rw [h76]; rfl), c4]), trivial⟩))), trivial⟩
        · skip
          refine tr_aload_n dX10_call_45 rfl ?_
          refine q_iconst dX10_call_46 (by decide) ?_
          intro v109 h110
          refine q_callVi hE (M' := mX10_refusedAct) (as := [_]) dX10_call_47 lk10_281 inX10_refusedAct seX10_refusedAct myX10_refusedAct (by decide) ⟨by decide, by decide⟩ rfl (kR1 hS0.1 ta0) (Nat.le_of_ble_eq_true rfl) rfl rfl (by decide) (by decide) (fk_X10_refusedAct hS0.1  ta0) ?_
          rintro v116 cn' K' N' I111 R112 L113 ⟨rfl, rfl, rfl, rfl, rfl, g114, h117, p118, p119, -⟩
          have hS120 := hS0.tr g114 (by decide +kernel) (by decide +kernel)
          have c121 : I111 a1 0 = v3 := (g114.cell ta1 (by decide +kernel)).trans c4
          have c122 : I111 a12 0 = v18 := (g114.cell ta12 (by decide +kernel)).trans c19
          obtain ⟨v123, c124⟩ : ∃ v, I111 a0 17 = v := ⟨_, rfl⟩
          rw [c124] at p119
          exact tr_zret hZ dX10_call_50 rfl (ti_b01 (by exact om_d99fa9e4 p118) (by exact om_d3de7ec9 p118)) (by decide) (by decide) ⟨v116, rfl, rfl, rfl, rfl, rfl, hS120, (by exact om_be53a44c h117), (by first | exact Or.inl ⟨(fun q0 z0 => by obtain rfl := Option.some.inj ((d8).symm.trans z0); (try rw [c10]); first | done | with_reducible assumption | fail), (by first | done | with_reducible assumption | omega), ⟨rfl, fun a j h => by rcases h with h | h | h; exact (g114.cell h (wm_no (by decide +kernel))); exact (g114.cell h (wm_no (by decide +kernel))); exact (g114.cell h (wm_no (by decide +kernel)))⟩, trivial⟩ | exact Or.inr (Or.inl ⟨(by first | done | with_reducible assumption | omega), (fun q0 z0 => by obtain rfl := Option.some.inj ((d8).symm.trans z0); (try rw [c10]); first | done | with_reducible assumption | omega), (fun q0 z0 => by obtain rfl := Option.some.inj ((d2).symm.trans z0); (try rw [c4]); first | done | with_reducible assumption | exact om_26e037cf p54 btv53 h56 h57 h59 h60), (by first | done | with_reducible assumption | omega), ⟨rfl, fun a j h => by rcases h with h | h | h; exact (g114.cell h (wm_no (by decide +kernel))); exact (g114.cell h (wm_no (by decide +kernel))); exact (g114.cell h (wm_no (by decide +kernel)))⟩, trivial⟩)), trivial⟩
      · skip
        refine q_iconst dX10_call_36 (by decide) ?_
        intro v125 h126
        refine tr_goto 41 dX10_call_37 (by decide) ?_
        refine tr_iload_n dX10_call_41 rfl ?_
        refine q_icmp_ne 51 dX10_call_42 (by decide) (fun h127 => ?_) (fun h127 => ?_)
        · skip
          refine tr_aload_n dX10_call_51 rfl ?_
          refine tr_getR dX10_call_52 fl10_42 (kR1 hS0.1 ta0) d13 ?_
          refine tr_aload_n dX10_call_55 rfl ?_
          refine tr_getR dX10_call_56 fl10_35 (kR1 hS0.1 ta0) d2 ?_
          refine q_callVv hE (M' := mX6_keepAct) (as := [_]) dX10_call_59 lk10_284 inX6_keepAct seX6_keepAct myX6_keepAct (by decide) ⟨by decide, by decide⟩ rfl (kR11 hS0.1 ta12) (Nat.le_of_ble_eq_true rfl) rfl rfl (by decide) (by decide) (fk_X6_keepAct hS0.1  ta12 ta1) ?_
          rintro cn' K' N' I128 R129 L130 ⟨rfl, rfl, rfl, rfl, g131, p134, p135, rp136, -⟩
          have hS137 := hS0.tr g131 (by decide +kernel) (by decide +kernel)
          have c138 : I128 a1 0 = v3 := (g131.cell ta1 (by decide +kernel)).trans c4
          obtain ⟨v139, c140⟩ : ∃ v, I128 a12 0 = v := ⟨_, rfl⟩
          have b141 := iv11_0 hS137.1 ta12 c140
          rw [c19] at p134
          rw [c140] at p134
          rw [c19] at p135
          rw [c140] at p135
          refine tr_aload_n dX10_call_62 rfl ?_
          refine tr_getR dX10_call_63 fl10_35 (kR1 hS137.1 ta0) ((hS137.rcell ta0 (by decide +kernel)).trans d2) ?_
          refine tr_dup dX10_call_66 rfl ?_
          refine q_getI dX10_call_67 fl10_181 (kR8 hS137.1 ta1) c138 ?_
          refine q_iconst dX10_call_70 (by decide) ?_
          intro v142 h143
          refine tr_iload_n dX10_call_71 rfl ?_
          refine tr_ishl dX10_call_72 ?_
          obtain ⟨v144, lx145⟩ : ∃ z, z = v142 <<< (x1 &&& 31) := ⟨_, rfl⟩
          rw [← lx145]
          refine tr_ixor dX10_call_73 ?_
          obtain ⟨v146, lx147⟩ : ∃ z, z = v3 ^^^ v144 := ⟨_, rfl⟩
          rw [← lx147]
          refine q_putI dX10_call_74 fl10_181 (kR8 hS137.1 ta1) (Or.inl rfl) hS137 ta1 (iokF rfl) rfl (by decide +kernel) ?_
          intro I148 hS149 e150 f151
          have c152 : I148 a12 0 = v139 := (f151 _ _ (fun q => by have z := ta12; rw [q.1, ta1] at z; exact absurd z (by decide))).trans c140
          refine tr_aload_n dX10_call_77 rfl ?_
          refine q_iconst dX10_call_78 (by decide) ?_
          intro v153 h154
          refine q_putZ dX10_call_79 fl10_288 (kR1 hS149.1 ta0) (Or.inl rfl) hS149 ta0 (by exact om_3b50ecb9 h154) (by show (0 : Int) ≤ v153.toInt ∧ v153.toInt ≤ (1 : Int); exact om_3b50ecb9 h154) rfl (by decide +kernel) ?_
          intro I155 hS156 e157 f158
          have c159 : I155 a12 0 = v139 := (f158 _ _ (fun q => absurd q.2 (by decide))).trans c152
          have c160 : I155 a1 0 = v146 := (f158 _ _ (fun q => absurd q.2 (by decide))).trans e150
          refine tr_aload_n dX10_call_82 rfl ?_
          refine q_callVi hE (M' := mX10_allowed) (as := []) dX10_call_83 lk10_291 inX10_allowed seX10_allowed myX10_allowed (by decide) ⟨by decide, by decide⟩ rfl (kR1 hS156.1 ta0) (Nat.le_of_ble_eq_true rfl) rfl rfl (by decide) (by decide) (fk_X10_allowed hS156.1  ta0) ?_
          rintro v166 cn' K' N' I161 R162 L163 ⟨rfl, rfl, rfl, rfl, rfl, g164, h167, p168, p169, -⟩
          have hS170 := hS156.tr g164 (by decide +kernel) (by decide +kernel)
          have c171 : I161 a12 0 = v139 := (g164.cell ta12 (by decide +kernel)).trans c159
          have c172 : I161 a1 0 = v146 := (g164.cell ta1 (by decide +kernel)).trans c160
          have c173 : I161 a0 11 = v153 := (g164.cell ta0 (by decide +kernel)).trans e157
          obtain ⟨v174, c175⟩ : ∃ v, I161 a0 17 = v := ⟨_, rfl⟩
          rw [c175] at p169
          exact tr_zret hZ dX10_call_86 rfl (ti_b01 (by exact om_f9079521 p168) (by exact om_e6632817 p168)) (by decide) (by decide) ⟨v166, rfl, rfl, rfl, rfl, rfl, hS170, (by exact om_be53a44c h167), (Or.inr (Or.inr (⟨(by first | done | with_reducible assumption | omega), (fun q0 z0 => by obtain rfl := Option.some.inj ((d8).symm.trans z0); (try rw [c10]); first | done | with_reducible assumption | omega), (fun q0 z0 => by obtain rfl := Option.some.inj ((d2).symm.trans z0); (try rw [c4]); first | done | with_reducible assumption | exact om_1e44ca2c b20.2 b20.1 p54 h56 h57 h126 h127 p135 p134), (by first | done | with_reducible assumption | omega), (fun nw pa A h1 h2 h3 => by obtain rfl := Option.some.inj (d2.symm.trans h1); obtain rfl := Option.some.inj (d13.symm.trans h2); obtain rfl := Option.some.inj (d15.symm.trans h3); exact ⟨KeC.kp (rp136 _ d15) (fun a j h => ((g164.cell h (wm_no (by decide +kernel))).trans ((f158 _ _ (fun q => by have z := h; rw [q.1, ta0] at z; exact absurd z (by decide))).trans (f151 _ _ (fun q => by have z := h; rw [q.1, ta1] at z; exact absurd z (by decide)))))), fun q => by rw [c171, c19]; rw [c19] at q; exact om_6f80cd6c b20.2 b20.1 p134 q, fun q => by rw [c171]; rw [c19] at q; exact om_6851ab51 b20.2 b20.1 p135 p134 b141.2 b141.1 q⟩), (fun w hw => by obtain rfl := Option.some.inj (d2.symm.trans hw); rw [c172, lx147, lx145, show v142 = (1 : Int32) from Int32.toInt_inj.mp (by rw [h143]; rfl), c4]), trivial⟩))), trivial⟩
        · skip
          refine tr_aload_n dX10_call_45 rfl ?_
          refine q_iconst dX10_call_46 (by decide) ?_
          intro v176 h177
          refine q_callVi hE (M' := mX10_refusedAct) (as := [_]) dX10_call_47 lk10_281 inX10_refusedAct seX10_refusedAct myX10_refusedAct (by decide) ⟨by decide, by decide⟩ rfl (kR1 hS0.1 ta0) (Nat.le_of_ble_eq_true rfl) rfl rfl (by decide) (by decide) (fk_X10_refusedAct hS0.1  ta0) ?_
          rintro v183 cn' K' N' I178 R179 L180 ⟨rfl, rfl, rfl, rfl, rfl, g181, h184, p185, p186, -⟩
          have hS187 := hS0.tr g181 (by decide +kernel) (by decide +kernel)
          have c188 : I178 a1 0 = v3 := (g181.cell ta1 (by decide +kernel)).trans c4
          have c189 : I178 a12 0 = v18 := (g181.cell ta12 (by decide +kernel)).trans c19
          obtain ⟨v190, c191⟩ : ∃ v, I178 a0 17 = v := ⟨_, rfl⟩
          rw [c191] at p186
          exact tr_zret hZ dX10_call_50 rfl (ti_b01 (by exact om_d99fa9e4 p185) (by exact om_d3de7ec9 p185)) (by decide) (by decide) ⟨v183, rfl, rfl, rfl, rfl, rfl, hS187, (by exact om_be53a44c h184), (by first | exact Or.inl ⟨(fun q0 z0 => by obtain rfl := Option.some.inj ((d8).symm.trans z0); (try rw [c10]); first | done | with_reducible assumption | fail), (by first | done | with_reducible assumption | omega), ⟨rfl, fun a j h => by rcases h with h | h | h; exact (g181.cell h (wm_no (by decide +kernel))); exact (g181.cell h (wm_no (by decide +kernel))); exact (g181.cell h (wm_no (by decide +kernel)))⟩, trivial⟩ | exact Or.inr (Or.inl ⟨(by first | done | with_reducible assumption | omega), (fun q0 z0 => by obtain rfl := Option.some.inj ((d8).symm.trans z0); (try rw [c10]); first | done | with_reducible assumption | omega), (fun q0 z0 => by obtain rfl := Option.some.inj ((d2).symm.trans z0); (try rw [c4]); first | done | with_reducible assumption | exact om_0e6b474b p54 h56 h57 h126 h127), (by first | done | with_reducible assumption | omega), ⟨rfl, fun a j h => by rcases h with h | h | h; exact (g181.cell h (wm_no (by decide +kernel))); exact (g181.cell h (wm_no (by decide +kernel))); exact (g181.cell h (wm_no (by decide +kernel)))⟩, trivial⟩)), trivial⟩
    · skip
      refine tr_aload_n dX10_call_15 rfl ?_
      refine q_iconst dX10_call_16 (by decide) ?_
      intro v192 h193
      refine q_callVi hE (M' := mX10_refusedAct) (as := [_]) dX10_call_17 lk10_281 inX10_refusedAct seX10_refusedAct myX10_refusedAct (by decide) ⟨by decide, by decide⟩ rfl (kR1 hS0.1 ta0) (Nat.le_of_ble_eq_true rfl) rfl rfl (by decide) (by decide) (fk_X10_refusedAct hS0.1  ta0) ?_
      rintro v199 cn' K' N' I194 R195 L196 ⟨rfl, rfl, rfl, rfl, rfl, g197, h200, p201, p202, -⟩
      have hS203 := hS0.tr g197 (by decide +kernel) (by decide +kernel)
      have c204 : I194 a1 0 = v3 := (g197.cell ta1 (by decide +kernel)).trans c4
      have c205 : I194 a12 0 = v18 := (g197.cell ta12 (by decide +kernel)).trans c19
      obtain ⟨v206, c207⟩ : ∃ v, I194 a0 17 = v := ⟨_, rfl⟩
      rw [c207] at p202
      exact tr_zret hZ dX10_call_20 rfl (ti_b01 (by exact om_d99fa9e4 p201) (by exact om_d3de7ec9 p201)) (by decide) (by decide) ⟨v199, rfl, rfl, rfl, rfl, rfl, hS203, (by exact om_be53a44c h200), (by first | exact Or.inl ⟨(fun q0 z0 => by obtain rfl := Option.some.inj ((d8).symm.trans z0); (try rw [c10]); first | done | with_reducible assumption | exact om_0273c8de h47), (by first | done | with_reducible assumption | omega), ⟨rfl, fun a j h => by rcases h with h | h | h; exact (g197.cell h (wm_no (by decide +kernel))); exact (g197.cell h (wm_no (by decide +kernel))); exact (g197.cell h (wm_no (by decide +kernel)))⟩, trivial⟩ | exact Or.inr (Or.inl ⟨(by first | done | with_reducible assumption | omega), (fun q0 z0 => by obtain rfl := Option.some.inj ((d8).symm.trans z0); (try rw [c10]); first | done | with_reducible assumption | omega), (fun q0 z0 => by obtain rfl := Option.some.inj ((d2).symm.trans z0); (try rw [c4]); first | done | with_reducible assumption | omega), (by first | done | with_reducible assumption | omega), ⟨rfl, fun a j h => by rcases h with h | h | h; exact (g197.cell h (wm_no (by decide +kernel))); exact (g197.cell h (wm_no (by decide +kernel))); exact (g197.cell h (wm_no (by decide +kernel)))⟩, trivial⟩)), trivial⟩
def wik_X10_calls : List Nat := [81]
def wrk_X10_calls : List Nat := []
def Cs_X10_calls (T : Nat → Nat) (I0 : cz_I) (R0 : cz_R) (a0 : Nat) (v : Int32) (I' : cz_I) (R' : cz_R) : Prop :=
  (((I0 a0 5).toInt = 0) ∧ (v.toInt = -1) ∧ True) ∨
  (((I0 a0 5).toInt = 1) ∧ (∀ b1, R0 a0 6 = some b1 → v.toInt = (I0 b1 0).toInt) ∧ True)
set_option maxHeartbeats 4000000 in
theorem fk_X10_calls {l : Launch} {T : Nat → Nat} {cn : Nat} {K N : Nat → Nat} {I0 : cz_I} {R0 : cz_R} {L0 : cz_L} {d : Int} (hW0 : Wf T cn K N I0 R0 d)  {a0 : Nat} (ta0 : T a0 = 1) : ConE l mX10_calls [.ref a0] cn K N I0 R0 L0 (ca_i (fun v cn' K' N' I' R' L' => cn = cn' ∧ K = K' ∧ N = N' ∧ R0 = R' ∧ L0 = L' ∧ St T cn K N d wik_X10_calls wrk_X10_calls I0 R0 I' R0 ∧ Cs_X10_calls T I0 R0 a0 v I' R0 ∧ True)) := by
  refine ConE.of (by decide +kernel) rfl (Nat.le_of_ble_eq_true rfl) rfl (fun X hX hZ hE => ?_)
  subst hX
  have hS0 : St T cn K N d wik_X10_calls wrk_X10_calls I0 R0 I0 R0 := St.rf0 hW0
  obtain ⟨v1, c2⟩ : ∃ v, I0 a0 5 = v := ⟨_, rfl⟩
  have b3 := iv1_5 hW0 ta0 c2
  obtain ⟨a4, d5, ta4⟩ := rf1_6 hW0 ta0
  obtain ⟨v6, c7⟩ : ∃ v, I0 a4 0 = v := ⟨_, rfl⟩
  refine tr_aload_n dX10_calls_0 rfl ?_
  refine q_getZ dX10_calls_1 fl10_95 (kR1 hS0.1 ta0) c2 ?_
  refine q_if_eq 21 dX10_calls_4 (by decide) (fun h8 => ?_) (fun h8 => ?_)
  · skip
    refine tr_aload_n dX10_calls_21 rfl ?_
    refine q_iconst dX10_calls_22 (by decide) ?_
    intro v9 h10
    refine q_callVi hE (M' := mX10_refused) (as := [_]) dX10_calls_23 lk10_79 inX10_refused seX10_refused myX10_refused (by decide) ⟨by decide, by decide⟩ rfl (kR1 hS0.1 ta0) (Nat.le_of_ble_eq_true rfl) rfl rfl (by decide) (by decide) (fk_X10_refused hS0.1  ta0) ?_
    rintro v16 cn' K' N' I11 R12 L13 ⟨rfl, rfl, rfl, rfl, rfl, g14, p17, p18, -⟩
    have hS19 := hS0.tr g14 (by decide +kernel) (by decide +kernel)
    obtain ⟨v20, c21⟩ : ∃ v, I11 a0 17 = v := ⟨_, rfl⟩
    rw [c21] at p18
    exact tr_iret hZ dX10_calls_26 rfl (by decide) (by decide) ⟨v16, rfl, rfl, rfl, rfl, rfl, rfl, hS19, (Or.inl ⟨(by (try rw [c2]); first | done | with_reducible assumption | omega), (by first | done | with_reducible assumption | omega), trivial⟩), trivial⟩
  · skip
    refine tr_aload_n dX10_calls_7 rfl ?_
    refine tr_aload_n dX10_calls_8 rfl ?_
    refine tr_getR dX10_calls_9 fl10_35 (kR1 hS0.1 ta0) d5 ?_
    refine q_getI dX10_calls_12 fl10_181 (kR8 hS0.1 ta4) c7 ?_
    refine q_callVi hE (M' := mX10_answered) (as := [_]) dX10_calls_15 lk10_109 inX10_answered seX10_answered myX10_answered (by decide) ⟨by decide, by decide⟩ rfl (kR1 hS0.1 ta0) (Nat.le_of_ble_eq_true rfl) rfl rfl (by decide) (by decide) (fk_X10_answered hS0.1  ta0) ?_
    rintro v27 cn' K' N' I22 R23 L24 ⟨rfl, rfl, rfl, rfl, rfl, g25, p28, p29, -⟩
    have hS30 := hS0.tr g25 (by decide +kernel) (by decide +kernel)
    obtain ⟨v31, c32⟩ : ∃ v, I22 a0 17 = v := ⟨_, rfl⟩
    rw [c32] at p29
    refine tr_goto 26 dX10_calls_18 (by decide) ?_
    exact tr_iret hZ dX10_calls_26 rfl (by decide) (by decide) ⟨v27, rfl, rfl, rfl, rfl, rfl, rfl, hS30, (Or.inr (⟨(by (try rw [c2]); first | done | with_reducible assumption | exact om_eea3e830 b3.2 b3.1 h8), (fun q0 z0 => by obtain rfl := Option.some.inj ((d5).symm.trans z0); (try rw [c7]); first | done | with_reducible assumption | omega), trivial⟩)), trivial⟩
set_option maxHeartbeats 4000000 in
theorem fk_X10_isMinute {l : Launch} {T : Nat → Nat} {cn : Nat} {K N : Nat → Nat} {I0 : cz_I} {R0 : cz_R} {L0 : cz_L} {d : Int} (hW0 : Wf T cn K N I0 R0 d)  {a0 : Nat} (ta0 : T a0 = 1) {x1 : Int32} : ConE l mX10_isMinute [.ref a0, .int x1] cn K N I0 R0 L0 (ca_i (fun v cn' K' N' I' R' L' => cn = cn' ∧ K = K' ∧ N = N' ∧ I0 = I' ∧ R0 = R' ∧ L0 = L' ∧ (0 ≤ v.toInt ∧ v.toInt ≤ 1) ∧ (∀ b1, R0 a0 2 = some b1 → (v.toInt = 1 → (0 ≤ x1.toInt ∧ x1.toInt < (I0 b1 0).toInt))) ∧ (∀ b1, R0 a0 2 = some b1 → (v.toInt = 0 → (x1.toInt < 0 ∨ x1.toInt ≥ (I0 b1 0).toInt))) ∧ True)) := by
  refine ConE.of (by decide +kernel) rfl (Nat.le_of_ble_eq_true rfl) rfl (fun X hX hZ hE => ?_)
  subst hX
  obtain ⟨a1, d2, ta1⟩ := rf1_2 hW0 ta0
  obtain ⟨v3, c4⟩ : ∃ v, I0 a1 0 = v := ⟨_, rfl⟩
  have b5 := iv2_0 hW0 ta1 c4
  refine tr_iload_n dX10_isMinute_0 rfl ?_
  refine q_if_lt 19 dX10_isMinute_1 (by decide) (fun h6 => ?_) (fun h6 => ?_)
  · skip
    refine q_iconst dX10_isMinute_19 (by decide) ?_
    intro v7 h8
    exact tr_zret hZ dX10_isMinute_20 rfl (ti_b01 (by exact om_d99fa9e4 h8) (by exact om_d3de7ec9 h8)) (by decide) (by decide) ⟨v7, rfl, rfl, rfl, rfl, rfl, rfl, rfl, (by exact om_3b50ecb9 h8), (fun q0 z0 => by obtain rfl := Option.some.inj ((d2).symm.trans z0); (try rw [c4]); first | done | with_reducible assumption | exact om_67774191 h8), (fun q0 z0 => by obtain rfl := Option.some.inj ((d2).symm.trans z0); (try rw [c4]); first | done | with_reducible assumption | exact om_05299518 h6), trivial⟩
  · skip
    refine tr_iload_n dX10_isMinute_4 rfl ?_
    refine tr_aload_n dX10_isMinute_5 rfl ?_
    refine tr_getR dX10_isMinute_6 fl10_16 (kR1 hW0 ta0) d2 ?_
    refine q_getI dX10_isMinute_9 fl10_146 (kR2 hW0 ta1) c4 ?_
    refine q_icmp_ge 19 dX10_isMinute_12 (by decide) (fun h9 => ?_) (fun h9 => ?_)
    · skip
      refine q_iconst dX10_isMinute_19 (by decide) ?_
      intro v10 h11
      exact tr_zret hZ dX10_isMinute_20 rfl (ti_b01 (by exact om_d99fa9e4 h11) (by exact om_d3de7ec9 h11)) (by decide) (by decide) ⟨v10, rfl, rfl, rfl, rfl, rfl, rfl, rfl, (by exact om_3b50ecb9 h11), (fun q0 z0 => by obtain rfl := Option.some.inj ((d2).symm.trans z0); (try rw [c4]); first | done | with_reducible assumption | exact om_67774191 h11), (fun q0 z0 => by obtain rfl := Option.some.inj ((d2).symm.trans z0); (try rw [c4]); first | done | with_reducible assumption | exact om_ffa44cdb h9), trivial⟩
    · skip
      refine q_iconst dX10_isMinute_15 (by decide) ?_
      intro v12 h13
      refine tr_goto 20 dX10_isMinute_16 (by decide) ?_
      exact tr_zret hZ dX10_isMinute_20 rfl (ti_b01 (by exact om_f9079521 h13) (by exact om_e6632817 h13)) (by decide) (by decide) ⟨v12, rfl, rfl, rfl, rfl, rfl, rfl, rfl, (by exact om_d753bc65 h13), (fun q0 z0 => by obtain rfl := Option.some.inj ((d2).symm.trans z0); (try rw [c4]); first | done | with_reducible assumption | exact om_cedbc4bb h6 h9), (fun q0 z0 => by obtain rfl := Option.some.inj ((d2).symm.trans z0); (try rw [c4]); first | done | with_reducible assumption | exact om_f30b551a h13), trivial⟩
def wik_X3_add : List Nat := [514, 1791, 1855]
def wrk_X3_add : List Nat := []
set_option maxHeartbeats 4000000 in
theorem fk_X3_add {l : Launch} {T : Nat → Nat} {cn : Nat} {K N : Nat → Nat} {I0 : cz_I} {R0 : cz_R} {L0 : cz_L} {d : Int} (hW0 : Wf T cn K N I0 R0 d)  {a0 : Nat} (ta0 : T a0 = 8) {x1 : Int32} (hx1 : 0 ≤ x1.toInt ∧ x1.toInt ≤ 240) {x2 : Int32} (hx2 : 0 ≤ x2.toInt ∧ x2.toInt ≤ 240) : ConE l mX3_add [.ref a0, .int x1, .int x2] cn K N I0 R0 L0 (ca_v (fun cn' K' N' I' R' L' => cn = cn' ∧ K = K' ∧ N = N' ∧ R0 = R' ∧ L0 = L' ∧ St T cn K N d wik_X3_add wrk_X3_add I0 R0 I' R0 ∧ (((I0 a0 2).toInt ≤ 5 → (I' a0 2).toInt = (I0 a0 2).toInt + 1)) ∧ (((I0 a0 2).toInt ≥ 6 → (I' a0 2).toInt = (I0 a0 2).toInt)) ∧ True)) := by
  refine ConE.of (by decide +kernel) rfl (Nat.le_of_ble_eq_true rfl) rfl (fun X hX hZ hE => ?_)
  subst hX
  have hS0 : St T cn K N d wik_X3_add wrk_X3_add I0 R0 I0 R0 := St.rf0 hW0
  obtain ⟨v1, c2⟩ : ∃ v, I0 a0 2 = v := ⟨_, rfl⟩
  have b3 := iv8_2 hS0.1 ta0 c2
  refine tr_aload_n dX3_add_0 rfl ?_
  refine q_getI dX3_add_1 fl3_25 (kR8 hS0.1 ta0) c2 ?_
  refine q_bipush dX3_add_4 (by decide +kernel) ?_
  intro v4 h5
  refine q_icmp_ge 39 dX3_add_6 (by decide) (fun h6 => ?_) (fun h6 => ?_)
  · skip
    exact tr_vret hZ dX3_add_39 rfl (by decide) (by decide) ⟨rfl, rfl, rfl, rfl, rfl, rfl, hS0, (by (try rw [c2]); first | done | with_reducible assumption | exact om_015e4d5e b3.2 b3.1 h5 h6), (by (try rw [c2]); first | done | with_reducible assumption | exact om_703126b3), trivial⟩
  · skip
    refine tr_aload_n dX3_add_9 rfl ?_
    obtain ⟨a7, d8, ta7⟩ := rf8_3 hW0 ta0
    refine tr_getR dX3_add_10 fl3_9 (kR8 hS0.1 ta0) d8 ?_
    refine tr_aload_n dX3_add_13 rfl ?_
    refine q_getI dX3_add_14 fl3_25 (kR8 hS0.1 ta0) c2 ?_
    refine tr_iload_n dX3_add_17 rfl ?_
    refine q_iast dX3_add_18 (kR27 hS0.1 ta7) (ti_in (nR27 hS0.1 ta7) (by exact om_c9b1e0f6 b3.2 b3.1) (by exact om_a89fdd2c b3.2 b3.1 h5 h6)) hS0 ta7 (by show (0 : Int) ≤ x1.toInt ∧ x1.toInt ≤ (240 : Int); exact om_d956ef70 hx1) rfl (by rfl) ?_
    intro I9 hS10 e12 f11
    have c13 : I9 a0 2 = v1 := (f11 _ _ (fun q => by have z := ta0; rw [q.1, ta7] at z; exact absurd z (by decide))).trans c2
    refine tr_aload_n dX3_add_19 rfl ?_
    obtain ⟨a14, d15, ta14⟩ := rf8_4 hW0 ta0
    refine tr_getR dX3_add_20 fl3_15 (kR8 hS10.1 ta0) d15 ?_
    refine tr_aload_n dX3_add_23 rfl ?_
    refine q_getI dX3_add_24 fl3_25 (kR8 hS10.1 ta0) c13 ?_
    refine tr_iload_n dX3_add_27 rfl ?_
    refine q_iast dX3_add_28 (kR28 hS10.1 ta14) (ti_in (nR28 hS10.1 ta14) (by exact om_c9b1e0f6 b3.2 b3.1) (by exact om_a89fdd2c b3.2 b3.1 h5 h6)) hS10 ta14 (by show (0 : Int) ≤ x2.toInt ∧ x2.toInt ≤ (240 : Int); exact om_d956ef70 hx2) rfl (by rfl) ?_
    intro I16 hS17 e19 f18
    have c20 : I16 a0 2 = v1 := (f18 _ _ (fun q => by have z := ta0; rw [q.1, ta14] at z; exact absurd z (by decide))).trans c13
    refine tr_aload_n dX3_add_29 rfl ?_
    refine tr_dup dX3_add_30 rfl ?_
    refine q_getI dX3_add_31 fl3_25 (kR8 hS17.1 ta0) c20 ?_
    refine q_iconst dX3_add_34 (by decide) ?_
    intro v21 h22
    refine q_iaddE dX3_add_35 (by intro j1 j2 j3 j4; exact om_0fb085fe b3.2 b3.1 h5 h6 h22) ?_
    intro v23 h24
    refine q_putI dX3_add_36 fl3_25 (kR8 hS17.1 ta0) (Or.inl rfl) hS17 ta0 (by show (0 : Int) ≤ v23.toInt ∧ v23.toInt ≤ (6 : Int); exact om_2c6378a2 b3.2 b3.1 h5 h6 h22 h24) rfl (by decide +kernel) ?_
    intro I25 hS26 e27 f28
    exact tr_vret hZ dX3_add_39 rfl (by decide) (by decide) ⟨rfl, rfl, rfl, rfl, rfl, rfl, hS26, (by (try rw [c2]); (try rw [e27]); first | done | with_reducible assumption | exact om_2c531ea6 h22 h24), (by (try rw [c2]); (try rw [e27]); first | done | with_reducible assumption | exact om_7854ef67 b3.2 b3.1 h5 h6 h22 h24), trivial⟩
def wik_X10_cloud : List Nat := [73, 75, 81, 514, 640, 641, 642, 704, 1791, 1855, 2047, 2111]
def wrk_X10_cloud : List Nat := [2175]
def Cs_X10_cloud (T : Nat → Nat) (I0 : cz_I) (R0 : cz_R) (a0 : Nat) (x1 : Int32) (x2 : Int32) (v : Int32) (I' : cz_I) (R' : cz_R) : Prop :=
  (((I0 a0 5).toInt = 0) ∧ (v.toInt = 0) ∧ (SmC T I0 R0 I' R') ∧ True) ∨
  (((I0 a0 5).toInt = 1) ∧ (∀ b1, R0 a0 2 = some b1 → (((x1.toInt < 0 ∨ x1.toInt ≥ (I0 b1 0).toInt) ∨ x2.toInt ≤ x1.toInt) ∨ x2.toInt > (I0 b1 0).toInt)) ∧ (v.toInt = 0) ∧ (SmC T I0 R0 I' R') ∧ True) ∨
  (((I0 a0 5).toInt = 1) ∧ (0 ≤ x1.toInt) ∧ (x1.toInt < x2.toInt) ∧ (∀ b1, R0 a0 2 = some b1 → x2.toInt ≤ (I0 b1 0).toInt) ∧ (∀ b1, R0 a0 6 = some b1 → (I0 b1 2).toInt ≥ 6) ∧ (v.toInt = 0) ∧ (SmC T I0 R0 I' R') ∧ True) ∨
  (((I0 a0 5).toInt = 1) ∧ (0 ≤ x1.toInt) ∧ (x1.toInt < x2.toInt) ∧ (∀ b1, R0 a0 2 = some b1 → x2.toInt ≤ (I0 b1 0).toInt) ∧ (∀ b1, R0 a0 6 = some b1 → (I0 b1 2).toInt ≤ 5) ∧ (v.toInt = 1) ∧ (∀ b1, R' a0 6 = some b1 → ∀ b2, R0 a0 6 = some b2 → (I' b1 2).toInt = (I0 b2 2).toInt + 1) ∧ (KpC T I0 R0 I' R' a0) ∧ True)
set_option maxHeartbeats 4000000 in
theorem fk_X10_cloud {l : Launch} {T : Nat → Nat} {cn : Nat} {K N : Nat → Nat} {I0 : cz_I} {R0 : cz_R} {L0 : cz_L} {d : Int} (hW0 : Wf T cn K N I0 R0 d)  {a0 : Nat} (ta0 : T a0 = 1) {x1 : Int32} {x2 : Int32} : ConE l mX10_cloud [.ref a0, .int x1, .int x2] cn K N I0 R0 L0 (ca_i (fun v cn' K' N' I' R' L' => cn = cn' ∧ K = K' ∧ N = N' ∧ L0 = L' ∧ St T cn K N d wik_X10_cloud wrk_X10_cloud I0 R0 I' R' ∧ (0 ≤ v.toInt ∧ v.toInt ≤ 1) ∧ Cs_X10_cloud T I0 R0 a0 x1 x2 v I' R' ∧ True)) := by
  refine ConE.of (by decide +kernel) rfl (Nat.le_of_ble_eq_true rfl) rfl (fun X hX hZ hE => ?_)
  subst hX
  have hS0 : St T cn K N d wik_X10_cloud wrk_X10_cloud I0 R0 I0 R0 := St.rf0 hW0
  obtain ⟨v1, c2⟩ : ∃ v, I0 a0 5 = v := ⟨_, rfl⟩
  have b3 := iv1_5 hW0 ta0 c2
  obtain ⟨a4, d5, ta4⟩ := rf1_2 hW0 ta0
  obtain ⟨v6, c7⟩ : ∃ v, I0 a4 0 = v := ⟨_, rfl⟩
  have b8 := iv2_0 hW0 ta4 c7
  obtain ⟨a9, d10, ta9⟩ := rf1_6 hW0 ta0
  obtain ⟨v11, c12⟩ : ∃ v, I0 a9 2 = v := ⟨_, rfl⟩
  have b13 := iv8_2 hS0.1 ta9 c12
  obtain ⟨a14, d15, ta14⟩ := rf1_7 hW0 ta0
  obtain ⟨a16, d17, ta16⟩ := rf11_1 hW0 ta14
  obtain ⟨a18, d19, ta18⟩ := rf11_3 hW0 ta14
  obtain ⟨v20, c21⟩ : ∃ v, I0 a14 0 = v := ⟨_, rfl⟩
  have b22 := iv11_0 hS0.1 ta14 c21
  obtain ⟨v23, c24⟩ : ∃ v, I0 a14 2 = v := ⟨_, rfl⟩
  have b25 := iv11_2 hW0 ta14 c24
  obtain ⟨v26, c27⟩ : ∃ v, I0 a9 0 = v := ⟨_, rfl⟩
  obtain ⟨v28, c29⟩ : ∃ v, I0 a9 1 = v := ⟨_, rfl⟩
  have b30 := iv8_1 hW0 ta9 c29
  refine tr_aload_n dX10_cloud_0 rfl ?_
  refine q_getZ dX10_cloud_1 fl10_95 (kR1 hS0.1 ta0) c2 ?_
  refine q_if_ne 13 dX10_cloud_4 (by decide) (fun h31 => ?_) (fun h31 => ?_)
  · skip
    refine tr_aload_n dX10_cloud_13 rfl ?_
    refine tr_iload_n dX10_cloud_14 rfl ?_
    refine q_callVi hE (M' := mX10_isMinute) (as := [_]) dX10_cloud_15 lk10_115 inX10_isMinute seX10_isMinute myX10_isMinute (by decide) ⟨by decide, by decide⟩ rfl (kR1 hS0.1 ta0) (Nat.le_of_ble_eq_true rfl) rfl rfl (by decide) (by decide) (fk_X10_isMinute hS0.1  ta0) ?_
    rintro v37 cn' K' N' I32 R33 L34 ⟨rfl, rfl, rfl, rfl, rfl, rfl, h38, p39, p40, -⟩
    have p41 := p39 _ d5
    clear p39
    rw [c7] at p41
    have p42 := p40 _ d5
    clear p40
    rw [c7] at p42
    refine q_if_eq 37 dX10_cloud_18 (by decide) (fun h43 => ?_) (fun h43 => ?_)
    · skip
      refine tr_aload_n dX10_cloud_37 rfl ?_
      refine q_iconst dX10_cloud_38 (by decide) ?_
      intro v44 h45
      refine q_callVi hE (M' := mX10_refusedAct) (as := [_]) dX10_cloud_39 lk10_281 inX10_refusedAct seX10_refusedAct myX10_refusedAct (by decide) ⟨by decide, by decide⟩ rfl (kR1 hS0.1 ta0) (Nat.le_of_ble_eq_true rfl) rfl rfl (by decide) (by decide) (fk_X10_refusedAct hS0.1  ta0) ?_
      rintro v51 cn' K' N' I46 R47 L48 ⟨rfl, rfl, rfl, rfl, rfl, g49, h52, p53, p54, -⟩
      have hS55 := hS0.tr g49 (by decide +kernel) (by decide +kernel)
      have c56 : I46 a9 2 = v11 := (g49.cell ta9 (by decide +kernel)).trans c12
      have c57 : I46 a14 0 = v20 := (g49.cell ta14 (by decide +kernel)).trans c21
      obtain ⟨v58, c59⟩ : ∃ v, I46 a0 17 = v := ⟨_, rfl⟩
      rw [c59] at p54
      exact tr_zret hZ dX10_cloud_42 rfl (ti_b01 (by exact om_d99fa9e4 p53) (by exact om_d3de7ec9 p53)) (by decide) (by decide) ⟨v51, rfl, rfl, rfl, rfl, rfl, hS55, (by exact om_be53a44c h52), (by first | exact Or.inr (Or.inl ⟨(by (try rw [c2]); first | done | with_reducible assumption | exact om_01be630e b3.2 b3.1 h31 p41 p42 h43), (fun q0 z0 => by obtain rfl := Option.some.inj ((d5).symm.trans z0); (try rw [c7]); first | done | with_reducible assumption | exact om_3d12acb9 p42 h43), (by first | done | with_reducible assumption | omega), ⟨rfl, fun a j h => by rcases h with h | h | h; exact (g49.cell h (wm_no (by decide +kernel))); exact (g49.cell h (wm_no (by decide +kernel))); exact (g49.cell h (wm_no (by decide +kernel)))⟩, trivial⟩) | exact Or.inr (Or.inr (Or.inl ⟨(by (try rw [c2]); first | done | with_reducible assumption | omega), (by first | done | with_reducible assumption | omega), (by first | done | with_reducible assumption | omega), (fun q0 z0 => by obtain rfl := Option.some.inj ((d5).symm.trans z0); (try rw [c7]); first | done | with_reducible assumption | omega), (fun q0 z0 => by obtain rfl := Option.some.inj ((d10).symm.trans z0); (try rw [c12]); first | done | with_reducible assumption | omega), (by first | done | with_reducible assumption | omega), ⟨rfl, fun a j h => by rcases h with h | h | h; exact (g49.cell h (wm_no (by decide +kernel))); exact (g49.cell h (wm_no (by decide +kernel))); exact (g49.cell h (wm_no (by decide +kernel)))⟩, trivial⟩))), trivial⟩
    · skip
      refine tr_iload_n dX10_cloud_21 rfl ?_
      refine tr_iload_n dX10_cloud_22 rfl ?_
      refine q_icmp_le 37 dX10_cloud_23 (by decide) (fun h60 => ?_) (fun h60 => ?_)
      · skip
        refine tr_aload_n dX10_cloud_37 rfl ?_
        refine q_iconst dX10_cloud_38 (by decide) ?_
        intro v61 h62
        refine q_callVi hE (M' := mX10_refusedAct) (as := [_]) dX10_cloud_39 lk10_281 inX10_refusedAct seX10_refusedAct myX10_refusedAct (by decide) ⟨by decide, by decide⟩ rfl (kR1 hS0.1 ta0) (Nat.le_of_ble_eq_true rfl) rfl rfl (by decide) (by decide) (fk_X10_refusedAct hS0.1  ta0) ?_
        rintro v68 cn' K' N' I63 R64 L65 ⟨rfl, rfl, rfl, rfl, rfl, g66, h69, p70, p71, -⟩
        have hS72 := hS0.tr g66 (by decide +kernel) (by decide +kernel)
        have c73 : I63 a9 2 = v11 := (g66.cell ta9 (by decide +kernel)).trans c12
        have c74 : I63 a14 0 = v20 := (g66.cell ta14 (by decide +kernel)).trans c21
        obtain ⟨v75, c76⟩ : ∃ v, I63 a0 17 = v := ⟨_, rfl⟩
        rw [c76] at p71
        exact tr_zret hZ dX10_cloud_42 rfl (ti_b01 (by exact om_d99fa9e4 p70) (by exact om_d3de7ec9 p70)) (by decide) (by decide) ⟨v68, rfl, rfl, rfl, rfl, rfl, hS72, (by exact om_be53a44c h69), (by first | exact Or.inr (Or.inl ⟨(by (try rw [c2]); first | done | with_reducible assumption | exact om_fb6d96c1 b3.2 b3.1 h31 h38.2 h38.1 p41 p42 h43), (fun q0 z0 => by obtain rfl := Option.some.inj ((d5).symm.trans z0); (try rw [c7]); first | done | with_reducible assumption | exact om_fa991422 h60), (by first | done | with_reducible assumption | omega), ⟨rfl, fun a j h => by rcases h with h | h | h; exact (g66.cell h (wm_no (by decide +kernel))); exact (g66.cell h (wm_no (by decide +kernel))); exact (g66.cell h (wm_no (by decide +kernel)))⟩, trivial⟩) | exact Or.inr (Or.inr (Or.inl ⟨(by (try rw [c2]); first | done | with_reducible assumption | omega), (by first | done | with_reducible assumption | omega), (by first | done | with_reducible assumption | omega), (fun q0 z0 => by obtain rfl := Option.some.inj ((d5).symm.trans z0); (try rw [c7]); first | done | with_reducible assumption | omega), (fun q0 z0 => by obtain rfl := Option.some.inj ((d10).symm.trans z0); (try rw [c12]); first | done | with_reducible assumption | omega), (by first | done | with_reducible assumption | omega), ⟨rfl, fun a j h => by rcases h with h | h | h; exact (g66.cell h (wm_no (by decide +kernel))); exact (g66.cell h (wm_no (by decide +kernel))); exact (g66.cell h (wm_no (by decide +kernel)))⟩, trivial⟩))), trivial⟩
      · skip
        refine tr_iload_n dX10_cloud_26 rfl ?_
        refine tr_aload_n dX10_cloud_27 rfl ?_
        refine tr_getR dX10_cloud_28 fl10_16 (kR1 hS0.1 ta0) d5 ?_
        refine q_getI dX10_cloud_31 fl10_146 (kR2 hS0.1 ta4) c7 ?_
        refine q_icmp_le 43 dX10_cloud_34 (by decide) (fun h77 => ?_) (fun h77 => ?_)
        · skip
          refine tr_aload_n dX10_cloud_43 rfl ?_
          refine tr_getR dX10_cloud_44 fl10_35 (kR1 hS0.1 ta0) d10 ?_
          refine q_getI dX10_cloud_47 fl10_272 (kR8 hS0.1 ta9) c12 ?_
          refine q_bipush dX10_cloud_50 (by decide +kernel) ?_
          intro v78 h79
          refine q_icmp_lt 61 dX10_cloud_52 (by decide) (fun h80 => ?_) (fun h80 => ?_)
          · skip
            refine tr_aload_n dX10_cloud_61 rfl ?_
            refine tr_getR dX10_cloud_62 fl10_42 (kR1 hS0.1 ta0) d15 ?_
            refine tr_aload_n dX10_cloud_65 rfl ?_
            refine tr_getR dX10_cloud_66 fl10_35 (kR1 hS0.1 ta0) d10 ?_
            refine q_callVv hE (M' := mX6_keepAct) (as := [_]) dX10_cloud_69 lk10_284 inX6_keepAct seX6_keepAct myX6_keepAct (by decide) ⟨by decide, by decide⟩ rfl (kR11 hS0.1 ta14) (Nat.le_of_ble_eq_true rfl) rfl rfl (by decide) (by decide) (fk_X6_keepAct hS0.1  ta14 ta9) ?_
            rintro cn' K' N' I81 R82 L83 ⟨rfl, rfl, rfl, rfl, g84, p87, p88, rp89, -⟩
            have hS90 := hS0.tr g84 (by decide +kernel) (by decide +kernel)
            have c91 : I81 a9 2 = v11 := (g84.cell ta9 (by decide +kernel)).trans c12
            obtain ⟨v92, c93⟩ : ∃ v, I81 a14 0 = v := ⟨_, rfl⟩
            have b94 := iv11_0 hS90.1 ta14 c93
            rw [c21] at p87
            rw [c93] at p87
            rw [c21] at p88
            rw [c93] at p88
            refine tr_aload_n dX10_cloud_72 rfl ?_
            refine tr_getR dX10_cloud_73 fl10_35 (kR1 hS90.1 ta0) ((hS90.rcell ta0 (by decide +kernel)).trans d10) ?_
            refine tr_iload_n dX10_cloud_76 rfl ?_
            refine tr_iload_n dX10_cloud_77 rfl ?_
            refine q_callVv hE (M' := mX3_add) (as := [_, _]) dX10_cloud_78 lk10_295 inX3_add seX3_add myX3_add (by decide) ⟨by decide, by decide⟩ rfl (kR8 hS90.1 ta9) (Nat.le_of_ble_eq_true rfl) rfl rfl (by decide) (by decide) (fk_X3_add hS90.1  ta9 (by exact om_dbc880bf b8.2 b8.1 b22.2 b22.1 h38.2 h38.1 p41 p42 h43 h60 h77 p88 p87) (by exact om_56a64570 b8.2 b8.1 b22.2 b22.1 h38.2 h38.1 p41 p42 h43 h60 h77 p88 p87)) ?_
            rintro cn' K' N' I95 R96 L97 ⟨rfl, rfl, rfl, rfl, rfl, g98, p101, p102, -⟩
            have hS103 := hS90.tr g98 (by decide +kernel) (by decide +kernel)
            have c104 : I95 a14 0 = v92 := (g98.cell ta14 (by decide +kernel)).trans c93
            obtain ⟨v105, c106⟩ : ∃ v, I95 a9 2 = v := ⟨_, rfl⟩
            have b107 := iv8_2 hS103.1 ta9 c106
            rw [c91] at p101
            rw [c106] at p101
            rw [c91] at p102
            rw [c106] at p102
            refine tr_aload_n dX10_cloud_81 rfl ?_
            refine q_callVv hE (M' := mX10_cloudsMoved) (as := []) dX10_cloud_82 lk10_103 inX10_cloudsMoved seX10_cloudsMoved myX10_cloudsMoved (by decide) ⟨by decide, by decide⟩ rfl (kR1 hS103.1 ta0) (Nat.le_of_ble_eq_true rfl) rfl rfl (by decide) (by decide) (k_X10_cloudsMoved hS103.1 ta0) ?_
            rintro cn' K' N' I108 R109 L110 ⟨rfl, rfl, rfl, rfl, rfl, g111, -⟩
            have hS113 := hS103.tr g111 (by decide +kernel) (by decide +kernel)
            have c114 : I108 a14 0 = v92 := (g111.cell ta14 (by decide +kernel)).trans c104
            have c115 : I108 a9 2 = v105 := (g111.cell ta9 (by decide +kernel)).trans c106
            refine tr_aload_n dX10_cloud_85 rfl ?_
            refine q_callVi hE (M' := mX10_allowed) (as := []) dX10_cloud_86 lk10_291 inX10_allowed seX10_allowed myX10_allowed (by decide) ⟨by decide, by decide⟩ rfl (kR1 hS113.1 ta0) (Nat.le_of_ble_eq_true rfl) rfl rfl (by decide) (by decide) (fk_X10_allowed hS113.1  ta0) ?_
            rintro v121 cn' K' N' I116 R117 L118 ⟨rfl, rfl, rfl, rfl, rfl, g119, h122, p123, p124, -⟩
            have hS125 := hS113.tr g119 (by decide +kernel) (by decide +kernel)
            have c126 : I116 a14 0 = v92 := (g119.cell ta14 (by decide +kernel)).trans c114
            have c127 : I116 a9 2 = v105 := (g119.cell ta9 (by decide +kernel)).trans c115
            obtain ⟨v128, c129⟩ : ∃ v, I116 a0 17 = v := ⟨_, rfl⟩
            rw [c129] at p124
            exact tr_zret hZ dX10_cloud_89 rfl (ti_b01 (by exact om_f9079521 p123) (by exact om_e6632817 p123)) (by decide) (by decide) ⟨v121, rfl, rfl, rfl, rfl, rfl, hS125, (by exact om_be53a44c h122), (Or.inr (Or.inr (Or.inr (⟨(by (try rw [c2]); first | done | with_reducible assumption | exact om_17ac58c7 b3.2 b3.1 b13.2 b13.1 b22.2 b22.1 h31 h38.2 h38.1 p41 p42 h43 h60 h77 h79 h80 p88 p87 p102 p101), (by first | done | with_reducible assumption | exact om_49984fd9 b13.2 b13.1 b22.2 b22.1 h38.2 h38.1 p41 p42 h43 h60 h77 h79 h80 p88 p87 p102 p101), (by first | done | with_reducible assumption | omega), (fun q0 z0 => by obtain rfl := Option.some.inj ((d5).symm.trans z0); (try rw [c7]); first | done | with_reducible assumption | omega), (fun q0 z0 => by obtain rfl := Option.some.inj ((d10).symm.trans z0); (try rw [c12]); first | done | with_reducible assumption | exact om_a10b6f45 b13.2 b13.1 h79 h80), (by first | done | with_reducible assumption | omega), (fun q0 z0 => fun q1 z1 => by obtain rfl := Option.some.inj ((((hS125.rcell ta0 (by decide +kernel)).trans d10)).symm.trans z0); obtain rfl := Option.some.inj ((d10).symm.trans z1); (try rw [c127]); (try rw [c12]); first | done | with_reducible assumption | exact om_3fda9231 b13.2 b13.1 h79 h80 p101), (fun nw pa A h1 h2 h3 => by obtain rfl := Option.some.inj (d10.symm.trans h1); obtain rfl := Option.some.inj (d15.symm.trans h2); obtain rfl := Option.some.inj (d17.symm.trans h3); exact ⟨KeC.kp (rp89 _ d17) (fun a j h => ((g119.cell h (wm_no (by decide +kernel))).trans ((g111.cell h (wm_no (by decide +kernel))).trans (g98.cell h (wm_no (by decide +kernel)))))), fun q => by rw [c126, c21]; rw [c21] at q; exact om_66c1fc45 b13.2 b13.1 b22.2 b22.1 h79 h80 p87 p102 p101 q, fun q => by rw [c126]; rw [c21] at q; exact om_a3350707 b13.2 b13.1 b22.2 b22.1 h79 h80 p88 p87 b94.2 b94.1 p102 p101 q⟩), trivial⟩)))), trivial⟩
          · skip
            refine tr_aload_n dX10_cloud_55 rfl ?_
            refine q_iconst dX10_cloud_56 (by decide) ?_
            intro v130 h131
            refine q_callVi hE (M' := mX10_refusedAct) (as := [_]) dX10_cloud_57 lk10_281 inX10_refusedAct seX10_refusedAct myX10_refusedAct (by decide) ⟨by decide, by decide⟩ rfl (kR1 hS0.1 ta0) (Nat.le_of_ble_eq_true rfl) rfl rfl (by decide) (by decide) (fk_X10_refusedAct hS0.1  ta0) ?_
            rintro v137 cn' K' N' I132 R133 L134 ⟨rfl, rfl, rfl, rfl, rfl, g135, h138, p139, p140, -⟩
            have hS141 := hS0.tr g135 (by decide +kernel) (by decide +kernel)
            have c142 : I132 a9 2 = v11 := (g135.cell ta9 (by decide +kernel)).trans c12
            have c143 : I132 a14 0 = v20 := (g135.cell ta14 (by decide +kernel)).trans c21
            obtain ⟨v144, c145⟩ : ∃ v, I132 a0 17 = v := ⟨_, rfl⟩
            rw [c145] at p140
            exact tr_zret hZ dX10_cloud_60 rfl (ti_b01 (by exact om_d99fa9e4 p139) (by exact om_d3de7ec9 p139)) (by decide) (by decide) ⟨v137, rfl, rfl, rfl, rfl, rfl, hS141, (by exact om_be53a44c h138), (by first | exact Or.inr (Or.inl ⟨(by (try rw [c2]); first | done | with_reducible assumption | exact om_2135ce50 b3.2 b3.1 h31 h38.2 h38.1 p41 p42 h43 h60 h77), (fun q0 z0 => by obtain rfl := Option.some.inj ((d5).symm.trans z0); (try rw [c7]); first | done | with_reducible assumption | fail), (by first | done | with_reducible assumption | omega), ⟨rfl, fun a j h => by rcases h with h | h | h; exact (g135.cell h (wm_no (by decide +kernel))); exact (g135.cell h (wm_no (by decide +kernel))); exact (g135.cell h (wm_no (by decide +kernel)))⟩, trivial⟩) | exact Or.inr (Or.inr (Or.inl ⟨(by (try rw [c2]); first | done | with_reducible assumption | exact om_2135ce50 b3.2 b3.1 h31 h38.2 h38.1 p41 p42 h43 h60 h77), (by first | done | with_reducible assumption | exact om_72ee0038 h38.2 h38.1 p41 p42 h43 h60 h77), (by first | done | with_reducible assumption | omega), (fun q0 z0 => by obtain rfl := Option.some.inj ((d5).symm.trans z0); (try rw [c7]); first | done | with_reducible assumption | omega), (fun q0 z0 => by obtain rfl := Option.some.inj ((d10).symm.trans z0); (try rw [c12]); first | done | with_reducible assumption | exact om_c0d53a33 b13.2 b13.1 h79 h80), (by first | done | with_reducible assumption | omega), ⟨rfl, fun a j h => by rcases h with h | h | h; exact (g135.cell h (wm_no (by decide +kernel))); exact (g135.cell h (wm_no (by decide +kernel))); exact (g135.cell h (wm_no (by decide +kernel)))⟩, trivial⟩))), trivial⟩
        · skip
          refine tr_aload_n dX10_cloud_37 rfl ?_
          refine q_iconst dX10_cloud_38 (by decide) ?_
          intro v146 h147
          refine q_callVi hE (M' := mX10_refusedAct) (as := [_]) dX10_cloud_39 lk10_281 inX10_refusedAct seX10_refusedAct myX10_refusedAct (by decide) ⟨by decide, by decide⟩ rfl (kR1 hS0.1 ta0) (Nat.le_of_ble_eq_true rfl) rfl rfl (by decide) (by decide) (fk_X10_refusedAct hS0.1  ta0) ?_
          rintro v153 cn' K' N' I148 R149 L150 ⟨rfl, rfl, rfl, rfl, rfl, g151, h154, p155, p156, -⟩
          have hS157 := hS0.tr g151 (by decide +kernel) (by decide +kernel)
          have c158 : I148 a9 2 = v11 := (g151.cell ta9 (by decide +kernel)).trans c12
          have c159 : I148 a14 0 = v20 := (g151.cell ta14 (by decide +kernel)).trans c21
          obtain ⟨v160, c161⟩ : ∃ v, I148 a0 17 = v := ⟨_, rfl⟩
          rw [c161] at p156
          exact tr_zret hZ dX10_cloud_42 rfl (ti_b01 (by exact om_d99fa9e4 p155) (by exact om_d3de7ec9 p155)) (by decide) (by decide) ⟨v153, rfl, rfl, rfl, rfl, rfl, hS157, (by exact om_be53a44c h154), (by first | exact Or.inr (Or.inl ⟨(by (try rw [c2]); first | done | with_reducible assumption | exact om_fb6d96c1 b3.2 b3.1 h31 h38.2 h38.1 p41 p42 h43), (fun q0 z0 => by obtain rfl := Option.some.inj ((d5).symm.trans z0); (try rw [c7]); first | done | with_reducible assumption | exact om_6a329534 h77), (by first | done | with_reducible assumption | omega), ⟨rfl, fun a j h => by rcases h with h | h | h; exact (g151.cell h (wm_no (by decide +kernel))); exact (g151.cell h (wm_no (by decide +kernel))); exact (g151.cell h (wm_no (by decide +kernel)))⟩, trivial⟩) | exact Or.inr (Or.inr (Or.inl ⟨(by (try rw [c2]); first | done | with_reducible assumption | omega), (by first | done | with_reducible assumption | omega), (by first | done | with_reducible assumption | omega), (fun q0 z0 => by obtain rfl := Option.some.inj ((d5).symm.trans z0); (try rw [c7]); first | done | with_reducible assumption | omega), (fun q0 z0 => by obtain rfl := Option.some.inj ((d10).symm.trans z0); (try rw [c12]); first | done | with_reducible assumption | omega), (by first | done | with_reducible assumption | omega), ⟨rfl, fun a j h => by rcases h with h | h | h; exact (g151.cell h (wm_no (by decide +kernel))); exact (g151.cell h (wm_no (by decide +kernel))); exact (g151.cell h (wm_no (by decide +kernel)))⟩, trivial⟩))), trivial⟩
  · skip
    refine tr_aload_n dX10_cloud_7 rfl ?_
    refine q_iconst dX10_cloud_8 (by decide) ?_
    intro v162 h163
    refine q_callVi hE (M' := mX10_refusedAct) (as := [_]) dX10_cloud_9 lk10_281 inX10_refusedAct seX10_refusedAct myX10_refusedAct (by decide) ⟨by decide, by decide⟩ rfl (kR1 hS0.1 ta0) (Nat.le_of_ble_eq_true rfl) rfl rfl (by decide) (by decide) (fk_X10_refusedAct hS0.1  ta0) ?_
    rintro v169 cn' K' N' I164 R165 L166 ⟨rfl, rfl, rfl, rfl, rfl, g167, h170, p171, p172, -⟩
    have hS173 := hS0.tr g167 (by decide +kernel) (by decide +kernel)
    have c174 : I164 a9 2 = v11 := (g167.cell ta9 (by decide +kernel)).trans c12
    have c175 : I164 a14 0 = v20 := (g167.cell ta14 (by decide +kernel)).trans c21
    obtain ⟨v176, c177⟩ : ∃ v, I164 a0 17 = v := ⟨_, rfl⟩
    rw [c177] at p172
    exact tr_zret hZ dX10_cloud_12 rfl (ti_b01 (by exact om_d99fa9e4 p171) (by exact om_d3de7ec9 p171)) (by decide) (by decide) ⟨v169, rfl, rfl, rfl, rfl, rfl, hS173, (by exact om_be53a44c h170), (Or.inl ⟨(by (try rw [c2]); first | done | with_reducible assumption | omega), (by first | done | with_reducible assumption | omega), ⟨rfl, fun a j h => by rcases h with h | h | h; exact (g167.cell h (wm_no (by decide +kernel))); exact (g167.cell h (wm_no (by decide +kernel))); exact (g167.cell h (wm_no (by decide +kernel)))⟩, trivial⟩), trivial⟩
def wik_X3_drawBelow : List Nat := [513]
def wrk_X3_drawBelow : List Nat := []
set_option maxHeartbeats 4000000 in
theorem fk_X3_drawBelow {l : Launch} {T : Nat → Nat} {cn : Nat} {K N : Nat → Nat} {I0 : cz_I} {R0 : cz_R} {L0 : cz_L} {d : Int} (hW0 : Wf T cn K N I0 R0 d)  {a0 : Nat} (ta0 : T a0 = 8) {x1 : Int32} (hx1 : 0 ≤ x1.toInt ∧ x1.toInt ≤ 240) : ConE l mX3_drawBelow [.ref a0, .int x1] cn K N I0 R0 L0 (ca_i (fun v cn' K' N' I' R' L' => cn = cn' ∧ K = K' ∧ N = N' ∧ R0 = R' ∧ L0 = L' ∧ St T cn K N d wik_X3_drawBelow wrk_X3_drawBelow I0 R0 I' R0 ∧ (0 ≤ v.toInt ∧ v.toInt ≤ 239) ∧ ((I' a0 1).toInt = (dw (I0 a0 1).toInt)) ∧ ((x1.toInt ≥ 1 → v.toInt = (dwm (I0 a0 1).toInt x1.toInt))) ∧ True)) := by
  refine ConE.of (by decide +kernel) rfl (Nat.le_of_ble_eq_true rfl) rfl (fun X hX hZ hE => ?_)
  subst hX
  have hS0 : St T cn K N d wik_X3_drawBelow wrk_X3_drawBelow I0 R0 I0 R0 := St.rf0 hW0
  obtain ⟨v1, c2⟩ : ∃ v, I0 a0 1 = v := ⟨_, rfl⟩
  have b3 := iv8_1 hS0.1 ta0 c2
  refine tr_aload_n dX3_drawBelow_0 rfl ?_
  refine q_bipush dX3_drawBelow_1 (by decide +kernel) ?_
  intro v4 h5
  refine tr_aload_n dX3_drawBelow_3 rfl ?_
  refine q_getI dX3_drawBelow_4 fl3_22 (kR8 hS0.1 ta0) c2 ?_
  refine q_imulE (c := 75) dX3_drawBelow_7 (by exact om_563a2c66 h5) (by exact om_d18d9d8c b3.2 b3.1) ?_
  intro v6 h7
  refine q_bipush dX3_drawBelow_8 (by decide +kernel) ?_
  intro v8 h9
  refine q_iaddE dX3_drawBelow_10 (by intro j1 j2 j3 j4; exact om_e2c0ec39 b3.2 b3.1 h7 h9 j1 j2) ?_
  intro v10 h11
  refine q_ldc 65537 dX3_drawBelow_11 ld3_42 (by decide +kernel) ?_
  intro v12 h13
  refine q_iremV dX3_drawBelow_13 (by exact om_8ae986c7 b3.2 b3.1 h7 h9 h11) (by exact om_1204c38e h13) ?_
  intro v14 h15
  have p16 : 0 ≤ v14.toInt ∧ v14.toInt < v12.toInt := by rw [h15]; exact ⟨Int.emod_nonneg _ (by exact om_59ce6793 h13), Int.emod_lt_of_pos _ (by exact om_1204c38e h13)⟩
  refine q_putI dX3_drawBelow_14 fl3_22 (kR8 hS0.1 ta0) (Or.inl rfl) hS0 ta0 (by show (0 : Int) ≤ v14.toInt ∧ v14.toInt ≤ (65536 : Int); exact om_c9694f01 h13 h15 p16.2 p16.1) rfl (by decide +kernel) ?_
  intro I17 hS18 e19 f20
  refine tr_iload_n dX3_drawBelow_17 rfl ?_
  refine q_iconst dX3_drawBelow_18 (by decide) ?_
  intro v21 h22
  refine q_icmp_ge 26 dX3_drawBelow_19 (by decide) (fun h23 => ?_) (fun h23 => ?_)
  · skip
    refine tr_aload_n dX3_drawBelow_26 rfl ?_
    refine q_getI dX3_drawBelow_27 fl3_22 (kR8 hS18.1 ta0) e19 ?_
    refine tr_iload_n dX3_drawBelow_30 rfl ?_
    refine q_iremV dX3_drawBelow_31 (by exact om_9465cfbf h13 h15 p16.2 p16.1) (by exact om_828bfde1 hx1.2 hx1.1 h22 h23) ?_
    intro v24 h25
    have p26 : 0 ≤ v24.toInt ∧ v24.toInt < x1.toInt := by rw [h25]; exact ⟨Int.emod_nonneg _ (by exact om_a654601d h22 h23), Int.emod_lt_of_pos _ (by exact om_828bfde1 hx1.2 hx1.1 h22 h23)⟩
    exact tr_iret hZ dX3_drawBelow_32 rfl (by decide) (by decide) ⟨v24, rfl, rfl, rfl, rfl, rfl, rfl, hS18, (by exact om_82ef7745 hx1.2 hx1.1 h25 p26.1 p26.2), (by rw [e19, c2]; unfold dw; rw [h15]; congr 1; exact om_a990527d h7 h9 h11), (fun q => by (try rw [c2]); unfold dwm dw; rw [h25, h15]; congr 2; exact om_a990527d h7 h9 h11), trivial⟩
  · skip
    refine q_iconst dX3_drawBelow_22 (by decide) ?_
    intro v27 h28
    refine tr_goto 32 dX3_drawBelow_23 (by decide) ?_
    exact tr_iret hZ dX3_drawBelow_32 rfl (by decide) (by decide) ⟨v27, rfl, rfl, rfl, rfl, rfl, rfl, hS18, (by exact om_152feea5 h28), (by rw [e19, c2]; unfold dw; rw [h15]; congr 1; exact om_a990527d h7 h9 h11), (fun q => by exfalso; exact om_556a94df hx1.2 hx1.1 h22 h23 q), trivial⟩
def wik_X3_addDrawn : List Nat := [513, 514, 1791, 1855]
def wrk_X3_addDrawn : List Nat := []
set_option maxHeartbeats 4000000 in
theorem fk_X3_addDrawn {l : Launch} {T : Nat → Nat} {cn : Nat} {K N : Nat → Nat} {I0 : cz_I} {R0 : cz_R} {L0 : cz_L} {d : Int} (hW0 : Wf T cn K N I0 R0 d)  {a0 : Nat} (ta0 : T a0 = 8) {x1 : Int32} (hx1 : 0 ≤ x1.toInt ∧ x1.toInt ≤ 240) : ConE l mX3_addDrawn [.ref a0, .int x1] cn K N I0 R0 L0 (ca_i (fun v cn' K' N' I' R' L' => cn = cn' ∧ K = K' ∧ N = N' ∧ R0 = R' ∧ L0 = L' ∧ St T cn K N d wik_X3_addDrawn wrk_X3_addDrawn I0 R0 I' R0 ∧ (0 ≤ v.toInt ∧ v.toInt ≤ 239) ∧ ((I' a0 1).toInt = (dw (dw (I0 a0 1).toInt))) ∧ ((x1.toInt ≥ 1 → v.toInt = (dwm (I0 a0 1).toInt x1.toInt))) ∧ (((I0 a0 2).toInt ≤ 5 → (I' a0 2).toInt = (I0 a0 2).toInt + 1)) ∧ True)) := by
  refine ConE.of (by decide +kernel) rfl (Nat.le_of_ble_eq_true rfl) rfl (fun X hX hZ hE => ?_)
  subst hX
  have hS0 : St T cn K N d wik_X3_addDrawn wrk_X3_addDrawn I0 R0 I0 R0 := St.rf0 hW0
  obtain ⟨v1, c2⟩ : ∃ v, I0 a0 1 = v := ⟨_, rfl⟩
  have b3 := iv8_1 hS0.1 ta0 c2
  obtain ⟨v4, c5⟩ : ∃ v, I0 a0 2 = v := ⟨_, rfl⟩
  have b6 := iv8_2 hS0.1 ta0 c5
  refine tr_aload_n dX3_addDrawn_0 rfl ?_
  refine tr_iload_n dX3_addDrawn_1 rfl ?_
  refine q_callVi hE (M' := mX3_drawBelow) (as := [_]) dX3_addDrawn_2 lk3_28 inX3_drawBelow seX3_drawBelow myX3_drawBelow (by decide) ⟨by decide, by decide⟩ rfl (kR8 hS0.1 ta0) (Nat.le_of_ble_eq_true rfl) rfl rfl (by decide) (by decide) (fk_X3_drawBelow hS0.1  ta0 (by exact om_d956ef70 hx1)) ?_
  rintro v12 cn' K' N' I7 R8 L9 ⟨rfl, rfl, rfl, rfl, rfl, g10, h13, p14, p15, -⟩
  have hS16 := hS0.tr g10 (by decide +kernel) (by decide +kernel)
  have c17 : I7 a0 2 = v4 := (g10.cell ta0 (by decide +kernel)).trans c5
  obtain ⟨v18, c19⟩ : ∃ v, I7 a0 1 = v := ⟨_, rfl⟩
  have b20 := iv8_1 hS16.1 ta0 c19
  rw [c19] at p14
  rw [c2] at p14
  rw [c2] at p15
  refine tr_istore_n dX3_addDrawn_5 (by decide) (by decide) ?_
  refine q_iconst dX3_addDrawn_6 (by decide) ?_
  intro v21 h22
  refine tr_aload_n dX3_addDrawn_7 rfl ?_
  refine q_bipush dX3_addDrawn_8 (by decide +kernel) ?_
  intro v23 h24
  refine q_callVi hE (M' := mX3_drawBelow) (as := [_]) dX3_addDrawn_10 lk3_28 inX3_drawBelow seX3_drawBelow myX3_drawBelow (by decide) ⟨by decide, by decide⟩ rfl (kR8 hS16.1 ta0) (Nat.le_of_ble_eq_true rfl) rfl rfl (by decide) (by decide) (fk_X3_drawBelow hS16.1  ta0 (by exact om_6fa0956e h24)) ?_
  rintro v30 cn' K' N' I25 R26 L27 ⟨rfl, rfl, rfl, rfl, rfl, g28, h31, p32, p33, -⟩
  have hS34 := hS16.tr g28 (by decide +kernel) (by decide +kernel)
  have c35 : I25 a0 2 = v4 := (g28.cell ta0 (by decide +kernel)).trans c17
  obtain ⟨v36, c37⟩ : ∃ v, I25 a0 1 = v := ⟨_, rfl⟩
  have b38 := iv8_1 hS34.1 ta0 c37
  rw [c37] at p32
  rw [c19] at p32
  rw [c19] at p33
  refine q_iaddE dX3_addDrawn_13 (by intro j1 j2 j3 j4; exact om_57cfbf44 h22 h31.2 h31.1) ?_
  intro v39 h40
  refine tr_istore_n dX3_addDrawn_14 (by decide) (by decide) ?_
  refine tr_aload_n dX3_addDrawn_15 rfl ?_
  refine tr_iload_n dX3_addDrawn_16 rfl ?_
  refine tr_iload_n dX3_addDrawn_17 rfl ?_
  refine tr_iload_n dX3_addDrawn_18 rfl ?_
  refine q_iaddE dX3_addDrawn_19 (by intro j1 j2 j3 j4; exact om_41648b6b h13.2 h13.1 h22 h31.2 h31.1 h40) ?_
  intro v41 h42
  refine tr_iload_n dX3_addDrawn_20 rfl ?_
  refine q_mmin dX3_addDrawn_21 lk3_32 (by decide) (Nat.le_of_ble_eq_true rfl) (by decide) (by decide) ?_
  intro v43 h44
  refine q_callVv hE (M' := mX3_add) (as := [_, _]) dX3_addDrawn_24 lk3_38 inX3_add seX3_add myX3_add (by decide) ⟨by decide, by decide⟩ rfl (kR8 hS34.1 ta0) (Nat.le_of_ble_eq_true rfl) rfl rfl (by decide) (by decide) (fk_X3_add hS34.1  ta0 (by exact om_e3386c53 h13.2 h13.1 h42) (by exact om_7442ebf1 hx1.2 hx1.1 h13.2 h13.1 h22 h31.2 h31.1 h40 h42 h44.1 h44.2.2)) ?_
  rintro cn' K' N' I45 R46 L47 ⟨rfl, rfl, rfl, rfl, rfl, g48, p51, p52, -⟩
  have hS53 := hS34.tr g48 (by decide +kernel) (by decide +kernel)
  have c54 : I45 a0 1 = v36 := (g48.cell ta0 (by decide +kernel)).trans c37
  obtain ⟨v55, c56⟩ : ∃ v, I45 a0 2 = v := ⟨_, rfl⟩
  have b57 := iv8_2 hS53.1 ta0 c56
  rw [c35] at p51
  rw [c56] at p51
  rw [c35] at p52
  rw [c56] at p52
  refine tr_iload_n dX3_addDrawn_27 rfl ?_
  exact tr_iret hZ dX3_addDrawn_28 rfl (by decide) (by decide) ⟨v12, rfl, rfl, rfl, rfl, rfl, rfl, hS53, (by exact om_87537644 h13), (by rw [c54, c2]; have z : v18.toInt = dw v1.toInt := (by exact om_acd7a85a p14); rw [← z]; exact om_acd7a85a p32), (by (try rw [c2]); first | done | with_reducible assumption | omega), (by (try rw [c5]); (try rw [c56]); first | done | with_reducible assumption | omega), trivial⟩
def wik_X10_draw : List Nat := [73, 75, 81, 513, 514, 640, 641, 642, 704, 1791, 1855, 2047, 2111]
def wrk_X10_draw : List Nat := [2175]
def Cs_X10_draw (T : Nat → Nat) (I0 : cz_I) (R0 : cz_R) (a0 : Nat) (v : Int32) (I' : cz_I) (R' : cz_R) : Prop :=
  (((I0 a0 5).toInt = 0) ∧ (v.toInt = -1) ∧ (SmC T I0 R0 I' R') ∧ True) ∨
  (((I0 a0 5).toInt = 1) ∧ (∀ b1, R0 a0 6 = some b1 → (I0 b1 2).toInt ≥ 6) ∧ (v.toInt = -1) ∧ (SmC T I0 R0 I' R') ∧ True) ∨
  (((I0 a0 5).toInt = 1) ∧ (∀ b1, R0 a0 6 = some b1 → (I0 b1 2).toInt ≤ 5) ∧ (∀ b1, R' a0 6 = some b1 → ∀ b2, R0 a0 6 = some b2 → (I' b1 2).toInt = (I0 b2 2).toInt + 1) ∧ (∀ b1, R' a0 6 = some b1 → ∀ b2, R0 a0 6 = some b2 → (I' b1 1).toInt = (dw (dw (I0 b2 1).toInt))) ∧ (∀ b1, R0 a0 6 = some b1 → ∀ b2, R0 a0 2 = some b2 → v.toInt = (dwm (I0 b1 1).toInt (I0 b2 0).toInt)) ∧ (KpC T I0 R0 I' R' a0) ∧ True)
set_option maxHeartbeats 4000000 in
theorem fk_X10_draw {l : Launch} {T : Nat → Nat} {cn : Nat} {K N : Nat → Nat} {I0 : cz_I} {R0 : cz_R} {L0 : cz_L} {d : Int} (hW0 : Wf T cn K N I0 R0 d)  {a0 : Nat} (ta0 : T a0 = 1) (pre0 : ∀ b1, R0 a0 2 = some b1 → ((I0 a0 5).toInt = 1 → (I0 b1 0).toInt ≥ 1)) : ConE l mX10_draw [.ref a0] cn K N I0 R0 L0 (ca_i (fun v cn' K' N' I' R' L' => cn = cn' ∧ K = K' ∧ N = N' ∧ L0 = L' ∧ St T cn K N d wik_X10_draw wrk_X10_draw I0 R0 I' R' ∧ Cs_X10_draw T I0 R0 a0 v I' R' ∧ True)) := by
  refine ConE.of (by decide +kernel) rfl (Nat.le_of_ble_eq_true rfl) rfl (fun X hX hZ hE => ?_)
  subst hX
  have hS0 : St T cn K N d wik_X10_draw wrk_X10_draw I0 R0 I0 R0 := St.rf0 hW0
  obtain ⟨v1, c2⟩ : ∃ v, I0 a0 5 = v := ⟨_, rfl⟩
  have b3 := iv1_5 hW0 ta0 c2
  obtain ⟨a4, d5, ta4⟩ := rf1_2 hW0 ta0
  obtain ⟨v6, c7⟩ : ∃ v, I0 a4 0 = v := ⟨_, rfl⟩
  have b8 := iv2_0 hW0 ta4 c7
  have p9 := pre0 _ d5
  rw [c2] at p9
  rw [c7] at p9
  obtain ⟨a10, d11, ta10⟩ := rf1_6 hW0 ta0
  obtain ⟨v12, c13⟩ : ∃ v, I0 a10 2 = v := ⟨_, rfl⟩
  have b14 := iv8_2 hS0.1 ta10 c13
  obtain ⟨v15, c16⟩ : ∃ v, I0 a10 1 = v := ⟨_, rfl⟩
  have b17 := iv8_1 hS0.1 ta10 c16
  obtain ⟨a18, d19, ta18⟩ := rf1_7 hW0 ta0
  obtain ⟨a20, d21, ta20⟩ := rf11_1 hW0 ta18
  obtain ⟨a22, d23, ta22⟩ := rf11_3 hW0 ta18
  obtain ⟨v24, c25⟩ : ∃ v, I0 a18 0 = v := ⟨_, rfl⟩
  have b26 := iv11_0 hS0.1 ta18 c25
  obtain ⟨v27, c28⟩ : ∃ v, I0 a18 2 = v := ⟨_, rfl⟩
  have b29 := iv11_2 hW0 ta18 c28
  obtain ⟨v30, c31⟩ : ∃ v, I0 a10 0 = v := ⟨_, rfl⟩
  refine tr_aload_n dX10_draw_0 rfl ?_
  refine q_getZ dX10_draw_1 fl10_95 (kR1 hS0.1 ta0) c2 ?_
  refine q_if_ne 13 dX10_draw_4 (by decide) (fun h32 => ?_) (fun h32 => ?_)
  · skip
    refine tr_aload_n dX10_draw_13 rfl ?_
    refine tr_getR dX10_draw_14 fl10_35 (kR1 hS0.1 ta0) d11 ?_
    refine q_getI dX10_draw_17 fl10_272 (kR8 hS0.1 ta10) c13 ?_
    refine q_bipush dX10_draw_20 (by decide +kernel) ?_
    intro v33 h34
    refine q_icmp_lt 31 dX10_draw_22 (by decide) (fun h35 => ?_) (fun h35 => ?_)
    · skip
      refine tr_aload_n dX10_draw_31 rfl ?_
      refine tr_getR dX10_draw_32 fl10_42 (kR1 hS0.1 ta0) d19 ?_
      refine tr_aload_n dX10_draw_35 rfl ?_
      refine tr_getR dX10_draw_36 fl10_35 (kR1 hS0.1 ta0) d11 ?_
      refine q_callVv hE (M' := mX6_keepAct) (as := [_]) dX10_draw_39 lk10_284 inX6_keepAct seX6_keepAct myX6_keepAct (by decide) ⟨by decide, by decide⟩ rfl (kR11 hS0.1 ta18) (Nat.le_of_ble_eq_true rfl) rfl rfl (by decide) (by decide) (fk_X6_keepAct hS0.1  ta18 ta10) ?_
      rintro cn' K' N' I36 R37 L38 ⟨rfl, rfl, rfl, rfl, g39, p42, p43, rp44, -⟩
      have hS45 := hS0.tr g39 (by decide +kernel) (by decide +kernel)
      have c46 : I36 a10 2 = v12 := (g39.cell ta10 (by decide +kernel)).trans c13
      have c47 : I36 a10 1 = v15 := (g39.cell ta10 (by decide +kernel)).trans c16
      obtain ⟨v48, c49⟩ : ∃ v, I36 a18 0 = v := ⟨_, rfl⟩
      have b50 := iv11_0 hS45.1 ta18 c49
      rw [c25] at p42
      rw [c49] at p42
      rw [c25] at p43
      rw [c49] at p43
      refine tr_aload_n dX10_draw_42 rfl ?_
      refine tr_getR dX10_draw_43 fl10_35 (kR1 hS45.1 ta0) ((hS45.rcell ta0 (by decide +kernel)).trans d11) ?_
      refine tr_aload_n dX10_draw_46 rfl ?_
      refine tr_getR dX10_draw_47 fl10_16 (kR1 hS45.1 ta0) ((hS45.rcell ta0 (by decide +kernel)).trans d5) ?_
      refine q_getI dX10_draw_50 fl10_146 (kR2 hS45.1 ta4) ((hS45.cell ta4 (by decide +kernel)).trans c7) ?_
      refine q_callVi hE (M' := mX3_addDrawn) (as := [_]) dX10_draw_53 lk10_275 inX3_addDrawn seX3_addDrawn myX3_addDrawn (by decide) ⟨by decide, by decide⟩ rfl (kR8 hS45.1 ta10) (Nat.le_of_ble_eq_true rfl) rfl rfl (by decide) (by decide) (fk_X3_addDrawn hS45.1  ta10 (by exact om_d956ef70 b8)) ?_
      rintro v56 cn' K' N' I51 R52 L53 ⟨rfl, rfl, rfl, rfl, rfl, g54, h57, p58, p59, p60, -⟩
      have hS61 := hS45.tr g54 (by decide +kernel) (by decide +kernel)
      have c62 : I51 a18 0 = v48 := (g54.cell ta18 (by decide +kernel)).trans c49
      obtain ⟨v63, c64⟩ : ∃ v, I51 a10 1 = v := ⟨_, rfl⟩
      have b65 := iv8_1 hS61.1 ta10 c64
      rw [c64] at p58
      rw [c47] at p58
      rw [c47] at p59
      obtain ⟨v66, c67⟩ : ∃ v, I51 a10 2 = v := ⟨_, rfl⟩
      have b68 := iv8_2 hS61.1 ta10 c67
      rw [c46] at p60
      rw [c67] at p60
      refine tr_istore_n dX10_draw_56 (by decide) (by decide) ?_
      refine tr_aload_n dX10_draw_57 rfl ?_
      refine q_callVv hE (M' := mX10_cloudsMoved) (as := []) dX10_draw_58 lk10_103 inX10_cloudsMoved seX10_cloudsMoved myX10_cloudsMoved (by decide) ⟨by decide, by decide⟩ rfl (kR1 hS61.1 ta0) (Nat.le_of_ble_eq_true rfl) rfl rfl (by decide) (by decide) (k_X10_cloudsMoved hS61.1 ta0) ?_
      rintro cn' K' N' I69 R70 L71 ⟨rfl, rfl, rfl, rfl, rfl, g72, -⟩
      have hS74 := hS61.tr g72 (by decide +kernel) (by decide +kernel)
      have c75 : I69 a18 0 = v48 := (g72.cell ta18 (by decide +kernel)).trans c62
      have c76 : I69 a10 1 = v63 := (g72.cell ta10 (by decide +kernel)).trans c64
      have c77 : I69 a10 2 = v66 := (g72.cell ta10 (by decide +kernel)).trans c67
      refine tr_aload_n dX10_draw_61 rfl ?_
      refine tr_iload_n dX10_draw_62 rfl ?_
      refine q_callVi hE (M' := mX10_answered) (as := [_]) dX10_draw_63 lk10_109 inX10_answered seX10_answered myX10_answered (by decide) ⟨by decide, by decide⟩ rfl (kR1 hS74.1 ta0) (Nat.le_of_ble_eq_true rfl) rfl rfl (by decide) (by decide) (fk_X10_answered hS74.1  ta0) ?_
      rintro v83 cn' K' N' I78 R79 L80 ⟨rfl, rfl, rfl, rfl, rfl, g81, p84, p85, -⟩
      have hS86 := hS74.tr g81 (by decide +kernel) (by decide +kernel)
      have c87 : I78 a18 0 = v48 := (g81.cell ta18 (by decide +kernel)).trans c75
      have c88 : I78 a10 1 = v63 := (g81.cell ta10 (by decide +kernel)).trans c76
      have c89 : I78 a10 2 = v66 := (g81.cell ta10 (by decide +kernel)).trans c77
      obtain ⟨v90, c91⟩ : ∃ v, I78 a0 17 = v := ⟨_, rfl⟩
      rw [c91] at p85
      exact tr_iret hZ dX10_draw_66 rfl (by decide) (by decide) ⟨v83, rfl, rfl, rfl, rfl, rfl, hS86, (Or.inr (Or.inr (⟨(by (try rw [c2]); first | done | with_reducible assumption | exact om_958f2aaf b3.2 b3.1 b14.2 b14.1 b26.2 b26.1 h32 h34 h35 p43 p42 p59 p60), (fun q0 z0 => by obtain rfl := Option.some.inj ((d11).symm.trans z0); (try rw [c13]); first | done | with_reducible assumption | exact om_a10b6f45 b14.2 b14.1 h34 h35), (fun q0 z0 => fun q1 z1 => by obtain rfl := Option.some.inj ((((hS86.rcell ta0 (by decide +kernel)).trans d11)).symm.trans z0); obtain rfl := Option.some.inj ((d11).symm.trans z1); (try rw [c89]); (try rw [c13]); first | done | with_reducible assumption | exact om_299eca5f b14.2 b14.1 h34 h35 p60 b68.2 b68.1), (fun q0 z0 => fun q1 z1 => by obtain rfl := Option.some.inj ((((hS86.rcell ta0 (by decide +kernel)).trans d11)).symm.trans z0); obtain rfl := Option.some.inj ((d11).symm.trans z1); (try rw [c88]); (try rw [c16]); first | done | with_reducible assumption | omega), (fun q0 z0 => fun q1 z1 => by obtain rfl := Option.some.inj ((d11).symm.trans z0); obtain rfl := Option.some.inj ((d5).symm.trans z1); (try rw [c16]); (try rw [c7]); first | done | with_reducible assumption | exact om_9d2f6f7d b3.2 b3.1 b8.2 b8.1 p9 b14.2 b14.1 b26.2 b26.1 h32 h34 h35 p43 p42 p59 p60 p84), (fun nw pa A h1 h2 h3 => by obtain rfl := Option.some.inj (d11.symm.trans h1); obtain rfl := Option.some.inj (d19.symm.trans h2); obtain rfl := Option.some.inj (d21.symm.trans h3); exact ⟨KeC.kp (rp44 _ d21) (fun a j h => ((g81.cell h (wm_no (by decide +kernel))).trans ((g72.cell h (wm_no (by decide +kernel))).trans (g54.cell h (wm_no (by decide +kernel)))))), fun q => by rw [c87, c25]; rw [c25] at q; exact om_3419bee3 b14.2 b14.1 b26.2 b26.1 h34 h35 p42 p59 p60 q, fun q => by rw [c87]; rw [c25] at q; exact om_17a41ecb b14.2 b14.1 b26.2 b26.1 h34 h35 p43 p42 b50.2 b50.1 p59 p60 q⟩), trivial⟩))), trivial⟩
    · skip
      refine tr_aload_n dX10_draw_25 rfl ?_
      refine q_iconst dX10_draw_26 (by decide) ?_
      intro v92 h93
      refine q_callVi hE (M' := mX10_refused) (as := [_]) dX10_draw_27 lk10_79 inX10_refused seX10_refused myX10_refused (by decide) ⟨by decide, by decide⟩ rfl (kR1 hS0.1 ta0) (Nat.le_of_ble_eq_true rfl) rfl rfl (by decide) (by decide) (fk_X10_refused hS0.1  ta0) ?_
      rintro v99 cn' K' N' I94 R95 L96 ⟨rfl, rfl, rfl, rfl, rfl, g97, p100, p101, -⟩
      have hS102 := hS0.tr g97 (by decide +kernel) (by decide +kernel)
      have c103 : I94 a10 2 = v12 := (g97.cell ta10 (by decide +kernel)).trans c13
      have c104 : I94 a10 1 = v15 := (g97.cell ta10 (by decide +kernel)).trans c16
      have c105 : I94 a18 0 = v24 := (g97.cell ta18 (by decide +kernel)).trans c25
      obtain ⟨v106, c107⟩ : ∃ v, I94 a0 17 = v := ⟨_, rfl⟩
      rw [c107] at p101
      exact tr_iret hZ dX10_draw_30 rfl (by decide) (by decide) ⟨v99, rfl, rfl, rfl, rfl, rfl, hS102, (Or.inr (Or.inl ⟨(by (try rw [c2]); first | done | with_reducible assumption | exact om_eea3e830 b3.2 b3.1 h32), (fun q0 z0 => by obtain rfl := Option.some.inj ((d11).symm.trans z0); (try rw [c13]); first | done | with_reducible assumption | exact om_c0d53a33 b14.2 b14.1 h34 h35), (by first | done | with_reducible assumption | omega), ⟨rfl, fun a j h => by rcases h with h | h | h; exact (g97.cell h (wm_no (by decide +kernel))); exact (g97.cell h (wm_no (by decide +kernel))); exact (g97.cell h (wm_no (by decide +kernel)))⟩, trivial⟩)), trivial⟩
  · skip
    refine tr_aload_n dX10_draw_7 rfl ?_
    refine q_iconst dX10_draw_8 (by decide) ?_
    intro v108 h109
    refine q_callVi hE (M' := mX10_refused) (as := [_]) dX10_draw_9 lk10_79 inX10_refused seX10_refused myX10_refused (by decide) ⟨by decide, by decide⟩ rfl (kR1 hS0.1 ta0) (Nat.le_of_ble_eq_true rfl) rfl rfl (by decide) (by decide) (fk_X10_refused hS0.1  ta0) ?_
    rintro v115 cn' K' N' I110 R111 L112 ⟨rfl, rfl, rfl, rfl, rfl, g113, p116, p117, -⟩
    have hS118 := hS0.tr g113 (by decide +kernel) (by decide +kernel)
    have c119 : I110 a10 2 = v12 := (g113.cell ta10 (by decide +kernel)).trans c13
    have c120 : I110 a10 1 = v15 := (g113.cell ta10 (by decide +kernel)).trans c16
    have c121 : I110 a18 0 = v24 := (g113.cell ta18 (by decide +kernel)).trans c25
    obtain ⟨v122, c123⟩ : ∃ v, I110 a0 17 = v := ⟨_, rfl⟩
    rw [c123] at p117
    exact tr_iret hZ dX10_draw_12 rfl (by decide) (by decide) ⟨v115, rfl, rfl, rfl, rfl, rfl, hS118, (Or.inl ⟨(by (try rw [c2]); first | done | with_reducible assumption | omega), (by first | done | with_reducible assumption | omega), ⟨rfl, fun a j h => by rcases h with h | h | h; exact (g113.cell h (wm_no (by decide +kernel))); exact (g113.cell h (wm_no (by decide +kernel))); exact (g113.cell h (wm_no (by decide +kernel)))⟩, trivial⟩), trivial⟩
def wik_X10_lift : List Nat := [73, 75, 81, 514, 640, 641, 642, 704, 2047, 2111]
def wrk_X10_lift : List Nat := [2175]
def Cs_X10_lift (T : Nat → Nat) (I0 : cz_I) (R0 : cz_R) (a0 : Nat) (v : Int32) (I' : cz_I) (R' : cz_R) : Prop :=
  ((∀ b1, R0 a0 6 = some b1 → (I0 b1 2).toInt = 0) ∧ (v.toInt = 0) ∧ (SmC T I0 R0 I' R') ∧ True) ∨
  ((∀ b1, R0 a0 6 = some b1 → (I0 b1 2).toInt ≥ 1) ∧ (v.toInt = 1) ∧ (∀ b1, R' a0 6 = some b1 → ∀ b2, R0 a0 6 = some b2 → (I' b1 2).toInt = (I0 b2 2).toInt - 1) ∧ (KpC T I0 R0 I' R' a0) ∧ True)
set_option maxHeartbeats 4000000 in
theorem fk_X10_lift {l : Launch} {T : Nat → Nat} {cn : Nat} {K N : Nat → Nat} {I0 : cz_I} {R0 : cz_R} {L0 : cz_L} {d : Int} (hW0 : Wf T cn K N I0 R0 d)  {a0 : Nat} (ta0 : T a0 = 1) : ConE l mX10_lift [.ref a0] cn K N I0 R0 L0 (ca_i (fun v cn' K' N' I' R' L' => cn = cn' ∧ K = K' ∧ N = N' ∧ L0 = L' ∧ St T cn K N d wik_X10_lift wrk_X10_lift I0 R0 I' R' ∧ (0 ≤ v.toInt ∧ v.toInt ≤ 1) ∧ Cs_X10_lift T I0 R0 a0 v I' R' ∧ True)) := by
  refine ConE.of (by decide +kernel) rfl (Nat.le_of_ble_eq_true rfl) rfl (fun X hX hZ hE => ?_)
  subst hX
  have hS0 : St T cn K N d wik_X10_lift wrk_X10_lift I0 R0 I0 R0 := St.rf0 hW0
  obtain ⟨a1, d2, ta1⟩ := rf1_6 hW0 ta0
  obtain ⟨v3, c4⟩ : ∃ v, I0 a1 2 = v := ⟨_, rfl⟩
  have b5 := iv8_2 hS0.1 ta1 c4
  obtain ⟨a6, d7, ta6⟩ := rf1_7 hW0 ta0
  obtain ⟨a8, d9, ta8⟩ := rf11_1 hW0 ta6
  obtain ⟨a10, d11, ta10⟩ := rf11_3 hW0 ta6
  obtain ⟨v12, c13⟩ : ∃ v, I0 a6 0 = v := ⟨_, rfl⟩
  have b14 := iv11_0 hS0.1 ta6 c13
  obtain ⟨v15, c16⟩ : ∃ v, I0 a6 2 = v := ⟨_, rfl⟩
  have b17 := iv11_2 hW0 ta6 c16
  obtain ⟨v18, c19⟩ : ∃ v, I0 a1 0 = v := ⟨_, rfl⟩
  obtain ⟨v20, c21⟩ : ∃ v, I0 a1 1 = v := ⟨_, rfl⟩
  have b22 := iv8_1 hW0 ta1 c21
  refine tr_aload_n dX10_lift_0 rfl ?_
  refine tr_getR dX10_lift_1 fl10_35 (kR1 hS0.1 ta0) d2 ?_
  refine q_getI dX10_lift_4 fl10_272 (kR8 hS0.1 ta1) c4 ?_
  refine q_if_ne 17 dX10_lift_7 (by decide) (fun h23 => ?_) (fun h23 => ?_)
  · skip
    refine tr_aload_n dX10_lift_17 rfl ?_
    refine tr_getR dX10_lift_18 fl10_42 (kR1 hS0.1 ta0) d7 ?_
    refine tr_aload_n dX10_lift_21 rfl ?_
    refine tr_getR dX10_lift_22 fl10_35 (kR1 hS0.1 ta0) d2 ?_
    refine q_callVv hE (M' := mX6_keepAct) (as := [_]) dX10_lift_25 lk10_284 inX6_keepAct seX6_keepAct myX6_keepAct (by decide) ⟨by decide, by decide⟩ rfl (kR11 hS0.1 ta6) (Nat.le_of_ble_eq_true rfl) rfl rfl (by decide) (by decide) (fk_X6_keepAct hS0.1  ta6 ta1) ?_
    rintro cn' K' N' I24 R25 L26 ⟨rfl, rfl, rfl, rfl, g27, p30, p31, rp32, -⟩
    have hS33 := hS0.tr g27 (by decide +kernel) (by decide +kernel)
    have c34 : I24 a1 2 = v3 := (g27.cell ta1 (by decide +kernel)).trans c4
    obtain ⟨v35, c36⟩ : ∃ v, I24 a6 0 = v := ⟨_, rfl⟩
    have b37 := iv11_0 hS33.1 ta6 c36
    rw [c13] at p30
    rw [c36] at p30
    rw [c13] at p31
    rw [c36] at p31
    refine tr_aload_n dX10_lift_28 rfl ?_
    refine tr_getR dX10_lift_29 fl10_35 (kR1 hS33.1 ta0) ((hS33.rcell ta0 (by decide +kernel)).trans d2) ?_
    refine tr_dup dX10_lift_32 rfl ?_
    refine q_getI dX10_lift_33 fl10_272 (kR8 hS33.1 ta1) c34 ?_
    refine q_iconst dX10_lift_36 (by decide) ?_
    intro v38 h39
    refine q_isubE dX10_lift_37 (by intro j1 j2 j3 j4; exact om_8ca73117 b5.2 b5.1 h39) ?_
    intro v40 h41
    refine q_putI dX10_lift_38 fl10_272 (kR8 hS33.1 ta1) (Or.inl rfl) hS33 ta1 (by show (0 : Int) ≤ v40.toInt ∧ v40.toInt ≤ (6 : Int); exact om_1e90aae0 b5.2 b5.1 b14.2 b14.1 h23 p31 p30 h39 h41) rfl (by decide +kernel) ?_
    intro I42 hS43 e44 f45
    have c46 : I42 a6 0 = v35 := (f45 _ _ (fun q => absurd q.2 (by decide))).trans c36
    refine tr_aload_n dX10_lift_41 rfl ?_
    refine q_callVv hE (M' := mX10_cloudsMoved) (as := []) dX10_lift_42 lk10_103 inX10_cloudsMoved seX10_cloudsMoved myX10_cloudsMoved (by decide) ⟨by decide, by decide⟩ rfl (kR1 hS43.1 ta0) (Nat.le_of_ble_eq_true rfl) rfl rfl (by decide) (by decide) (k_X10_cloudsMoved hS43.1 ta0) ?_
    rintro cn' K' N' I47 R48 L49 ⟨rfl, rfl, rfl, rfl, rfl, g50, -⟩
    have hS52 := hS43.tr g50 (by decide +kernel) (by decide +kernel)
    have c53 : I47 a6 0 = v35 := (g50.cell ta6 (by decide +kernel)).trans c46
    have c54 : I47 a1 2 = v40 := (g50.cell ta1 (by decide +kernel)).trans e44
    refine tr_aload_n dX10_lift_45 rfl ?_
    refine q_callVi hE (M' := mX10_allowed) (as := []) dX10_lift_46 lk10_291 inX10_allowed seX10_allowed myX10_allowed (by decide) ⟨by decide, by decide⟩ rfl (kR1 hS52.1 ta0) (Nat.le_of_ble_eq_true rfl) rfl rfl (by decide) (by decide) (fk_X10_allowed hS52.1  ta0) ?_
    rintro v60 cn' K' N' I55 R56 L57 ⟨rfl, rfl, rfl, rfl, rfl, g58, h61, p62, p63, -⟩
    have hS64 := hS52.tr g58 (by decide +kernel) (by decide +kernel)
    have c65 : I55 a6 0 = v35 := (g58.cell ta6 (by decide +kernel)).trans c53
    have c66 : I55 a1 2 = v40 := (g58.cell ta1 (by decide +kernel)).trans c54
    obtain ⟨v67, c68⟩ : ∃ v, I55 a0 17 = v := ⟨_, rfl⟩
    rw [c68] at p63
    exact tr_zret hZ dX10_lift_49 rfl (ti_b01 (by exact om_f9079521 p62) (by exact om_e6632817 p62)) (by decide) (by decide) ⟨v60, rfl, rfl, rfl, rfl, rfl, hS64, (by exact om_be53a44c h61), (Or.inr (⟨(fun q0 z0 => by obtain rfl := Option.some.inj ((d2).symm.trans z0); (try rw [c4]); first | done | with_reducible assumption | exact om_75b9b3ce b5.2 b5.1 b14.2 b14.1 h23 p31 p30 h39 h41), (by first | done | with_reducible assumption | omega), (fun q0 z0 => fun q1 z1 => by obtain rfl := Option.some.inj ((((hS64.rcell ta0 (by decide +kernel)).trans d2)).symm.trans z0); obtain rfl := Option.some.inj ((d2).symm.trans z1); (try rw [c66]); (try rw [c4]); first | done | with_reducible assumption | exact om_d85062b9 h39 h41), (fun nw pa A h1 h2 h3 => by obtain rfl := Option.some.inj (d2.symm.trans h1); obtain rfl := Option.some.inj (d7.symm.trans h2); obtain rfl := Option.some.inj (d9.symm.trans h3); exact ⟨KeC.kp (rp32 _ d9) (fun a j h => ((g58.cell h (wm_no (by decide +kernel))).trans ((g50.cell h (wm_no (by decide +kernel))).trans (f45 _ _ (fun q => by have z := h; rw [q.1, ta1] at z; exact absurd z (by decide)))))), fun q => by rw [c65, c13]; rw [c13] at q; exact om_6f80cd6c b14.2 b14.1 p30 q, fun q => by rw [c65]; rw [c13] at q; exact om_6851ab51 b14.2 b14.1 p31 p30 b37.2 b37.1 q⟩), trivial⟩)), trivial⟩
  · skip
    refine tr_aload_n dX10_lift_10 rfl ?_
    refine q_bipush dX10_lift_11 (by decide +kernel) ?_
    intro v69 h70
    refine q_callVi hE (M' := mX10_refusedAct) (as := [_]) dX10_lift_13 lk10_281 inX10_refusedAct seX10_refusedAct myX10_refusedAct (by decide) ⟨by decide, by decide⟩ rfl (kR1 hS0.1 ta0) (Nat.le_of_ble_eq_true rfl) rfl rfl (by decide) (by decide) (fk_X10_refusedAct hS0.1  ta0) ?_
    rintro v76 cn' K' N' I71 R72 L73 ⟨rfl, rfl, rfl, rfl, rfl, g74, h77, p78, p79, -⟩
    have hS80 := hS0.tr g74 (by decide +kernel) (by decide +kernel)
    have c81 : I71 a1 2 = v3 := (g74.cell ta1 (by decide +kernel)).trans c4
    have c82 : I71 a6 0 = v12 := (g74.cell ta6 (by decide +kernel)).trans c13
    obtain ⟨v83, c84⟩ : ∃ v, I71 a0 17 = v := ⟨_, rfl⟩
    rw [c84] at p79
    exact tr_zret hZ dX10_lift_16 rfl (ti_b01 (by exact om_d99fa9e4 p78) (by exact om_d3de7ec9 p78)) (by decide) (by decide) ⟨v76, rfl, rfl, rfl, rfl, rfl, hS80, (by exact om_be53a44c h77), (Or.inl ⟨(fun q0 z0 => by obtain rfl := Option.some.inj ((d2).symm.trans z0); (try rw [c4]); first | done | with_reducible assumption | omega), (by first | done | with_reducible assumption | omega), ⟨rfl, fun a j h => by rcases h with h | h | h; exact (g74.cell h (wm_no (by decide +kernel))); exact (g74.cell h (wm_no (by decide +kernel))); exact (g74.cell h (wm_no (by decide +kernel)))⟩, trivial⟩), trivial⟩
set_option maxHeartbeats 4000000 in
theorem fk_X10_isSeed {l : Launch} {T : Nat → Nat} {cn : Nat} {K N : Nat → Nat} {I0 : cz_I} {R0 : cz_R} {L0 : cz_L} {d : Int} (hW0 : Wf T cn K N I0 R0 d)  {x0 : Int32} : ConE l mX10_isSeed [.int x0] cn K N I0 R0 L0 (ca_i (fun v cn' K' N' I' R' L' => cn = cn' ∧ K = K' ∧ N = N' ∧ I0 = I' ∧ R0 = R' ∧ L0 = L' ∧ (0 ≤ v.toInt ∧ v.toInt ≤ 1) ∧ ((v.toInt = 1 → (0 ≤ x0.toInt ∧ x0.toInt ≤ 65536))) ∧ ((v.toInt = 0 → (x0.toInt < 0 ∨ x0.toInt > 65536))) ∧ True)) := by
  refine ConE.of (by decide +kernel) rfl (Nat.le_of_ble_eq_true rfl) rfl (fun X hX hZ hE => ?_)
  subst hX
  refine tr_iload_n dX10_isSeed_0 rfl ?_
  refine q_if_lt 15 dX10_isSeed_1 (by decide) (fun h1 => ?_) (fun h1 => ?_)
  · skip
    refine q_iconst dX10_isSeed_15 (by decide) ?_
    intro v2 h3
    exact tr_zret hZ dX10_isSeed_16 rfl (ti_b01 (by exact om_d99fa9e4 h3) (by exact om_d3de7ec9 h3)) (by decide) (by decide) ⟨v2, rfl, rfl, rfl, rfl, rfl, rfl, rfl, (by exact om_3b50ecb9 h3), (by first | done | with_reducible assumption | exact om_060355dc h3), (by first | done | with_reducible assumption | exact om_c59a50a2 h1), trivial⟩
  · skip
    refine tr_iload_n dX10_isSeed_4 rfl ?_
    refine q_ldcw 65537 dX10_isSeed_5 ld10_357 (by decide +kernel) ?_
    intro v4 h5
    refine q_icmp_ge 15 dX10_isSeed_8 (by decide) (fun h6 => ?_) (fun h6 => ?_)
    · skip
      refine q_iconst dX10_isSeed_15 (by decide) ?_
      intro v7 h8
      exact tr_zret hZ dX10_isSeed_16 rfl (ti_b01 (by exact om_d99fa9e4 h8) (by exact om_d3de7ec9 h8)) (by decide) (by decide) ⟨v7, rfl, rfl, rfl, rfl, rfl, rfl, rfl, (by exact om_3b50ecb9 h8), (by first | done | with_reducible assumption | exact om_060355dc h8), (by first | done | with_reducible assumption | exact om_c07223f1 h1 h5 h6), trivial⟩
    · skip
      refine q_iconst dX10_isSeed_11 (by decide) ?_
      intro v9 h10
      refine tr_goto 16 dX10_isSeed_12 (by decide) ?_
      exact tr_zret hZ dX10_isSeed_16 rfl (ti_b01 (by exact om_f9079521 h10) (by exact om_e6632817 h10)) (by decide) (by decide) ⟨v9, rfl, rfl, rfl, rfl, rfl, rfl, rfl, (by exact om_d753bc65 h10), (by first | done | with_reducible assumption | exact om_5af01e33 h1 h5 h6), (by first | done | with_reducible assumption | exact om_a04d2cda h10), trivial⟩
def wik_X10_seed : List Nat := [81, 513]
def wrk_X10_seed : List Nat := []
def Cs_X10_seed (T : Nat → Nat) (I0 : cz_I) (R0 : cz_R) (a0 : Nat) (x1 : Int32) (v : Int32) (I' : cz_I) (R' : cz_R) : Prop :=
  (((I0 a0 5).toInt = 0) ∧ (v.toInt = 0) ∧ (SmC T I0 R0 I' R0) ∧ True) ∨
  (((I0 a0 5).toInt = 1) ∧ ((x1.toInt < 0 ∨ x1.toInt > 65536)) ∧ (v.toInt = 0) ∧ (SmC T I0 R0 I' R0) ∧ True) ∨
  (((I0 a0 5).toInt = 1) ∧ (0 ≤ x1.toInt) ∧ (x1.toInt ≤ 65536) ∧ (v.toInt = 1) ∧ (∀ b1, R0 a0 6 = some b1 → (I' b1 1).toInt = x1.toInt) ∧ True)
set_option maxHeartbeats 4000000 in
theorem fk_X10_seed {l : Launch} {T : Nat → Nat} {cn : Nat} {K N : Nat → Nat} {I0 : cz_I} {R0 : cz_R} {L0 : cz_L} {d : Int} (hW0 : Wf T cn K N I0 R0 d)  {a0 : Nat} (ta0 : T a0 = 1) {x1 : Int32} : ConE l mX10_seed [.ref a0, .int x1] cn K N I0 R0 L0 (ca_i (fun v cn' K' N' I' R' L' => cn = cn' ∧ K = K' ∧ N = N' ∧ R0 = R' ∧ L0 = L' ∧ St T cn K N d wik_X10_seed wrk_X10_seed I0 R0 I' R0 ∧ (0 ≤ v.toInt ∧ v.toInt ≤ 1) ∧ Cs_X10_seed T I0 R0 a0 x1 v I' R0 ∧ True)) := by
  refine ConE.of (by decide +kernel) rfl (Nat.le_of_ble_eq_true rfl) rfl (fun X hX hZ hE => ?_)
  subst hX
  have hS0 : St T cn K N d wik_X10_seed wrk_X10_seed I0 R0 I0 R0 := St.rf0 hW0
  obtain ⟨v1, c2⟩ : ∃ v, I0 a0 5 = v := ⟨_, rfl⟩
  have b3 := iv1_5 hW0 ta0 c2
  obtain ⟨a4, d5, ta4⟩ := rf1_7 hW0 ta0
  obtain ⟨a6, d7, ta6⟩ := rf1_6 hW0 ta0
  obtain ⟨a8, d9, ta8⟩ := rf11_1 hW0 ta4
  obtain ⟨a10, d11, ta10⟩ := rf11_3 hW0 ta4
  obtain ⟨v12, c13⟩ : ∃ v, I0 a4 0 = v := ⟨_, rfl⟩
  have b14 := iv11_0 hW0 ta4 c13
  obtain ⟨v15, c16⟩ : ∃ v, I0 a4 2 = v := ⟨_, rfl⟩
  have b17 := iv11_2 hW0 ta4 c16
  obtain ⟨v18, c19⟩ : ∃ v, I0 a6 0 = v := ⟨_, rfl⟩
  obtain ⟨v20, c21⟩ : ∃ v, I0 a6 1 = v := ⟨_, rfl⟩
  have b22 := iv8_1 hS0.1 ta6 c21
  obtain ⟨v23, c24⟩ : ∃ v, I0 a6 2 = v := ⟨_, rfl⟩
  have b25 := iv8_2 hW0 ta6 c24
  refine tr_aload_n dX10_seed_0 rfl ?_
  refine q_getZ dX10_seed_1 fl10_95 (kR1 hS0.1 ta0) c2 ?_
  refine q_if_ne 13 dX10_seed_4 (by decide) (fun h26 => ?_) (fun h26 => ?_)
  · skip
    refine tr_iload_n dX10_seed_13 rfl ?_
    refine q_callSi hE (M' := mX10_isSeed) (as := [_]) dX10_seed_14 lk10_266 inX10_isSeed myX10_isSeed ⟨by decide, by decide⟩ rfl (Nat.le_of_ble_eq_true rfl) rfl rfl (by decide) (by decide) (fk_X10_isSeed hS0.1  ) ?_
    rintro v32 cn' K' N' I27 R28 L29 ⟨rfl, rfl, rfl, rfl, rfl, rfl, h33, p34, p35, -⟩
    refine q_if_ne 26 dX10_seed_17 (by decide) (fun h36 => ?_) (fun h36 => ?_)
    · skip
      refine tr_aload_n dX10_seed_26 rfl ?_
      refine tr_getR dX10_seed_27 fl10_35 (kR1 hS0.1 ta0) d7 ?_
      refine tr_iload_n dX10_seed_30 rfl ?_
      refine q_putI dX10_seed_31 fl10_269 (kR8 hS0.1 ta6) (Or.inl rfl) hS0 ta6 (by show (0 : Int) ≤ x1.toInt ∧ x1.toInt ≤ (65536 : Int); exact om_10c3df62 h33.2 h33.1 p34 p35 h36) rfl (by decide +kernel) ?_
      intro I37 hS38 e39 f40
      refine tr_aload_n dX10_seed_34 rfl ?_
      refine q_callVi hE (M' := mX10_allowed) (as := []) dX10_seed_35 lk10_291 inX10_allowed seX10_allowed myX10_allowed (by decide) ⟨by decide, by decide⟩ rfl (kR1 hS38.1 ta0) (Nat.le_of_ble_eq_true rfl) rfl rfl (by decide) (by decide) (fk_X10_allowed hS38.1  ta0) ?_
      rintro v46 cn' K' N' I41 R42 L43 ⟨rfl, rfl, rfl, rfl, rfl, g44, h47, p48, p49, -⟩
      have hS50 := hS38.tr g44 (by decide +kernel) (by decide +kernel)
      have c51 : I41 a6 1 = x1 := (g44.cell ta6 (by decide +kernel)).trans e39
      obtain ⟨v52, c53⟩ : ∃ v, I41 a0 17 = v := ⟨_, rfl⟩
      rw [c53] at p49
      exact tr_zret hZ dX10_seed_38 rfl (ti_b01 (by exact om_f9079521 p48) (by exact om_e6632817 p48)) (by decide) (by decide) ⟨v46, rfl, rfl, rfl, rfl, rfl, rfl, hS50, (by exact om_be53a44c h47), (Or.inr (Or.inr (⟨(by (try rw [c2]); first | done | with_reducible assumption | exact om_7a88fee0 b3.2 b3.1 h26 h33.2 h33.1 p34 p35 h36), (by first | done | with_reducible assumption | exact om_33db202d h33.2 h33.1 p34 p35 h36), (by first | done | with_reducible assumption | exact om_55230cc1 h33.2 h33.1 p34 p35 h36), (by first | done | with_reducible assumption | omega), (fun q0 z0 => by obtain rfl := Option.some.inj ((d7).symm.trans z0); (try rw [c51]); first | done | with_reducible assumption | omega), trivial⟩))), trivial⟩
    · skip
      refine tr_aload_n dX10_seed_20 rfl ?_
      refine q_iconst dX10_seed_21 (by decide) ?_
      intro v54 h55
      refine q_callVi hE (M' := mX10_refusedAct) (as := [_]) dX10_seed_22 lk10_281 inX10_refusedAct seX10_refusedAct myX10_refusedAct (by decide) ⟨by decide, by decide⟩ rfl (kR1 hS0.1 ta0) (Nat.le_of_ble_eq_true rfl) rfl rfl (by decide) (by decide) (fk_X10_refusedAct hS0.1  ta0) ?_
      rintro v61 cn' K' N' I56 R57 L58 ⟨rfl, rfl, rfl, rfl, rfl, g59, h62, p63, p64, -⟩
      have hS65 := hS0.tr g59 (by decide +kernel) (by decide +kernel)
      have c66 : I56 a6 1 = v20 := (g59.cell ta6 (by decide +kernel)).trans c21
      obtain ⟨v67, c68⟩ : ∃ v, I56 a0 17 = v := ⟨_, rfl⟩
      rw [c68] at p64
      exact tr_zret hZ dX10_seed_25 rfl (ti_b01 (by exact om_d99fa9e4 p63) (by exact om_d3de7ec9 p63)) (by decide) (by decide) ⟨v61, rfl, rfl, rfl, rfl, rfl, rfl, hS65, (by exact om_be53a44c h62), (Or.inr (Or.inl ⟨(by (try rw [c2]); first | done | with_reducible assumption | exact om_d7503d19 b3.2 b3.1 h26 p34 p35 h36), (by first | done | with_reducible assumption | exact om_836e5c5e p35 h36), (by first | done | with_reducible assumption | omega), ⟨rfl, fun a j h => by rcases h with h | h | h; exact (g59.cell h (wm_no (by decide +kernel))); exact (g59.cell h (wm_no (by decide +kernel))); exact (g59.cell h (wm_no (by decide +kernel)))⟩, trivial⟩)), trivial⟩
  · skip
    refine tr_aload_n dX10_seed_7 rfl ?_
    refine q_iconst dX10_seed_8 (by decide) ?_
    intro v69 h70
    refine q_callVi hE (M' := mX10_refusedAct) (as := [_]) dX10_seed_9 lk10_281 inX10_refusedAct seX10_refusedAct myX10_refusedAct (by decide) ⟨by decide, by decide⟩ rfl (kR1 hS0.1 ta0) (Nat.le_of_ble_eq_true rfl) rfl rfl (by decide) (by decide) (fk_X10_refusedAct hS0.1  ta0) ?_
    rintro v76 cn' K' N' I71 R72 L73 ⟨rfl, rfl, rfl, rfl, rfl, g74, h77, p78, p79, -⟩
    have hS80 := hS0.tr g74 (by decide +kernel) (by decide +kernel)
    have c81 : I71 a6 1 = v20 := (g74.cell ta6 (by decide +kernel)).trans c21
    obtain ⟨v82, c83⟩ : ∃ v, I71 a0 17 = v := ⟨_, rfl⟩
    rw [c83] at p79
    exact tr_zret hZ dX10_seed_12 rfl (ti_b01 (by exact om_d99fa9e4 p78) (by exact om_d3de7ec9 p78)) (by decide) (by decide) ⟨v76, rfl, rfl, rfl, rfl, rfl, rfl, hS80, (by exact om_be53a44c h77), (Or.inl ⟨(by (try rw [c2]); first | done | with_reducible assumption | omega), (by first | done | with_reducible assumption | omega), ⟨rfl, fun a j h => by rcases h with h | h | h; exact (g74.cell h (wm_no (by decide +kernel))); exact (g74.cell h (wm_no (by decide +kernel))); exact (g74.cell h (wm_no (by decide +kernel)))⟩, trivial⟩), trivial⟩
def wik_X3_become_1 : List Nat := [512, 513, 514, 1791, 1855]
def wrk_X3_become_1 : List Nat := []
set_option maxHeartbeats 4000000 in
theorem fk_X3_become_1 {l : Launch} {T : Nat → Nat} {cn : Nat} {K N : Nat → Nat} {I0 : cz_I} {R0 : cz_R} {L0 : cz_L} {d : Int} (hW0 : Wf T cn K N I0 R0 d)  {a0 : Nat} (ta0 : T a0 = 8) {a1 : Nat} (ta1 : T a1 = 10) : ConE l mX3_become [.ref a0, .ref a1] cn K N I0 R0 L0 (ca_v (fun cn' K' N' I' R' L' => cn = cn' ∧ K = K' ∧ N = N' ∧ R0 = R' ∧ L0 = L' ∧ St T cn K N d wik_X3_become_1 wrk_X3_become_1 I0 R0 I' R0 ∧ ((I' a0 0).toInt = (I0 a1 0).toInt) ∧ ((I' a0 1).toInt = (I0 a1 1).toInt) ∧ ((I' a0 2).toInt = (I0 a1 2).toInt) ∧ True)) := by
  refine ConE.of (by decide +kernel) rfl (Nat.le_of_ble_eq_true rfl) rfl (fun X hX hZ hE => ?_)
  subst hX
  have hS0 : St T cn K N d wik_X3_become_1 wrk_X3_become_1 I0 R0 I0 R0 := St.rf0 hW0
  obtain ⟨v1, c2⟩ : ∃ v, I0 a1 0 = v := ⟨_, rfl⟩
  obtain ⟨v3, c4⟩ : ∃ v, I0 a1 1 = v := ⟨_, rfl⟩
  have b5 := iv10_1 hW0 ta1 c4
  obtain ⟨v6, c7⟩ : ∃ v, I0 a1 2 = v := ⟨_, rfl⟩
  have b8 := iv10_2 hW0 ta1 c7
  refine tr_aload_n dX3_become_0 rfl ?_
  refine tr_aload_n dX3_become_1 rfl ?_
  refine q_getI dX3_become_2 fl3_18 (kR10 hS0.1 ta1) c2 ?_
  refine q_putI dX3_become_5 fl3_18 (kR8 hS0.1 ta0) (Or.inl rfl) hS0 ta0 (iokF rfl) rfl (by decide +kernel) ?_
  intro I9 hS10 e11 f12
  refine tr_aload_n dX3_become_8 rfl ?_
  refine tr_aload_n dX3_become_9 rfl ?_
  refine q_getI dX3_become_10 fl3_22 (kR10 hS10.1 ta1) ((hS10.cell ta1 (by decide +kernel)).trans c4) ?_
  refine q_putI dX3_become_13 fl3_22 (kR8 hS10.1 ta0) (Or.inl rfl) hS10 ta0 (by show (0 : Int) ≤ v3.toInt ∧ v3.toInt ≤ (65536 : Int); exact om_fc33552b b5) rfl (by decide +kernel) ?_
  intro I13 hS14 e15 f16
  have c17 : I13 a0 0 = v1 := (f16 _ _ (fun q => absurd q.2 (by decide))).trans e11
  refine tr_aload_n dX3_become_16 rfl ?_
  refine tr_aload_n dX3_become_17 rfl ?_
  refine q_getI dX3_become_18 fl3_25 (kR10 hS14.1 ta1) ((hS14.cell ta1 (by decide +kernel)).trans c7) ?_
  refine q_putI dX3_become_21 fl3_25 (kR8 hS14.1 ta0) (Or.inl rfl) hS14 ta0 (by show (0 : Int) ≤ v6.toInt ∧ v6.toInt ≤ (6 : Int); exact om_cafeadf3 b8) rfl (by decide +kernel) ?_
  intro I18 hS19 e20 f21
  have c22 : I18 a0 0 = v1 := (f21 _ _ (fun q => absurd q.2 (by decide))).trans c17
  have c23 : I18 a0 1 = v3 := (f21 _ _ (fun q => absurd q.2 (by decide))).trans e15
  refine q_iconst dX3_become_24 (by decide) ?_
  intro v24 h25
  refine tr_istore_n dX3_become_25 (by decide) (by decide) ?_
  have lp42 : ∀ (fu : Nat) (ls : Nat → Option Value) (v26 : Int32) (I30 : cz_I) (v32 : Int32) (v34 : Int32) (v36 : Int32), ls 0 = some (.ref a0) → ls 1 = some (.ref a1) → ls 2 = some (.int v26) → St T cn K N d wik_X3_become_1 wrk_X3_become_1 I0 R0 I30 R0 → I30 a0 0 = v32 → I30 a0 1 = v34 → I30 a0 2 = v36 → v32.toInt = v1.toInt → v34.toInt = v3.toInt → v36.toInt = v6.toInt → 0 ≤ v26.toInt → (-v26.toInt + 2147483647).toNat < fu → Tr X mX3_become 26 ls [] cn K N I30 R0 L0 0 0 := by
    intro fu
    induction fu with
    | zero => intros; rename_i hz; exact absurd hz (Nat.not_lt_zero _)
    | succ fu ih42 =>
      intro ls v26 I30 v32 v34 v36 hl27 hl28 hl29 hS31 c33 c35 c37 g38 g39 g40 g41 hm42
      have b44 := iv8_1 hS31.1 ta0 c35
      have b45 := iv8_2 hS31.1 ta0 c37
      refine tr_iload_n dX3_become_26 hl29 ?_
      refine tr_aload_n dX3_become_27 hl28 ?_
      refine q_getI dX3_become_28 fl3_25 (kR10 hS31.1 ta1) ((hS31.cell ta1 (by decide +kernel)).trans c7) ?_
      refine q_icmp_ge 64 dX3_become_31 (by decide) (fun h46 => ?_) (fun h46 => ?_)
      · skip
        exact tr_vret hZ dX3_become_64 rfl (by decide) (by decide) ⟨rfl, rfl, rfl, rfl, rfl, rfl, hS31, (by (try rw [c33]); (try rw [c2]); first | done | with_reducible assumption | omega), (by (try rw [c35]); (try rw [c4]); first | done | with_reducible assumption | omega), (by (try rw [c37]); (try rw [c7]); first | done | with_reducible assumption | omega), trivial⟩
      · skip
        refine tr_aload_n dX3_become_34 hl27 ?_
        obtain ⟨a47, d48, ta47⟩ := rf8_3 hW0 ta0
        refine tr_getR dX3_become_35 fl3_9 (kR8 hS31.1 ta0) d48 ?_
        refine tr_iload_n dX3_become_38 hl29 ?_
        refine tr_aload_n dX3_become_39 hl28 ?_
        obtain ⟨a49, d50, ta49⟩ := rf10_3 hW0 ta1
        refine tr_getR dX3_become_40 fl3_9 (kR10 hS31.1 ta1) d50 ?_
        refine tr_iload_n dX3_become_43 hl29 ?_
        refine q_iald dX3_become_44 (kR31 hS31.1 ta49) (ti_in (nR31 hS31.1 ta49) (by exact om_2cfcd5a5 g41) (by exact om_fcfbe61b b8.2 b8.1 g40 h46)) ?_
        intro v51 c52
        have b53 := iv31 hS31.1 ta49 c52
        refine q_iast dX3_become_45 (kR27 hS31.1 ta47) (ti_in (nR27 hS31.1 ta47) (by exact om_2cfcd5a5 g41) (by exact om_fcfbe61b b8.2 b8.1 g40 h46)) hS31 ta47 (by show (0 : Int) ≤ v51.toInt ∧ v51.toInt ≤ (240 : Int); exact om_d956ef70 b53) rfl (by rfl) ?_
        intro I54 hS55 e57 f56
        have c58 : I54 a0 0 = v32 := (f56 _ _ (fun q => by have z := ta0; rw [q.1, ta47] at z; exact absurd z (by decide))).trans c33
        have c59 : I54 a0 1 = v34 := (f56 _ _ (fun q => by have z := ta0; rw [q.1, ta47] at z; exact absurd z (by decide))).trans c35
        have c60 : I54 a0 2 = v36 := (f56 _ _ (fun q => by have z := ta0; rw [q.1, ta47] at z; exact absurd z (by decide))).trans c37
        refine tr_aload_n dX3_become_46 hl27 ?_
        obtain ⟨a61, d62, ta61⟩ := rf8_4 hW0 ta0
        refine tr_getR dX3_become_47 fl3_15 (kR8 hS55.1 ta0) d62 ?_
        refine tr_iload_n dX3_become_50 hl29 ?_
        refine tr_aload_n dX3_become_51 hl28 ?_
        obtain ⟨a63, d64, ta63⟩ := rf10_4 hW0 ta1
        refine tr_getR dX3_become_52 fl3_15 (kR10 hS55.1 ta1) d64 ?_
        refine tr_iload_n dX3_become_55 hl29 ?_
        refine q_iald dX3_become_56 (kR32 hS55.1 ta63) (ti_in (nR32 hS55.1 ta63) (by exact om_2cfcd5a5 g41) (by exact om_fcfbe61b b8.2 b8.1 g40 h46)) ?_
        intro v65 c66
        have b67 := iv32 hS55.1 ta63 c66
        refine q_iast dX3_become_57 (kR28 hS55.1 ta61) (ti_in (nR28 hS55.1 ta61) (by exact om_2cfcd5a5 g41) (by exact om_fcfbe61b b8.2 b8.1 g40 h46)) hS55 ta61 (by show (0 : Int) ≤ v65.toInt ∧ v65.toInt ≤ (240 : Int); exact om_d956ef70 b67) rfl (by rfl) ?_
        intro I68 hS69 e71 f70
        have c72 : I68 a0 0 = v32 := (f70 _ _ (fun q => by have z := ta0; rw [q.1, ta61] at z; exact absurd z (by decide))).trans c58
        have c73 : I68 a0 1 = v34 := (f70 _ _ (fun q => by have z := ta0; rw [q.1, ta61] at z; exact absurd z (by decide))).trans c59
        have c74 : I68 a0 2 = v36 := (f70 _ _ (fun q => by have z := ta0; rw [q.1, ta61] at z; exact absurd z (by decide))).trans c60
        refine q_iincE dX3_become_58 hl29 (by decide) (by decide) (by intro j1 j2; exact om_978e3cdf b8.2 b8.1 g40 g41 h46 j2) ?_
        intro v75 h76
        refine tr_goto 26 dX3_become_61 (by decide) ?_
        exact ih42 _ v75 I68 v32 v34 v36 hl27 hl28 rfl hS69 c72 c73 c74 (by exact om_acd7a85a g38) (by exact om_acd7a85a g39) (by exact om_acd7a85a g40) (by exact om_68881c41 g41 h76) (by exact om_d9b35a09 b8.2 b8.1 g40 g41 hm42 h46 h76)
  exact lp42 _ _ v24 I18 v1 v3 v6 rfl rfl rfl hS19 c22 c23 e20 (by exact om_4ee7209a) (by exact om_4ee7209a) (by exact om_4ee7209a) (by exact om_d99fa9e4 h25) (Nat.lt_succ_self _)
def wik_X6_takeBack : List Nat := [512, 513, 514, 704, 1791, 1855]
def wrk_X6_takeBack : List Nat := []
set_option maxHeartbeats 4000000 in
theorem fk_X6_takeBack {l : Launch} {T : Nat → Nat} {cn : Nat} {K N : Nat → Nat} {I0 : cz_I} {R0 : cz_R} {L0 : cz_L} {d : Int} (hW0 : Wf T cn K N I0 R0 d)  {a0 : Nat} (ta0 : T a0 = 11) {a1 : Nat} (ta1 : T a1 = 8) : ConE l mX6_takeBack [.ref a0, .ref a1] cn K N I0 R0 L0 (ca_i (fun v cn' K' N' I' R' L' => cn = cn' ∧ K = K' ∧ N = N' ∧ R0 = R' ∧ L0 = L' ∧ St T cn K N d wik_X6_takeBack wrk_X6_takeBack I0 R0 I' R0 ∧ (0 ≤ v.toInt ∧ v.toInt ≤ 1) ∧ ((((I0 a0 0).toInt = 0) ∧ (v.toInt = 0) ∧ (SmC T I0 R0 I' R0) ∧ True) ∨ (((I0 a0 0).toInt ≥ 1) ∧ (v.toInt = 1) ∧ ((I' a0 0).toInt = (I0 a0 0).toInt - 1) ∧ (∀ A, R0 a0 1 = some A → BkC I0 R0 I' A a1 ((I0 a0 0).toInt - 1).toNat) ∧ True)) ∧ True)) := by
  refine ConE.of (by decide +kernel) rfl (Nat.le_of_ble_eq_true rfl) rfl (fun X hX hZ hE => ?_)
  subst hX
  have hS0 : St T cn K N d wik_X6_takeBack wrk_X6_takeBack I0 R0 I0 R0 := St.rf0 hW0
  obtain ⟨v1, c2⟩ : ∃ v, I0 a0 0 = v := ⟨_, rfl⟩
  have b3 := iv11_0 hS0.1 ta0 c2
  obtain ⟨a4, d5, ta4⟩ := rf11_1 hW0 ta0
  obtain ⟨a6, d7, ta6⟩ := rf11_3 hW0 ta0
  obtain ⟨v8, c9⟩ : ∃ v, I0 a0 2 = v := ⟨_, rfl⟩
  have b10 := iv11_2 hW0 ta0 c9
  obtain ⟨v11, c12⟩ : ∃ v, I0 a1 0 = v := ⟨_, rfl⟩
  obtain ⟨v13, c14⟩ : ∃ v, I0 a1 1 = v := ⟨_, rfl⟩
  have b15 := iv8_1 hS0.1 ta1 c14
  obtain ⟨v16, c17⟩ : ∃ v, I0 a1 2 = v := ⟨_, rfl⟩
  have b18 := iv8_2 hS0.1 ta1 c17
  refine tr_aload_n dX6_takeBack_0 rfl ?_
  refine q_getI dX6_takeBack_1 fl6_21 (kR11 hS0.1 ta0) c2 ?_
  refine q_if_ne 9 dX6_takeBack_4 (by decide) (fun h19 => ?_) (fun h19 => ?_)
  · skip
    refine tr_aload_n dX6_takeBack_9 rfl ?_
    refine tr_dup dX6_takeBack_10 rfl ?_
    refine q_getI dX6_takeBack_11 fl6_21 (kR11 hS0.1 ta0) c2 ?_
    refine q_iconst dX6_takeBack_14 (by decide) ?_
    intro v20 h21
    refine q_isubE dX6_takeBack_15 (by intro j1 j2 j3 j4; exact om_7c03527b b3.2 b3.1 h21) ?_
    intro v22 h23
    refine q_putI dX6_takeBack_16 fl6_21 (kR11 hS0.1 ta0) (Or.inl rfl) hS0 ta0 (by show (0 : Int) ≤ v22.toInt ∧ v22.toInt ≤ (12 : Int); exact om_72140644 b3.2 b3.1 h19 h21 h23) rfl (by decide +kernel) ?_
    intro I24 hS25 e26 f27
    have c28 : I24 a1 0 = v11 := (f27 _ _ (fun q => by have z := ta1; rw [q.1, ta0] at z; exact absurd z (by decide))).trans c12
    have c29 : I24 a1 1 = v13 := (f27 _ _ (fun q => absurd q.2 (by decide))).trans c14
    have c30 : I24 a1 2 = v16 := (f27 _ _ (fun q => absurd q.2 (by decide))).trans c17
    refine tr_aload_n dX6_takeBack_19 rfl ?_
    refine tr_aload_n dX6_takeBack_20 rfl ?_
    refine tr_getR dX6_takeBack_21 fl6_11 (kR11 hS25.1 ta0) d5 ?_
    refine tr_aload_n dX6_takeBack_24 rfl ?_
    refine q_getI dX6_takeBack_25 fl6_21 (kR11 hS25.1 ta0) e26 ?_
    obtain ⟨a31, d32, ta31⟩ := rf33 hS25.1 ta4 (j := v22.toNatClampNeg) (ti_lt (by exact om_66bfef5d b3.2 b3.1 h19 h21 h23) (by exact om_83e42569 b3.2 b3.1 h21 h23))
    refine tr_aald dX6_takeBack_28 (kR33 hS25.1 ta4) (by decide) (by decide) (ti_in (nR33 hS25.1 ta4) (by exact om_66bfef5d b3.2 b3.1 h19 h21 h23) (by exact om_83e42569 b3.2 b3.1 h21 h23)) d32 ?_
    obtain ⟨v33, c34⟩ : ∃ v, I0 a31 0 = v := ⟨_, rfl⟩
    obtain ⟨v35, c36⟩ : ∃ v, I0 a31 1 = v := ⟨_, rfl⟩
    have b37 := iv10_1 hW0 ta31 c36
    obtain ⟨v38, c39⟩ : ∃ v, I0 a31 2 = v := ⟨_, rfl⟩
    have b40 := iv10_2 hW0 ta31 c39
    refine q_callVv hE (M' := mX3_become) (as := [_]) dX6_takeBack_29 lk6_31 inX3_become seX3_become myX3_become (by decide) ⟨by decide, by decide⟩ rfl (kR8 hS25.1 ta1) (Nat.le_of_ble_eq_true rfl) rfl rfl (by decide) (by decide) (fk_X3_become_1 hS25.1  ta1 ta31) ?_
    rintro cn' K' N' I41 R42 L43 ⟨rfl, rfl, rfl, rfl, rfl, g44, p47, p48, p49, -⟩
    have hS50 := hS25.tr g44 (by decide +kernel) (by decide +kernel)
    have c51 : I41 a0 0 = v22 := (g44.cell ta0 (by decide +kernel)).trans e26
    obtain ⟨v52, c53⟩ : ∃ v, I41 a1 0 = v := ⟨_, rfl⟩
    rw [c53] at p47
    rw [((hS25.cell ta31 (by decide +kernel)).trans c34)] at p47
    obtain ⟨v54, c55⟩ : ∃ v, I41 a1 1 = v := ⟨_, rfl⟩
    have b56 := iv8_1 hS50.1 ta1 c55
    rw [c55] at p48
    rw [((hS25.cell ta31 (by decide +kernel)).trans c36)] at p48
    obtain ⟨v57, c58⟩ : ∃ v, I41 a1 2 = v := ⟨_, rfl⟩
    have b59 := iv8_2 hS50.1 ta1 c58
    rw [c58] at p49
    rw [((hS25.cell ta31 (by decide +kernel)).trans c39)] at p49
    refine q_iconst dX6_takeBack_32 (by decide) ?_
    intro v60 h61
    exact tr_zret hZ dX6_takeBack_33 rfl (ti_b01 (by exact om_f9079521 h61) (by exact om_e6632817 h61)) (by decide) (by decide) ⟨v60, rfl, rfl, rfl, rfl, rfl, rfl, hS50, (by exact om_d753bc65 h61), (Or.inr (⟨(by (try rw [c2]); first | done | with_reducible assumption | exact om_edfa4314 b3.2 b3.1 h19 h21 h23), (by first | done | with_reducible assumption | omega), (by (try rw [c51]); (try rw [c2]); first | done | with_reducible assumption | exact om_d85062b9 h21 h23), (fun A hA h hh => by obtain rfl := Option.some.inj (d5.symm.trans hA); have z := d32; rw [show v22.toNatClampNeg = ((I0 a0 0).toInt - 1).toNat by (rw [c2]; show Int.toNat _ = _; congr 1; exact om_d85062b9 h21 h23)] at z; obtain rfl := Option.some.inj (z.symm.trans hh); exact ⟨by rw [c53, c34]; exact om_acd7a85a p47, by rw [c55, c36]; exact om_acd7a85a p48, by rw [c58, c39]; exact om_acd7a85a p49⟩), trivial⟩)), trivial⟩
  · skip
    refine q_iconst dX6_takeBack_7 (by decide) ?_
    intro v62 h63
    exact tr_zret hZ dX6_takeBack_8 rfl (ti_b01 (by exact om_d99fa9e4 h63) (by exact om_d3de7ec9 h63)) (by decide) (by decide) ⟨v62, rfl, rfl, rfl, rfl, rfl, rfl, hS0, (by exact om_3b50ecb9 h63), (Or.inl ⟨(by (try rw [c2]); first | done | with_reducible assumption | omega), (by first | done | with_reducible assumption | omega), ⟨rfl, fun a j h => by rcases h with h | h | h; exact rfl; exact rfl; exact rfl⟩, trivial⟩), trivial⟩
def wik_X10_undo : List Nat := [73, 75, 81, 512, 513, 514, 704, 1791, 1855]
def wrk_X10_undo : List Nat := []
def Cs_X10_undo (T : Nat → Nat) (I0 : cz_I) (R0 : cz_R) (a0 : Nat) (v : Int32) (I' : cz_I) (R' : cz_R) : Prop :=
  ((∀ b1, R0 a0 7 = some b1 → (I0 b1 0).toInt = 0) ∧ (v.toInt = 0) ∧ (SmC T I0 R0 I' R0) ∧ True) ∨
  ((∀ b1, R0 a0 7 = some b1 → (I0 b1 0).toInt ≥ 1) ∧ (v.toInt = 1) ∧ (∀ b1, R0 a0 7 = some b1 → (I' b1 0).toInt = (I0 b1 0).toInt - 1) ∧ (∀ nw pa A, R0 a0 6 = some nw → R0 a0 7 = some pa → R0 pa 1 = some A → BkC I0 R0 I' A nw ((I0 pa 0).toInt - 1).toNat) ∧ True)
set_option maxHeartbeats 4000000 in
theorem fk_X10_undo {l : Launch} {T : Nat → Nat} {cn : Nat} {K N : Nat → Nat} {I0 : cz_I} {R0 : cz_R} {L0 : cz_L} {d : Int} (hW0 : Wf T cn K N I0 R0 d)  {a0 : Nat} (ta0 : T a0 = 1) : ConE l mX10_undo [.ref a0] cn K N I0 R0 L0 (ca_i (fun v cn' K' N' I' R' L' => cn = cn' ∧ K = K' ∧ N = N' ∧ R0 = R' ∧ L0 = L' ∧ St T cn K N d wik_X10_undo wrk_X10_undo I0 R0 I' R0 ∧ (0 ≤ v.toInt ∧ v.toInt ≤ 1) ∧ Cs_X10_undo T I0 R0 a0 v I' R0 ∧ True)) := by
  refine ConE.of (by decide +kernel) rfl (Nat.le_of_ble_eq_true rfl) rfl (fun X hX hZ hE => ?_)
  subst hX
  have hS0 : St T cn K N d wik_X10_undo wrk_X10_undo I0 R0 I0 R0 := St.rf0 hW0
  obtain ⟨a1, d2, ta1⟩ := rf1_7 hW0 ta0
  obtain ⟨v3, c4⟩ : ∃ v, I0 a1 0 = v := ⟨_, rfl⟩
  have b5 := iv11_0 hS0.1 ta1 c4
  obtain ⟨a6, d7, ta6⟩ := rf1_6 hW0 ta0
  obtain ⟨a8, d9, ta8⟩ := rf11_1 hW0 ta1
  obtain ⟨a10, d11, ta10⟩ := rf11_3 hW0 ta1
  obtain ⟨v12, c13⟩ : ∃ v, I0 a1 2 = v := ⟨_, rfl⟩
  have b14 := iv11_2 hW0 ta1 c13
  obtain ⟨v15, c16⟩ : ∃ v, I0 a6 0 = v := ⟨_, rfl⟩
  obtain ⟨v17, c18⟩ : ∃ v, I0 a6 1 = v := ⟨_, rfl⟩
  have b19 := iv8_1 hS0.1 ta6 c18
  obtain ⟨v20, c21⟩ : ∃ v, I0 a6 2 = v := ⟨_, rfl⟩
  have b22 := iv8_2 hS0.1 ta6 c21
  refine tr_aload_n dX10_undo_0 rfl ?_
  refine tr_getR dX10_undo_1 fl10_42 (kR1 hS0.1 ta0) d2 ?_
  refine tr_aload_n dX10_undo_4 rfl ?_
  refine tr_getR dX10_undo_5 fl10_35 (kR1 hS0.1 ta0) d7 ?_
  refine q_callVi hE (M' := mX6_takeBack) (as := [_]) dX10_undo_8 lk10_299 inX6_takeBack seX6_takeBack myX6_takeBack (by decide) ⟨by decide, by decide⟩ rfl (kR11 hS0.1 ta1) (Nat.le_of_ble_eq_true rfl) rfl rfl (by decide) (by decide) (fk_X6_takeBack hS0.1  ta1 ta6) ?_
  rintro v28 cn' K' N' I23 R24 L25 ⟨rfl, rfl, rfl, rfl, rfl, g26, h29, dj30, -⟩
  have hS31 := hS0.tr g26 (by decide +kernel) (by decide +kernel)
  rcases dj30 with ⟨p32, p33, rp34, -⟩ | ⟨p35, p36, p37, rp38, -⟩
  · skip
    rw [c4] at p32
    refine q_if_ne 21 dX10_undo_11 (by decide) (fun h39 => ?_) (fun h39 => ?_)
    · skip
      exfalso; exact om_3a97d4a5 p33 h39
    · skip
      refine tr_aload_n dX10_undo_14 rfl ?_
      refine q_bipush dX10_undo_15 (by decide +kernel) ?_
      intro v40 h41
      refine q_callVi hE (M' := mX10_refusedAct) (as := [_]) dX10_undo_17 lk10_281 inX10_refusedAct seX10_refusedAct myX10_refusedAct (by decide) ⟨by decide, by decide⟩ rfl (kR1 hS31.1 ta0) (Nat.le_of_ble_eq_true rfl) rfl rfl (by decide) (by decide) (fk_X10_refusedAct hS31.1  ta0) ?_
      rintro v47 cn' K' N' I42 R43 L44 ⟨rfl, rfl, rfl, rfl, rfl, g45, h48, p49, p50, -⟩
      have hS51 := hS31.tr g45 (by decide +kernel) (by decide +kernel)
      obtain ⟨v52, c53⟩ : ∃ v, I42 a0 17 = v := ⟨_, rfl⟩
      rw [c53] at p50
      obtain ⟨v54, c55⟩ : ∃ v, I42 a1 0 = v := ⟨_, rfl⟩
      have b56 := iv11_0 hS51.1 ta1 c55
      exact tr_zret hZ dX10_undo_20 rfl (ti_b01 (by exact om_d99fa9e4 p49) (by exact om_d3de7ec9 p49)) (by decide) (by decide) ⟨v47, rfl, rfl, rfl, rfl, rfl, rfl, hS51, (by exact om_be53a44c h48), (Or.inl ⟨(fun q0 z0 => by obtain rfl := Option.some.inj ((d2).symm.trans z0); (try rw [c4]); first | done | with_reducible assumption | omega), (by first | done | with_reducible assumption | omega), (SmC.kp rp34 (fun a j h => by rcases h with h | h | h; exact (g45.cell h (wm_no (by decide +kernel))); exact (g45.cell h (wm_no (by decide +kernel))); exact (g45.cell h (wm_no (by decide +kernel))))), trivial⟩), trivial⟩
  · skip
    rw [c4] at p35
    obtain ⟨v57, c58⟩ : ∃ v, I23 a1 0 = v := ⟨_, rfl⟩
    have b59 := iv11_0 hS31.1 ta1 c58
    rw [c58] at p37
    rw [c4] at p37
    refine q_if_ne 21 dX10_undo_11 (by decide) (fun h60 => ?_) (fun h60 => ?_)
    · skip
      refine tr_aload_n dX10_undo_21 rfl ?_
      refine q_callVv hE (M' := mX10_cloudsMoved) (as := []) dX10_undo_22 lk10_103 inX10_cloudsMoved seX10_cloudsMoved myX10_cloudsMoved (by decide) ⟨by decide, by decide⟩ rfl (kR1 hS31.1 ta0) (Nat.le_of_ble_eq_true rfl) rfl rfl (by decide) (by decide) (k_X10_cloudsMoved hS31.1 ta0) ?_
      rintro cn' K' N' I61 R62 L63 ⟨rfl, rfl, rfl, rfl, rfl, g64, -⟩
      have hS66 := hS31.tr g64 (by decide +kernel) (by decide +kernel)
      have c67 : I61 a1 0 = v57 := (g64.cell ta1 (by decide +kernel)).trans c58
      refine tr_aload_n dX10_undo_25 rfl ?_
      refine q_callVi hE (M' := mX10_allowed) (as := []) dX10_undo_26 lk10_291 inX10_allowed seX10_allowed myX10_allowed (by decide) ⟨by decide, by decide⟩ rfl (kR1 hS66.1 ta0) (Nat.le_of_ble_eq_true rfl) rfl rfl (by decide) (by decide) (fk_X10_allowed hS66.1  ta0) ?_
      rintro v73 cn' K' N' I68 R69 L70 ⟨rfl, rfl, rfl, rfl, rfl, g71, h74, p75, p76, -⟩
      have hS77 := hS66.tr g71 (by decide +kernel) (by decide +kernel)
      have c78 : I68 a1 0 = v57 := (g71.cell ta1 (by decide +kernel)).trans c67
      obtain ⟨v79, c80⟩ : ∃ v, I68 a0 17 = v := ⟨_, rfl⟩
      rw [c80] at p76
      exact tr_zret hZ dX10_undo_29 rfl (ti_b01 (by exact om_f9079521 p75) (by exact om_e6632817 p75)) (by decide) (by decide) ⟨v73, rfl, rfl, rfl, rfl, rfl, rfl, hS77, (by exact om_be53a44c h74), (Or.inr (⟨(fun q0 z0 => by obtain rfl := Option.some.inj ((d2).symm.trans z0); (try rw [c4]); first | done | with_reducible assumption | omega), (by first | done | with_reducible assumption | omega), (fun q0 z0 => by obtain rfl := Option.some.inj ((d2).symm.trans z0); (try rw [c78]); (try rw [c4]); first | done | with_reducible assumption | omega), (fun nw pa A h1 h2 h3 => by obtain rfl := Option.some.inj (d7.symm.trans h1); obtain rfl := Option.some.inj (d2.symm.trans h2); obtain rfl := Option.some.inj (d9.symm.trans h3); exact BkC.kp (rp38 _ d9) (fun j => ((g71.cell ta6 (wm_no (by decide +kernel))).trans (g64.cell ta6 (wm_no (by decide +kernel)))))), trivial⟩)), trivial⟩
    · skip
      exfalso; exact om_3624102b p36 h60
def wik_X6_keepMark : List Nat := [640, 641, 642, 706, 2047, 2111]
def wrk_X6_keepMark : List Nat := []
set_option maxHeartbeats 4000000 in
theorem fk_X6_keepMark {l : Launch} {T : Nat → Nat} {cn : Nat} {K N : Nat → Nat} {I0 : cz_I} {R0 : cz_R} {L0 : cz_L} {d : Int} (hW0 : Wf T cn K N I0 R0 d)  {a0 : Nat} (ta0 : T a0 = 11) {a1 : Nat} (ta1 : T a1 = 8) : ConE l mX6_keepMark [.ref a0, .ref a1] cn K N I0 R0 L0 (ca_i (fun v cn' K' N' I' R' L' => cn = cn' ∧ K = K' ∧ N = N' ∧ R0 = R' ∧ L0 = L' ∧ St T cn K N d wik_X6_keepMark wrk_X6_keepMark I0 R0 I' R0 ∧ ((((I0 a0 2).toInt = 3) ∧ (v.toInt = -1) ∧ (SmC T I0 R0 I' R0) ∧ True) ∨ (((I0 a0 2).toInt ≤ 2) ∧ (v.toInt = (I0 a0 2).toInt) ∧ ((I' a0 2).toInt = (I0 a0 2).toInt + 1) ∧ (∀ A, R0 a0 3 = some A → MkC T I0 R0 I' A a1 (I0 a0 2).toInt.toNat) ∧ True)) ∧ True)) := by
  refine ConE.of (by decide +kernel) rfl (Nat.le_of_ble_eq_true rfl) rfl (fun X hX hZ hE => ?_)
  subst hX
  have hS0 : St T cn K N d wik_X6_keepMark wrk_X6_keepMark I0 R0 I0 R0 := St.rf0 hW0
  obtain ⟨v1, c2⟩ : ∃ v, I0 a0 2 = v := ⟨_, rfl⟩
  have b3 := iv11_2 hS0.1 ta0 c2
  obtain ⟨a4, d5, ta4⟩ := rf11_1 hW0 ta0
  obtain ⟨a6, d7, ta6⟩ := rf11_3 hW0 ta0
  obtain ⟨v8, c9⟩ : ∃ v, I0 a0 0 = v := ⟨_, rfl⟩
  have b10 := iv11_0 hW0 ta0 c9
  obtain ⟨v11, c12⟩ : ∃ v, I0 a1 0 = v := ⟨_, rfl⟩
  obtain ⟨v13, c14⟩ : ∃ v, I0 a1 1 = v := ⟨_, rfl⟩
  have b15 := iv8_1 hW0 ta1 c14
  obtain ⟨v16, c17⟩ : ∃ v, I0 a1 2 = v := ⟨_, rfl⟩
  have b18 := iv8_2 hW0 ta1 c17
  refine tr_aload_n dX6_keepMark_0 rfl ?_
  refine q_getI dX6_keepMark_1 fl6_25 (kR11 hS0.1 ta0) c2 ?_
  refine q_iconst dX6_keepMark_4 (by decide) ?_
  intro v19 h20
  refine q_icmp_ne 10 dX6_keepMark_5 (by decide) (fun h21 => ?_) (fun h21 => ?_)
  · skip
    refine tr_aload_n dX6_keepMark_10 rfl ?_
    refine tr_getR dX6_keepMark_11 fl6_17 (kR11 hS0.1 ta0) d7 ?_
    refine tr_aload_n dX6_keepMark_14 rfl ?_
    refine q_getI dX6_keepMark_15 fl6_25 (kR11 hS0.1 ta0) c2 ?_
    obtain ⟨a22, d23, ta22⟩ := rf34 hS0.1 ta6 (j := v1.toNatClampNeg) (ti_lt (by exact om_7ab14413 b3.2 b3.1) (by exact om_4969980a b3.2 b3.1 h20 h21))
    refine tr_aald dX6_keepMark_18 (kR34 hS0.1 ta6) (by decide) (by decide) (ti_in (nR34 hS0.1 ta6) (by exact om_7ab14413 b3.2 b3.1) (by exact om_4969980a b3.2 b3.1 h20 h21)) d23 ?_
    refine tr_aload_n dX6_keepMark_19 rfl ?_
    refine q_callVv hE (M' := mX3_become) (as := [_]) dX6_keepMark_20 lk6_31 inX3_become seX3_become myX3_become (by decide) ⟨by decide, by decide⟩ rfl (kR10 hS0.1 ta22) (Nat.le_of_ble_eq_true rfl) rfl rfl (by decide) (by decide) (fk_X3_become hS0.1  ta22 ta1) ?_
    rintro cn' K' N' I24 R25 L26 ⟨rfl, rfl, rfl, rfl, rfl, g27, p30, p31, p32, rp33, -⟩
    have hS34 := hS0.tr g27 (by decide +kernel) (by decide +kernel)
    have c35 : I24 a0 2 = v1 := (g27.cell ta0 (by decide +kernel)).trans c2
    obtain ⟨v36, c37⟩ : ∃ v, I24 a22 0 = v := ⟨_, rfl⟩
    rw [c37] at p30
    rw [c12] at p30
    obtain ⟨v38, c39⟩ : ∃ v, I24 a22 1 = v := ⟨_, rfl⟩
    have b40 := iv10_1 hS34.1 ta22 c39
    rw [c39] at p31
    rw [c14] at p31
    obtain ⟨v41, c42⟩ : ∃ v, I24 a22 2 = v := ⟨_, rfl⟩
    have b43 := iv10_2 hS34.1 ta22 c42
    rw [c42] at p32
    rw [c17] at p32
    refine tr_aload_n dX6_keepMark_23 rfl ?_
    refine tr_dup dX6_keepMark_24 rfl ?_
    refine q_getI dX6_keepMark_25 fl6_25 (kR11 hS34.1 ta0) c35 ?_
    refine q_iconst dX6_keepMark_28 (by decide) ?_
    intro v44 h45
    refine q_iaddE dX6_keepMark_29 (by intro j1 j2 j3 j4; exact om_86353b21 b3.2 b3.1 h45) ?_
    intro v46 h47
    refine q_putI dX6_keepMark_30 fl6_25 (kR11 hS34.1 ta0) (Or.inl rfl) hS34 ta0 (by show (0 : Int) ≤ v46.toInt ∧ v46.toInt ≤ (3 : Int); exact om_600cb043 b3.2 b3.1 h20 h21 h45 h47) rfl (by decide +kernel) ?_
    intro I48 hS49 e50 f51
    have c52 : I48 a22 0 = v36 := (f51 _ _ (fun q => absurd q.2 (by decide))).trans c37
    have c53 : I48 a22 1 = v38 := (f51 _ _ (fun q => absurd q.2 (by decide))).trans c39
    have c54 : I48 a22 2 = v41 := (f51 _ _ (fun q => by have z := ta22; rw [q.1, ta0] at z; exact absurd z (by decide))).trans c42
    refine tr_aload_n dX6_keepMark_33 rfl ?_
    refine q_getI dX6_keepMark_34 fl6_25 (kR11 hS49.1 ta0) e50 ?_
    refine q_iconst dX6_keepMark_37 (by decide) ?_
    intro v55 h56
    refine q_isubE dX6_keepMark_38 (by intro j1 j2 j3 j4; exact om_13b0d7ee b3.2 b3.1 h45 h47 h56) ?_
    intro v57 h58
    exact tr_iret hZ dX6_keepMark_39 rfl (by decide) (by decide) ⟨v57, rfl, rfl, rfl, rfl, rfl, rfl, hS49, (Or.inr (⟨(by (try rw [c2]); first | done | with_reducible assumption | exact om_581ed98b b3.2 b3.1 h20 h21 h45 h47 h56 h58), (by (try rw [c2]); first | done | with_reducible assumption | exact om_bac1b91d h45 h47 h56 h58), (by (try rw [e50]); (try rw [c2]); first | done | with_reducible assumption | exact om_73462c49 h45 h47), (fun A hA h hh => by obtain rfl := Option.some.inj (d7.symm.trans hA); have z := d23; rw [show v1.toNatClampNeg = (I0 a0 2).toInt.toNat by rw [c2]; rfl] at z; obtain rfl := Option.some.inj (z.symm.trans hh); exact ⟨ta22, (((FrO.rf (r := 10) (dr := a22) (T := T)).tr rp33).put f51 ta0 (Or.inl (by decide))), by rw [c52, c12]; exact om_acd7a85a p30, by rw [c53, c14]; exact om_acd7a85a p31, by rw [c54, c17]; exact om_acd7a85a p32⟩), trivial⟩)), trivial⟩
  · skip
    refine q_iconst dX6_keepMark_8 (by decide) ?_
    intro v59 h60
    exact tr_iret hZ dX6_keepMark_9 rfl (by decide) (by decide) ⟨v59, rfl, rfl, rfl, rfl, rfl, rfl, hS0, (Or.inl ⟨(by (try rw [c2]); first | done | with_reducible assumption | exact om_e7da7805 h20 h21), (by first | done | with_reducible assumption | omega), ⟨rfl, fun a j h => by rcases h with h | h | h; exact rfl; exact rfl; exact rfl⟩, trivial⟩), trivial⟩
def wik_X10_mark : List Nat := [81, 640, 641, 642, 706, 2047, 2111]
def wrk_X10_mark : List Nat := []
def Cs_X10_mark (T : Nat → Nat) (I0 : cz_I) (R0 : cz_R) (a0 : Nat) (v : Int32) (I' : cz_I) (R' : cz_R) : Prop :=
  (((I0 a0 5).toInt = 0) ∧ (v.toInt = -1) ∧ (SmC T I0 R0 I' R0) ∧ True) ∨
  (((I0 a0 5).toInt = 1) ∧ (∀ b1, R0 a0 7 = some b1 → (I0 b1 2).toInt = 3) ∧ (v.toInt = -1) ∧ (SmC T I0 R0 I' R0) ∧ True) ∨
  (((I0 a0 5).toInt = 1) ∧ (∀ b1, R0 a0 7 = some b1 → (I0 b1 2).toInt ≤ 2) ∧ (∀ b1, R0 a0 7 = some b1 → v.toInt = (I0 b1 2).toInt) ∧ (∀ b1, R0 a0 7 = some b1 → (I' b1 2).toInt = (I0 b1 2).toInt + 1) ∧ (∀ nw pa A, R0 a0 6 = some nw → R0 a0 7 = some pa → R0 pa 3 = some A → MkC T I0 R0 I' A nw (I0 pa 2).toInt.toNat) ∧ True)
set_option maxHeartbeats 4000000 in
theorem fk_X10_mark {l : Launch} {T : Nat → Nat} {cn : Nat} {K N : Nat → Nat} {I0 : cz_I} {R0 : cz_R} {L0 : cz_L} {d : Int} (hW0 : Wf T cn K N I0 R0 d)  {a0 : Nat} (ta0 : T a0 = 1) : ConE l mX10_mark [.ref a0] cn K N I0 R0 L0 (ca_i (fun v cn' K' N' I' R' L' => cn = cn' ∧ K = K' ∧ N = N' ∧ R0 = R' ∧ L0 = L' ∧ St T cn K N d wik_X10_mark wrk_X10_mark I0 R0 I' R0 ∧ Cs_X10_mark T I0 R0 a0 v I' R0 ∧ True)) := by
  refine ConE.of (by decide +kernel) rfl (Nat.le_of_ble_eq_true rfl) rfl (fun X hX hZ hE => ?_)
  subst hX
  have hS0 : St T cn K N d wik_X10_mark wrk_X10_mark I0 R0 I0 R0 := St.rf0 hW0
  obtain ⟨v1, c2⟩ : ∃ v, I0 a0 5 = v := ⟨_, rfl⟩
  have b3 := iv1_5 hW0 ta0 c2
  obtain ⟨a4, d5, ta4⟩ := rf1_7 hW0 ta0
  obtain ⟨v6, c7⟩ : ∃ v, I0 a4 2 = v := ⟨_, rfl⟩
  have b8 := iv11_2 hS0.1 ta4 c7
  obtain ⟨a9, d10, ta9⟩ := rf1_6 hW0 ta0
  obtain ⟨a11, d12, ta11⟩ := rf11_1 hW0 ta4
  obtain ⟨a13, d14, ta13⟩ := rf11_3 hW0 ta4
  obtain ⟨v15, c16⟩ : ∃ v, I0 a4 0 = v := ⟨_, rfl⟩
  have b17 := iv11_0 hW0 ta4 c16
  obtain ⟨v18, c19⟩ : ∃ v, I0 a9 0 = v := ⟨_, rfl⟩
  obtain ⟨v20, c21⟩ : ∃ v, I0 a9 1 = v := ⟨_, rfl⟩
  have b22 := iv8_1 hW0 ta9 c21
  obtain ⟨v23, c24⟩ : ∃ v, I0 a9 2 = v := ⟨_, rfl⟩
  have b25 := iv8_2 hW0 ta9 c24
  refine tr_aload_n dX10_mark_0 rfl ?_
  refine q_getZ dX10_mark_1 fl10_95 (kR1 hS0.1 ta0) c2 ?_
  refine q_if_ne 13 dX10_mark_4 (by decide) (fun h26 => ?_) (fun h26 => ?_)
  · skip
    refine tr_aload_n dX10_mark_13 rfl ?_
    refine tr_getR dX10_mark_14 fl10_42 (kR1 hS0.1 ta0) d5 ?_
    refine tr_aload_n dX10_mark_17 rfl ?_
    refine tr_getR dX10_mark_18 fl10_35 (kR1 hS0.1 ta0) d10 ?_
    refine q_callVi hE (M' := mX6_keepMark) (as := [_]) dX10_mark_21 lk10_303 inX6_keepMark seX6_keepMark myX6_keepMark (by decide) ⟨by decide, by decide⟩ rfl (kR11 hS0.1 ta4) (Nat.le_of_ble_eq_true rfl) rfl rfl (by decide) (by decide) (fk_X6_keepMark hS0.1  ta4 ta9) ?_
    rintro v32 cn' K' N' I27 R28 L29 ⟨rfl, rfl, rfl, rfl, rfl, g30, dj33, -⟩
    have hS34 := hS0.tr g30 (by decide +kernel) (by decide +kernel)
    rcases dj33 with ⟨p35, p36, rp37, -⟩ | ⟨p38, p39, p40, rp41, -⟩
    · skip
      rw [c7] at p35
      refine tr_istore_n dX10_mark_24 (by decide) (by decide) ?_
      refine tr_iload_n dX10_mark_25 rfl ?_
      refine q_iconst dX10_mark_26 (by decide) ?_
      intro v42 h43
      refine q_icmp_ne 38 dX10_mark_27 (by decide) (fun h44 => ?_) (fun h44 => ?_)
      · skip
        exfalso; exact om_51c27872 p36 h43 h44
      · skip
        refine tr_aload_n dX10_mark_30 rfl ?_
        refine q_iconst dX10_mark_31 (by decide) ?_
        intro v45 h46
        refine q_callVi hE (M' := mX10_refused) (as := [_]) dX10_mark_32 lk10_79 inX10_refused seX10_refused myX10_refused (by decide) ⟨by decide, by decide⟩ rfl (kR1 hS34.1 ta0) (Nat.le_of_ble_eq_true rfl) rfl rfl (by decide) (by decide) (fk_X10_refused hS34.1  ta0) ?_
        rintro v52 cn' K' N' I47 R48 L49 ⟨rfl, rfl, rfl, rfl, rfl, g50, p53, p54, -⟩
        have hS55 := hS34.tr g50 (by decide +kernel) (by decide +kernel)
        obtain ⟨v56, c57⟩ : ∃ v, I47 a0 17 = v := ⟨_, rfl⟩
        rw [c57] at p54
        refine tr_goto 43 dX10_mark_35 (by decide) ?_
        obtain ⟨v58, c59⟩ : ∃ v, I47 a4 2 = v := ⟨_, rfl⟩
        have b60 := iv11_2 hS55.1 ta4 c59
        exact tr_iret hZ dX10_mark_43 rfl (by decide) (by decide) ⟨v52, rfl, rfl, rfl, rfl, rfl, rfl, hS55, (Or.inr (Or.inl ⟨(by (try rw [c2]); first | done | with_reducible assumption | exact om_eea3e830 b3.2 b3.1 h26), (fun q0 z0 => by obtain rfl := Option.some.inj ((d5).symm.trans z0); (try rw [c7]); first | done | with_reducible assumption | omega), (by first | done | with_reducible assumption | omega), (SmC.kp rp37 (fun a j h => by rcases h with h | h | h; exact (g50.cell h (wm_no (by decide +kernel))); exact (g50.cell h (wm_no (by decide +kernel))); exact (g50.cell h (wm_no (by decide +kernel))))), trivial⟩)), trivial⟩
    · skip
      rw [c7] at p38
      rw [c7] at p39
      obtain ⟨v61, c62⟩ : ∃ v, I27 a4 2 = v := ⟨_, rfl⟩
      have b63 := iv11_2 hS34.1 ta4 c62
      rw [c62] at p40
      rw [c7] at p40
      refine tr_istore_n dX10_mark_24 (by decide) (by decide) ?_
      refine tr_iload_n dX10_mark_25 rfl ?_
      refine q_iconst dX10_mark_26 (by decide) ?_
      intro v64 h65
      refine q_icmp_ne 38 dX10_mark_27 (by decide) (fun h66 => ?_) (fun h66 => ?_)
      · skip
        refine tr_aload_n dX10_mark_38 rfl ?_
        refine tr_iload_n dX10_mark_39 rfl ?_
        refine q_callVi hE (M' := mX10_answered) (as := [_]) dX10_mark_40 lk10_109 inX10_answered seX10_answered myX10_answered (by decide) ⟨by decide, by decide⟩ rfl (kR1 hS34.1 ta0) (Nat.le_of_ble_eq_true rfl) rfl rfl (by decide) (by decide) (fk_X10_answered hS34.1  ta0) ?_
        rintro v72 cn' K' N' I67 R68 L69 ⟨rfl, rfl, rfl, rfl, rfl, g70, p73, p74, -⟩
        have hS75 := hS34.tr g70 (by decide +kernel) (by decide +kernel)
        have c76 : I67 a4 2 = v61 := (g70.cell ta4 (by decide +kernel)).trans c62
        obtain ⟨v77, c78⟩ : ∃ v, I67 a0 17 = v := ⟨_, rfl⟩
        rw [c78] at p74
        exact tr_iret hZ dX10_mark_43 rfl (by decide) (by decide) ⟨v72, rfl, rfl, rfl, rfl, rfl, rfl, hS75, (Or.inr (Or.inr (⟨(by (try rw [c2]); first | done | with_reducible assumption | exact om_649628b9 b3.2 b3.1 b8.2 b8.1 h26 p38 p39 p40 h65 h66 p73), (fun q0 z0 => by obtain rfl := Option.some.inj ((d5).symm.trans z0); (try rw [c7]); first | done | with_reducible assumption | omega), (fun q0 z0 => by obtain rfl := Option.some.inj ((d5).symm.trans z0); (try rw [c7]); first | done | with_reducible assumption | exact om_9aba9cfc p39 p40 p73), (fun q0 z0 => by obtain rfl := Option.some.inj ((d5).symm.trans z0); (try rw [c76]); (try rw [c7]); first | done | with_reducible assumption | omega), (fun nw pa A h1 h2 h3 => by obtain rfl := Option.some.inj (d10.symm.trans h1); obtain rfl := Option.some.inj (d5.symm.trans h2); obtain rfl := Option.some.inj (d14.symm.trans h3); exact MkC.kp (rp41 _ d14) (fun a j h => (g70.cell h (wm_no (by decide +kernel))))), trivial⟩))), trivial⟩
      · skip
        exfalso; exact om_ed24b58c b8.2 b8.1 p38 p39 p40 h65 h66
  · skip
    refine tr_aload_n dX10_mark_7 rfl ?_
    refine q_iconst dX10_mark_8 (by decide) ?_
    intro v79 h80
    refine q_callVi hE (M' := mX10_refused) (as := [_]) dX10_mark_9 lk10_79 inX10_refused seX10_refused myX10_refused (by decide) ⟨by decide, by decide⟩ rfl (kR1 hS0.1 ta0) (Nat.le_of_ble_eq_true rfl) rfl rfl (by decide) (by decide) (fk_X10_refused hS0.1  ta0) ?_
    rintro v86 cn' K' N' I81 R82 L83 ⟨rfl, rfl, rfl, rfl, rfl, g84, p87, p88, -⟩
    have hS89 := hS0.tr g84 (by decide +kernel) (by decide +kernel)
    have c90 : I81 a4 2 = v6 := (g84.cell ta4 (by decide +kernel)).trans c7
    obtain ⟨v91, c92⟩ : ∃ v, I81 a0 17 = v := ⟨_, rfl⟩
    rw [c92] at p88
    exact tr_iret hZ dX10_mark_12 rfl (by decide) (by decide) ⟨v86, rfl, rfl, rfl, rfl, rfl, rfl, hS89, (Or.inl ⟨(by (try rw [c2]); first | done | with_reducible assumption | omega), (by first | done | with_reducible assumption | omega), ⟨rfl, fun a j h => by rcases h with h | h | h; exact (g84.cell h (wm_no (by decide +kernel))); exact (g84.cell h (wm_no (by decide +kernel))); exact (g84.cell h (wm_no (by decide +kernel)))⟩, trivial⟩), trivial⟩
def wik_X6_goBack : List Nat := [512, 513, 514, 704, 1791, 1855]
def wrk_X6_goBack : List Nat := []
set_option maxHeartbeats 4000000 in
theorem fk_X6_goBack {l : Launch} {T : Nat → Nat} {cn : Nat} {K N : Nat → Nat} {I0 : cz_I} {R0 : cz_R} {L0 : cz_L} {d : Int} (hW0 : Wf T cn K N I0 R0 d)  {a0 : Nat} (ta0 : T a0 = 11) {a1 : Nat} (ta1 : T a1 = 8) {x2 : Int32} : ConE l mX6_goBack [.ref a0, .ref a1, .int x2] cn K N I0 R0 L0 (ca_i (fun v cn' K' N' I' R' L' => cn = cn' ∧ K = K' ∧ N = N' ∧ R0 = R' ∧ L0 = L' ∧ St T cn K N d wik_X6_goBack wrk_X6_goBack I0 R0 I' R0 ∧ (0 ≤ v.toInt ∧ v.toInt ≤ 1) ∧ ((((x2.toInt < 0 ∨ x2.toInt ≥ (I0 a0 2).toInt)) ∧ (v.toInt = 0) ∧ (SmC T I0 R0 I' R0) ∧ True) ∨ ((0 ≤ x2.toInt) ∧ (x2.toInt < (I0 a0 2).toInt) ∧ (v.toInt = 1) ∧ ((I' a0 0).toInt = 0) ∧ (∀ A, R0 a0 3 = some A → BkC I0 R0 I' A a1 x2.toInt.toNat) ∧ True)) ∧ True)) := by
  refine ConE.of (by decide +kernel) rfl (Nat.le_of_ble_eq_true rfl) rfl (fun X hX hZ hE => ?_)
  subst hX
  have hS0 : St T cn K N d wik_X6_goBack wrk_X6_goBack I0 R0 I0 R0 := St.rf0 hW0
  obtain ⟨v1, c2⟩ : ∃ v, I0 a0 2 = v := ⟨_, rfl⟩
  have b3 := iv11_2 hW0 ta0 c2
  obtain ⟨a4, d5, ta4⟩ := rf11_1 hW0 ta0
  obtain ⟨a6, d7, ta6⟩ := rf11_3 hW0 ta0
  obtain ⟨v8, c9⟩ : ∃ v, I0 a0 0 = v := ⟨_, rfl⟩
  have b10 := iv11_0 hS0.1 ta0 c9
  obtain ⟨v11, c12⟩ : ∃ v, I0 a1 0 = v := ⟨_, rfl⟩
  obtain ⟨v13, c14⟩ : ∃ v, I0 a1 1 = v := ⟨_, rfl⟩
  have b15 := iv8_1 hS0.1 ta1 c14
  obtain ⟨v16, c17⟩ : ∃ v, I0 a1 2 = v := ⟨_, rfl⟩
  have b18 := iv8_2 hS0.1 ta1 c17
  refine tr_iload_n dX6_goBack_0 rfl ?_
  refine q_if_lt 12 dX6_goBack_1 (by decide) (fun h19 => ?_) (fun h19 => ?_)
  · skip
    refine q_iconst dX6_goBack_12 (by decide) ?_
    intro v20 h21
    exact tr_zret hZ dX6_goBack_13 rfl (ti_b01 (by exact om_d99fa9e4 h21) (by exact om_d3de7ec9 h21)) (by decide) (by decide) ⟨v20, rfl, rfl, rfl, rfl, rfl, rfl, hS0, (by exact om_3b50ecb9 h21), (Or.inl ⟨(by (try rw [c2]); first | done | with_reducible assumption | exact om_82eb7c5a h19), (by first | done | with_reducible assumption | omega), ⟨rfl, fun a j h => by rcases h with h | h | h; exact rfl; exact rfl; exact rfl⟩, trivial⟩), trivial⟩
  · skip
    refine tr_iload_n dX6_goBack_4 rfl ?_
    refine tr_aload_n dX6_goBack_5 rfl ?_
    refine q_getI dX6_goBack_6 fl6_25 (kR11 hS0.1 ta0) c2 ?_
    refine q_icmp_lt 14 dX6_goBack_9 (by decide) (fun h22 => ?_) (fun h22 => ?_)
    · skip
      refine tr_aload_n dX6_goBack_14 rfl ?_
      refine tr_aload_n dX6_goBack_15 rfl ?_
      refine tr_getR dX6_goBack_16 fl6_17 (kR11 hS0.1 ta0) d7 ?_
      refine tr_iload_n dX6_goBack_19 rfl ?_
      obtain ⟨a23, d24, ta23⟩ := rf34 hS0.1 ta6 (j := x2.toNatClampNeg) (ti_lt (by exact om_2cfcd5a5 h19) (by exact om_386095fb b3.2 b3.1 h22))
      refine tr_aald dX6_goBack_20 (kR34 hS0.1 ta6) (by decide) (by decide) (ti_in (nR34 hS0.1 ta6) (by exact om_2cfcd5a5 h19) (by exact om_386095fb b3.2 b3.1 h22)) d24 ?_
      obtain ⟨v25, c26⟩ : ∃ v, I0 a23 0 = v := ⟨_, rfl⟩
      obtain ⟨v27, c28⟩ : ∃ v, I0 a23 1 = v := ⟨_, rfl⟩
      have b29 := iv10_1 hW0 ta23 c28
      obtain ⟨v30, c31⟩ : ∃ v, I0 a23 2 = v := ⟨_, rfl⟩
      have b32 := iv10_2 hW0 ta23 c31
      refine q_callVv hE (M' := mX3_become) (as := [_]) dX6_goBack_21 lk6_31 inX3_become seX3_become myX3_become (by decide) ⟨by decide, by decide⟩ rfl (kR8 hS0.1 ta1) (Nat.le_of_ble_eq_true rfl) rfl rfl (by decide) (by decide) (fk_X3_become_1 hS0.1  ta1 ta23) ?_
      rintro cn' K' N' I33 R34 L35 ⟨rfl, rfl, rfl, rfl, rfl, g36, p39, p40, p41, -⟩
      have hS42 := hS0.tr g36 (by decide +kernel) (by decide +kernel)
      have c43 : I33 a0 0 = v8 := (g36.cell ta0 (by decide +kernel)).trans c9
      obtain ⟨v44, c45⟩ : ∃ v, I33 a1 0 = v := ⟨_, rfl⟩
      rw [c45] at p39
      rw [c26] at p39
      obtain ⟨v46, c47⟩ : ∃ v, I33 a1 1 = v := ⟨_, rfl⟩
      have b48 := iv8_1 hS42.1 ta1 c47
      rw [c47] at p40
      rw [c28] at p40
      obtain ⟨v49, c50⟩ : ∃ v, I33 a1 2 = v := ⟨_, rfl⟩
      have b51 := iv8_2 hS42.1 ta1 c50
      rw [c50] at p41
      rw [c31] at p41
      refine tr_aload_n dX6_goBack_24 rfl ?_
      refine q_iconst dX6_goBack_25 (by decide) ?_
      intro v52 h53
      refine q_putI dX6_goBack_26 fl6_21 (kR11 hS42.1 ta0) (Or.inl rfl) hS42 ta0 (by show (0 : Int) ≤ v52.toInt ∧ v52.toInt ≤ (12 : Int); exact om_dbf687ed h53) rfl (by decide +kernel) ?_
      intro I54 hS55 e56 f57
      have c58 : I54 a1 0 = v44 := (f57 _ _ (fun q => by have z := ta1; rw [q.1, ta0] at z; exact absurd z (by decide))).trans c45
      have c59 : I54 a1 1 = v46 := (f57 _ _ (fun q => absurd q.2 (by decide))).trans c47
      have c60 : I54 a1 2 = v49 := (f57 _ _ (fun q => absurd q.2 (by decide))).trans c50
      refine q_iconst dX6_goBack_29 (by decide) ?_
      intro v61 h62
      exact tr_zret hZ dX6_goBack_30 rfl (ti_b01 (by exact om_f9079521 h62) (by exact om_e6632817 h62)) (by decide) (by decide) ⟨v61, rfl, rfl, rfl, rfl, rfl, rfl, hS55, (by exact om_d753bc65 h62), (Or.inr (⟨(by first | done | with_reducible assumption | omega), (by (try rw [c2]); first | done | with_reducible assumption | omega), (by first | done | with_reducible assumption | omega), (by (try rw [e56]); first | done | with_reducible assumption | omega), (fun A hA h hh => by obtain rfl := Option.some.inj (d7.symm.trans hA); have z := d24; rw [show x2.toNatClampNeg = x2.toInt.toNat by rfl] at z; obtain rfl := Option.some.inj (z.symm.trans hh); exact ⟨by rw [c58, c26]; exact om_acd7a85a p39, by rw [c59, c28]; exact om_acd7a85a p40, by rw [c60, c31]; exact om_acd7a85a p41⟩), trivial⟩)), trivial⟩
    · skip
      refine q_iconst dX6_goBack_12 (by decide) ?_
      intro v63 h64
      exact tr_zret hZ dX6_goBack_13 rfl (ti_b01 (by exact om_d99fa9e4 h64) (by exact om_d3de7ec9 h64)) (by decide) (by decide) ⟨v63, rfl, rfl, rfl, rfl, rfl, rfl, hS0, (by exact om_3b50ecb9 h64), (Or.inl ⟨(by (try rw [c2]); first | done | with_reducible assumption | exact om_0273c8de h22), (by first | done | with_reducible assumption | omega), ⟨rfl, fun a j h => by rcases h with h | h | h; exact rfl; exact rfl; exact rfl⟩, trivial⟩), trivial⟩
def wik_X10_back : List Nat := [73, 75, 81, 512, 513, 514, 704, 1791, 1855]
def wrk_X10_back : List Nat := []
def Cs_X10_back (T : Nat → Nat) (I0 : cz_I) (R0 : cz_R) (a0 : Nat) (x1 : Int32) (v : Int32) (I' : cz_I) (R' : cz_R) : Prop :=
  ((∀ b1, R0 a0 7 = some b1 → (x1.toInt < 0 ∨ x1.toInt ≥ (I0 b1 2).toInt)) ∧ (v.toInt = 0) ∧ (SmC T I0 R0 I' R0) ∧ True) ∨
  ((0 ≤ x1.toInt) ∧ (∀ b1, R0 a0 7 = some b1 → x1.toInt < (I0 b1 2).toInt) ∧ (v.toInt = 1) ∧ (∀ b1, R0 a0 7 = some b1 → (I' b1 0).toInt = 0) ∧ (∀ nw pa A, R0 a0 6 = some nw → R0 a0 7 = some pa → R0 pa 3 = some A → BkC I0 R0 I' A nw x1.toInt.toNat) ∧ True)
set_option maxHeartbeats 4000000 in
theorem fk_X10_back {l : Launch} {T : Nat → Nat} {cn : Nat} {K N : Nat → Nat} {I0 : cz_I} {R0 : cz_R} {L0 : cz_L} {d : Int} (hW0 : Wf T cn K N I0 R0 d)  {a0 : Nat} (ta0 : T a0 = 1) {x1 : Int32} : ConE l mX10_back [.ref a0, .int x1] cn K N I0 R0 L0 (ca_i (fun v cn' K' N' I' R' L' => cn = cn' ∧ K = K' ∧ N = N' ∧ R0 = R' ∧ L0 = L' ∧ St T cn K N d wik_X10_back wrk_X10_back I0 R0 I' R0 ∧ (0 ≤ v.toInt ∧ v.toInt ≤ 1) ∧ Cs_X10_back T I0 R0 a0 x1 v I' R0 ∧ True)) := by
  refine ConE.of (by decide +kernel) rfl (Nat.le_of_ble_eq_true rfl) rfl (fun X hX hZ hE => ?_)
  subst hX
  have hS0 : St T cn K N d wik_X10_back wrk_X10_back I0 R0 I0 R0 := St.rf0 hW0
  obtain ⟨a1, d2, ta1⟩ := rf1_7 hW0 ta0
  obtain ⟨v3, c4⟩ : ∃ v, I0 a1 2 = v := ⟨_, rfl⟩
  have b5 := iv11_2 hW0 ta1 c4
  obtain ⟨a6, d7, ta6⟩ := rf1_6 hW0 ta0
  obtain ⟨a8, d9, ta8⟩ := rf11_1 hW0 ta1
  obtain ⟨a10, d11, ta10⟩ := rf11_3 hW0 ta1
  obtain ⟨v12, c13⟩ : ∃ v, I0 a1 0 = v := ⟨_, rfl⟩
  have b14 := iv11_0 hS0.1 ta1 c13
  obtain ⟨v15, c16⟩ : ∃ v, I0 a6 0 = v := ⟨_, rfl⟩
  obtain ⟨v17, c18⟩ : ∃ v, I0 a6 1 = v := ⟨_, rfl⟩
  have b19 := iv8_1 hS0.1 ta6 c18
  obtain ⟨v20, c21⟩ : ∃ v, I0 a6 2 = v := ⟨_, rfl⟩
  have b22 := iv8_2 hS0.1 ta6 c21
  refine tr_aload_n dX10_back_0 rfl ?_
  refine tr_getR dX10_back_1 fl10_42 (kR1 hS0.1 ta0) d2 ?_
  refine tr_aload_n dX10_back_4 rfl ?_
  refine tr_getR dX10_back_5 fl10_35 (kR1 hS0.1 ta0) d7 ?_
  refine tr_iload_n dX10_back_8 rfl ?_
  refine q_callVi hE (M' := mX6_goBack) (as := [_, _]) dX10_back_9 lk10_307 inX6_goBack seX6_goBack myX6_goBack (by decide) ⟨by decide, by decide⟩ rfl (kR11 hS0.1 ta1) (Nat.le_of_ble_eq_true rfl) rfl rfl (by decide) (by decide) (fk_X6_goBack hS0.1  ta1 ta6) ?_
  rintro v28 cn' K' N' I23 R24 L25 ⟨rfl, rfl, rfl, rfl, rfl, g26, h29, dj30, -⟩
  have hS31 := hS0.tr g26 (by decide +kernel) (by decide +kernel)
  rcases dj30 with ⟨p32, p33, rp34, -⟩ | ⟨p35, p36, p37, p38, rp39, -⟩
  · skip
    rw [c4] at p32
    refine q_if_ne 21 dX10_back_12 (by decide) (fun h40 => ?_) (fun h40 => ?_)
    · skip
      exfalso; exact om_3a97d4a5 p33 h40
    · skip
      refine tr_aload_n dX10_back_15 rfl ?_
      refine q_iconst dX10_back_16 (by decide) ?_
      intro v41 h42
      refine q_callVi hE (M' := mX10_refusedAct) (as := [_]) dX10_back_17 lk10_281 inX10_refusedAct seX10_refusedAct myX10_refusedAct (by decide) ⟨by decide, by decide⟩ rfl (kR1 hS31.1 ta0) (Nat.le_of_ble_eq_true rfl) rfl rfl (by decide) (by decide) (fk_X10_refusedAct hS31.1  ta0) ?_
      rintro v48 cn' K' N' I43 R44 L45 ⟨rfl, rfl, rfl, rfl, rfl, g46, h49, p50, p51, -⟩
      have hS52 := hS31.tr g46 (by decide +kernel) (by decide +kernel)
      obtain ⟨v53, c54⟩ : ∃ v, I43 a0 17 = v := ⟨_, rfl⟩
      rw [c54] at p51
      obtain ⟨v55, c56⟩ : ∃ v, I43 a1 0 = v := ⟨_, rfl⟩
      have b57 := iv11_0 hS52.1 ta1 c56
      exact tr_zret hZ dX10_back_20 rfl (ti_b01 (by exact om_d99fa9e4 p50) (by exact om_d3de7ec9 p50)) (by decide) (by decide) ⟨v48, rfl, rfl, rfl, rfl, rfl, rfl, hS52, (by exact om_be53a44c h49), (Or.inl ⟨(fun q0 z0 => by obtain rfl := Option.some.inj ((d2).symm.trans z0); (try rw [c4]); first | done | with_reducible assumption | omega), (by first | done | with_reducible assumption | omega), (SmC.kp rp34 (fun a j h => by rcases h with h | h | h; exact (g46.cell h (wm_no (by decide +kernel))); exact (g46.cell h (wm_no (by decide +kernel))); exact (g46.cell h (wm_no (by decide +kernel))))), trivial⟩), trivial⟩
  · skip
    rw [c4] at p36
    obtain ⟨v58, c59⟩ : ∃ v, I23 a1 0 = v := ⟨_, rfl⟩
    have b60 := iv11_0 hS31.1 ta1 c59
    rw [c59] at p38
    refine q_if_ne 21 dX10_back_12 (by decide) (fun h61 => ?_) (fun h61 => ?_)
    · skip
      refine tr_aload_n dX10_back_21 rfl ?_
      refine q_callVv hE (M' := mX10_cloudsMoved) (as := []) dX10_back_22 lk10_103 inX10_cloudsMoved seX10_cloudsMoved myX10_cloudsMoved (by decide) ⟨by decide, by decide⟩ rfl (kR1 hS31.1 ta0) (Nat.le_of_ble_eq_true rfl) rfl rfl (by decide) (by decide) (k_X10_cloudsMoved hS31.1 ta0) ?_
      rintro cn' K' N' I62 R63 L64 ⟨rfl, rfl, rfl, rfl, rfl, g65, -⟩
      have hS67 := hS31.tr g65 (by decide +kernel) (by decide +kernel)
      have c68 : I62 a1 0 = v58 := (g65.cell ta1 (by decide +kernel)).trans c59
      refine tr_aload_n dX10_back_25 rfl ?_
      refine q_callVi hE (M' := mX10_allowed) (as := []) dX10_back_26 lk10_291 inX10_allowed seX10_allowed myX10_allowed (by decide) ⟨by decide, by decide⟩ rfl (kR1 hS67.1 ta0) (Nat.le_of_ble_eq_true rfl) rfl rfl (by decide) (by decide) (fk_X10_allowed hS67.1  ta0) ?_
      rintro v74 cn' K' N' I69 R70 L71 ⟨rfl, rfl, rfl, rfl, rfl, g72, h75, p76, p77, -⟩
      have hS78 := hS67.tr g72 (by decide +kernel) (by decide +kernel)
      have c79 : I69 a1 0 = v58 := (g72.cell ta1 (by decide +kernel)).trans c68
      obtain ⟨v80, c81⟩ : ∃ v, I69 a0 17 = v := ⟨_, rfl⟩
      rw [c81] at p77
      exact tr_zret hZ dX10_back_29 rfl (ti_b01 (by exact om_f9079521 p76) (by exact om_e6632817 p76)) (by decide) (by decide) ⟨v74, rfl, rfl, rfl, rfl, rfl, rfl, hS78, (by exact om_be53a44c h75), (Or.inr (⟨(by first | done | with_reducible assumption | omega), (fun q0 z0 => by obtain rfl := Option.some.inj ((d2).symm.trans z0); (try rw [c4]); first | done | with_reducible assumption | omega), (by first | done | with_reducible assumption | omega), (fun q0 z0 => by obtain rfl := Option.some.inj ((d2).symm.trans z0); (try rw [c79]); first | done | with_reducible assumption | omega), (fun nw pa A h1 h2 h3 => by obtain rfl := Option.some.inj (d7.symm.trans h1); obtain rfl := Option.some.inj (d2.symm.trans h2); obtain rfl := Option.some.inj (d11.symm.trans h3); exact BkC.kp (rp39 _ d11) (fun j => ((g72.cell ta6 (wm_no (by decide +kernel))).trans (g65.cell ta6 (wm_no (by decide +kernel)))))), trivial⟩)), trivial⟩
    · skip
      exfalso; exact om_3624102b p37 h61
