def wi_X12_drawOf : List Nat := [4991]
def wr_X12_drawOf : List Nat := []
set_option maxHeartbeats 4000000 in
theorem k_X12_drawOf {l : Launch} {T : Nat → Nat} {cn : Nat} {K N : Nat → Nat} {I0 : cz_I} {R0 : cz_R} {L0 : cz_L} {d : Int} (hW0 : Wf T cn K N I0 R0 d) {a0 : Nat} (ta0 : T a0 = 15) {x1 : Int32} (hx1 : 1 ≤ x1.toInt ∧ x1.toInt ≤ 240) : ConE l mX12_drawOf [.ref a0, .int x1] cn K N I0 R0 L0 (ca_i (fun v cn' K' N' I' R' L' => cn = cn' ∧ K = K' ∧ N = N' ∧ R0 = R' ∧ L0 = L' ∧ St T cn K N d wi_X12_drawOf wr_X12_drawOf I0 R0 I' R0 ∧ (0 ≤ v.toInt ∧ v.toInt ≤ 239) ∧ (v.toInt < x1.toInt) ∧ (∀ b1, R0 a0 16 = some b1 → (I' b1 1).toInt = (I0 b1 1).toInt) ∧ True)) := by
  refine ConE.of (by decide +kernel) rfl (Nat.le_of_ble_eq_true rfl) rfl (fun X hX hZ hE => ?_)
  subst hX
  have hS0 : St T cn K N d wi_X12_drawOf wr_X12_drawOf I0 R0 I0 R0 := St.rf0 hW0
  obtain ⟨a1, d2, ta1⟩ := rf15_16 hW0 ta0
  obtain ⟨v3, c4⟩ : ∃ v, I0 a1 1 = v := ⟨_, rfl⟩
  have b5 := iv77_1 hS0.1 ta1 (by decide) c4
  refine tr_aload_n dX12_drawOf_0 rfl ?_
  refine tr_getR dX12_drawOf_1 fl12_17 (kR15 hS0.1 ta0) d2 ?_
  refine q_iconst dX12_drawOf_4 (by decide) ?_
  intro v6 h7
  refine q_ldc2E 75 dX12_drawOf_5 ld12_491 (by decide +kernel) ?_
  intro y8 h9
  refine tr_aload_n dX12_drawOf_8 rfl ?_
  refine tr_getR dX12_drawOf_9 fl12_17 (kR15 hS0.1 ta0) d2 ?_
  refine q_iconst dX12_drawOf_12 (by decide) ?_
  intro v10 h11
  obtain ⟨v12, c13⟩ : ∃ v, I0 a1 2 = v := ⟨_, rfl⟩
  have b14 := iv77_2 hS0.1 ta1 (by decide) c13
  refine q_iald dX12_drawOf_13 (kR77 hS0.1 ta1) (ti_in (nR77 hS0.1 ta1) (by omega) (by omega)) ?_
  intro v15 c16
  rw [show v10.toNatClampNeg = 2 from ti_cl (by omega)] at c16
  obtain rfl : v12 = v15 := (c13).symm.trans c16
  refine q_i2lE dX12_drawOf_14 ?_
  intro y17 h18
  refine q_lmulE (c := 75) dX12_drawOf_15 (by omega) (by omega) ?_
  intro y19 h20
  refine q_ldc2E 74 dX12_drawOf_16 ld12_493 (by decide +kernel) ?_
  intro y21 h22
  refine q_laddE dX12_drawOf_19 (by omega) ?_
  intro y23 h24
  refine q_ldc2E 65537 dX12_drawOf_20 ld12_495 (by decide +kernel) ?_
  intro y25 h26
  refine q_lremE dX12_drawOf_23 (by omega) ?_
  intro y27 h28
  refine q_l2iE dX12_drawOf_24 (by omega) ?_
  intro v29 h30
  refine q_iast dX12_drawOf_25 (kR77 hS0.1 ta1) (ti_in (nR77 hS0.1 ta1) (by omega) (by omega)) hS0 ta1 (iok_w2 rfl (by have q := ti_nat (i := v6) (by omega); omega) (by omega)) rfl (by rfl) ?_
  intro I31 hS32 e34 f33
  have c35 : I31 a1 1 = v3 := (f33 _ _ (fun q => by have z := ti_nat (i := v6) (by omega); omega)).trans c4
  rw [show v6.toNatClampNeg = 2 from ti_cl (by omega)] at e34
  refine tr_aload_n dX12_drawOf_26 rfl ?_
  refine tr_getR dX12_drawOf_27 fl12_17 (kR15 hS32.1 ta0) d2 ?_
  refine q_iconst dX12_drawOf_30 (by decide) ?_
  intro v36 h37
  refine q_iald dX12_drawOf_31 (kR77 hS32.1 ta1) (ti_in (nR77 hS32.1 ta1) (by omega) (by omega)) ?_
  intro v38 c39
  rw [show v36.toNatClampNeg = 2 from ti_cl (by omega)] at c39
  obtain rfl : v29 = v38 := (e34).symm.trans c39
  refine tr_iload_n dX12_drawOf_32 rfl ?_
  refine q_iremE dX12_drawOf_33 (by omega) ?_
  intro v40 h41
  exact tr_iret hZ dX12_drawOf_34 rfl (by decide) (by decide) ⟨v40, rfl, rfl, rfl, rfl, rfl, rfl, hS32, (by omega), (by omega), (fun q0 z0 => by obtain rfl := Option.some.inj ((d2).symm.trans z0); (try rw [c35]); (try rw [c4]); (try omega)), trivial⟩
def wi_X12_comes : List Nat := [4991]
def wr_X12_comes : List Nat := []
set_option maxHeartbeats 4000000 in
theorem k_X12_comes {l : Launch} {T : Nat → Nat} {cn : Nat} {K N : Nat → Nat} {I0 : cz_I} {R0 : cz_R} {L0 : cz_L} {d : Int} (hW0 : Wf T cn K N I0 R0 d) {a0 : Nat} (ta0 : T a0 = 15) {x1 : Int32} (hx1 : 0 ≤ x1.toInt ∧ x1.toInt ≤ 240) {x2 : Int32} (hx2 : 0 ≤ x2.toInt ∧ x2.toInt ≤ 240) (pre0 : ∀ b1, R0 a0 16 = some b1 → (I0 b1 1).toInt ≤ 5) : ConE l mX12_comes [.ref a0, .int x1, .int x2] cn K N I0 R0 L0 (ca_v (fun cn' K' N' I' R' L' => cn = cn' ∧ K = K' ∧ N = N' ∧ R0 = R' ∧ L0 = L' ∧ St T cn K N d wi_X12_comes wr_X12_comes I0 R0 I' R0 ∧ (∀ b1, R0 a0 16 = some b1 → (I' b1 1).toInt = (I0 b1 1).toInt + 1) ∧ True)) := by
  refine ConE.of (by decide +kernel) rfl (Nat.le_of_ble_eq_true rfl) rfl (fun X hX hZ hE => ?_)
  subst hX
  have hS0 : St T cn K N d wi_X12_comes wr_X12_comes I0 R0 I0 R0 := St.rf0 hW0
  obtain ⟨a1, d2, ta1⟩ := rf15_16 hW0 ta0
  obtain ⟨v3, c4⟩ : ∃ v, I0 a1 1 = v := ⟨_, rfl⟩
  have b5 := iv77_1 hS0.1 ta1 (by decide) c4
  have p6 := pre0 _ d2
  rw [c4] at p6
  refine tr_aload_n dX12_comes_0 rfl ?_
  refine tr_getR dX12_comes_1 fl12_17 (kR15 hS0.1 ta0) d2 ?_
  refine q_iconst dX12_comes_4 (by decide) ?_
  intro v7 h8
  refine tr_aload_n dX12_comes_5 rfl ?_
  refine tr_getR dX12_comes_6 fl12_17 (kR15 hS0.1 ta0) d2 ?_
  refine q_iconst dX12_comes_9 (by decide) ?_
  intro v9 h10
  refine q_iald dX12_comes_10 (kR77 hS0.1 ta1) (ti_in (nR77 hS0.1 ta1) (by omega) (by omega)) ?_
  intro v11 c12
  rw [show v9.toNatClampNeg = 1 from ti_cl (by omega)] at c12
  obtain rfl : v3 = v11 := (c4).symm.trans c12
  refine q_iaddE dX12_comes_11 (by intros; omega) ?_
  intro v13 h14
  refine tr_iload_n dX12_comes_12 rfl ?_
  refine q_iast dX12_comes_13 (kR77 hS0.1 ta1) (ti_in (nR77 hS0.1 ta1) (by omega) (by omega)) hS0 ta1 (iok_w3 rfl (by have q := ti_nat (i := v13) (by omega); omega) (by omega)) rfl (by rfl) ?_
  intro I15 hS16 e18 f17
  have c19 : I15 a1 1 = v3 := (f17 _ _ (fun q => by have z := ti_nat (i := v13) (by omega); omega)).trans c4
  refine tr_aload_n dX12_comes_14 rfl ?_
  refine tr_getR dX12_comes_15 fl12_17 (kR15 hS16.1 ta0) d2 ?_
  refine q_bipush dX12_comes_18 (by decide +kernel) ?_
  intro v20 h21
  refine tr_aload_n dX12_comes_20 rfl ?_
  refine tr_getR dX12_comes_21 fl12_17 (kR15 hS16.1 ta0) d2 ?_
  refine q_iconst dX12_comes_24 (by decide) ?_
  intro v22 h23
  refine q_iald dX12_comes_25 (kR77 hS16.1 ta1) (ti_in (nR77 hS16.1 ta1) (by omega) (by omega)) ?_
  intro v24 c25
  rw [show v22.toNatClampNeg = 1 from ti_cl (by omega)] at c25
  obtain rfl : v3 = v24 := (c19).symm.trans c25
  refine q_iaddE dX12_comes_26 (by intros; omega) ?_
  intro v26 h27
  refine tr_iload_n dX12_comes_27 rfl ?_
  refine q_iast dX12_comes_28 (kR77 hS16.1 ta1) (ti_in (nR77 hS16.1 ta1) (by omega) (by omega)) hS16 ta1 (iok_w3 rfl (by have q := ti_nat (i := v26) (by omega); omega) (by omega)) rfl (by rfl) ?_
  intro I28 hS29 e31 f30
  have c32 : I28 a1 1 = v3 := (f30 _ _ (fun q => by have z := ti_nat (i := v26) (by omega); omega)).trans c19
  refine tr_aload_n dX12_comes_29 rfl ?_
  refine tr_getR dX12_comes_30 fl12_17 (kR15 hS29.1 ta0) d2 ?_
  refine q_iconst dX12_comes_33 (by decide) ?_
  intro v33 h34
  refine tr_dup2 dX12_comes_34 rfl rfl ?_
  refine q_iald dX12_comes_35 (kR77 hS29.1 ta1) (ti_in (nR77 hS29.1 ta1) (by omega) (by omega)) ?_
  intro v35 c36
  rw [show v33.toNatClampNeg = 1 from ti_cl (by omega)] at c36
  obtain rfl : v3 = v35 := (c32).symm.trans c36
  refine q_iconst dX12_comes_36 (by decide) ?_
  intro v37 h38
  refine q_iaddE dX12_comes_37 (by intros; omega) ?_
  intro v39 h40
  refine q_iast dX12_comes_38 (kR77 hS29.1 ta1) (ti_in (nR77 hS29.1 ta1) (by omega) (by omega)) hS29 ta1 (iok_w1 rfl (by have q := ti_nat (i := v33) (by omega); omega) (by omega)) rfl (by rfl) ?_
  intro I41 hS42 e44 f43
  rw [show v33.toNatClampNeg = 1 from ti_cl (by omega)] at e44
  exact tr_vret hZ dX12_comes_39 rfl (by decide) (by decide) ⟨rfl, rfl, rfl, rfl, rfl, rfl, hS42, (fun q0 z0 => by obtain rfl := Option.some.inj ((d2).symm.trans z0); (try rw [e44]); (try rw [c4]); (try omega)), trivial⟩
def wi_X12_draws : List Nat := [4991]
def wr_X12_draws : List Nat := []
set_option maxHeartbeats 4000000 in
theorem k_X12_draws {l : Launch} {T : Nat → Nat} {cn : Nat} {K N : Nat → Nat} {I0 : cz_I} {R0 : cz_R} {L0 : cz_L} {d : Int} (hW0 : Wf T cn K N I0 R0 d) {a0 : Nat} (ta0 : T a0 = 15) (pre0 : ∀ b1, R0 a0 16 = some b1 → (I0 b1 1).toInt ≤ 5) (nn3 : ∃ b, R0 a0 3 = some b) : ConE l mX12_draws [.ref a0] cn K N I0 R0 L0 (ca_i (fun v cn' K' N' I' R' L' => cn = cn' ∧ K = K' ∧ N = N' ∧ R0 = R' ∧ L0 = L' ∧ St T cn K N d wi_X12_draws wr_X12_draws I0 R0 I' R0 ∧ (0 ≤ v.toInt ∧ v.toInt ≤ 239) ∧ (∀ b1, R0 a0 16 = some b1 → (I' b1 1).toInt = (I0 b1 1).toInt + 1) ∧ True)) := by
  refine ConE.of (by decide +kernel) rfl (Nat.le_of_ble_eq_true rfl) rfl (fun X hX hZ hE => ?_)
  subst hX
  have hS0 : St T cn K N d wi_X12_draws wr_X12_draws I0 R0 I0 R0 := St.rf0 hW0
  obtain ⟨a1, d2⟩ := nn3
  have ta1 : T a1 = 14 := hW0.rsN ta0 rfl d2
  obtain ⟨a3, d4, ta3⟩ := rf15_16 hW0 ta0
  obtain ⟨v5, c6⟩ : ∃ v, I0 a3 1 = v := ⟨_, rfl⟩
  have b7 := iv77_1 hS0.1 ta3 (by decide) c6
  have p8 := pre0 _ d4
  rw [c6] at p8
  refine tr_aload_n dX12_draws_0 rfl ?_
  refine tr_aload_n dX12_draws_1 rfl ?_
  refine tr_getR dX12_draws_2 fl12_385 (kR15 hS0.1 ta0) d2 ?_
  obtain ⟨v9, c10⟩ : ∃ v, I0 a1 0 = v := ⟨_, rfl⟩
  have b11 := hW0.2.2.2.2.2.1 a0 ta0 _ d2
  rw [c10] at b11
  have b12 := iv14_0 hW0 ta1 c10
  refine q_getI dX12_draws_5 fl12_192 (kR14 hS0.1 ta1) c10 ?_
  refine q_callVi hE (M' := mX12_drawOf) (as := [_]) dX12_draws_8 lk12_497 inX12_drawOf seX12_drawOf myX12_drawOf (by decide) ⟨by decide, by decide⟩ rfl (kR15 hS0.1 ta0) (Nat.le_of_ble_eq_true rfl) rfl rfl (by decide) (by decide) (k_X12_drawOf hS0.1 ta0 (by omega)) ?_
  rintro v17 cn' K' N' I13 R14 L15 ⟨rfl, rfl, rfl, rfl, rfl, g16, h18, p19, p20, -⟩
  have hS21 := hS0.tr g16 (by decide +kernel) (by decide +kernel)
  obtain ⟨v22, c23⟩ : ∃ v, I13 a3 1 = v := ⟨_, rfl⟩
  have b24 := iv77_1 hS21.1 ta3 (by decide) c23
  have p25 := p20 _ d4
  clear p20
  rw [c23] at p25
  rw [c6] at p25
  refine tr_istore_n dX12_draws_11 (by decide) (by decide) ?_
  refine tr_iload_n dX12_draws_12 rfl ?_
  refine q_iconst dX12_draws_13 (by decide) ?_
  intro v26 h27
  refine q_iaddE dX12_draws_14 (by intros; omega) ?_
  intro v28 h29
  refine tr_aload_n dX12_draws_15 rfl ?_
  refine q_bipush dX12_draws_16 (by decide +kernel) ?_
  intro v30 h31
  refine q_callVi hE (M' := mX12_drawOf) (as := [_]) dX12_draws_18 lk12_497 inX12_drawOf seX12_drawOf myX12_drawOf (by decide) ⟨by decide, by decide⟩ rfl (kR15 hS21.1 ta0) (Nat.le_of_ble_eq_true rfl) rfl rfl (by decide) (by decide) (k_X12_drawOf hS21.1 ta0 (by omega)) ?_
  rintro v36 cn' K' N' I32 R33 L34 ⟨rfl, rfl, rfl, rfl, rfl, g35, h37, p38, p39, -⟩
  have hS40 := hS21.tr g35 (by decide +kernel) (by decide +kernel)
  obtain ⟨v41, c42⟩ : ∃ v, I32 a3 1 = v := ⟨_, rfl⟩
  have b43 := iv77_1 hS40.1 ta3 (by decide) c42
  have p44 := p39 _ d4
  clear p39
  rw [c42] at p44
  rw [c23] at p44
  refine q_iaddE dX12_draws_21 (by intros; omega) ?_
  intro v45 h46
  refine tr_istore_n dX12_draws_22 (by decide) (by decide) ?_
  refine tr_aload_n dX12_draws_23 rfl ?_
  refine tr_iload_n dX12_draws_24 rfl ?_
  refine tr_iload_n dX12_draws_25 rfl ?_
  refine tr_aload_n dX12_draws_26 rfl ?_
  refine tr_getR dX12_draws_27 fl12_385 (kR15 hS40.1 ta0) d2 ?_
  refine q_getI dX12_draws_30 fl12_192 (kR14 hS40.1 ta1) ((hS40.cell ta1 (by decide +kernel)).trans c10) ?_
  refine q_icmp_ge 40 dX12_draws_33 (by decide) (fun h47 => ?_) (fun h47 => ?_)
  · skip
    refine tr_aload_n dX12_draws_40 rfl ?_
    refine tr_getR dX12_draws_41 fl12_385 (kR15 hS40.1 ta0) d2 ?_
    refine q_getI dX12_draws_44 fl12_192 (kR14 hS40.1 ta1) ((hS40.cell ta1 (by decide +kernel)).trans c10) ?_
    refine q_callVv hE (M' := mX12_comes) (as := [_, _]) dX12_draws_47 lk12_500 inX12_comes seX12_comes myX12_comes (by decide) ⟨by decide, by decide⟩ rfl (kR15 hS40.1 ta0) (Nat.le_of_ble_eq_true rfl) rfl rfl (by decide) (by decide) (k_X12_comes hS40.1 ta0 (by omega) (by omega) (fun q0 z0 => by obtain rfl := Option.some.inj ((d4).symm.trans z0); (try rw [c42]); (try omega))) ?_
    rintro cn' K' N' I48 R49 L50 ⟨rfl, rfl, rfl, rfl, rfl, g51, p53, -⟩
    have hS54 := hS40.tr g51 (by decide +kernel) (by decide +kernel)
    obtain ⟨v55, c56⟩ : ∃ v, I48 a3 1 = v := ⟨_, rfl⟩
    have b57 := iv77_1 hS54.1 ta3 (by decide) c56
    have p58 := p53 _ d4
    clear p53
    rw [c56] at p58
    rw [c42] at p58
    refine tr_iload_n dX12_draws_50 rfl ?_
    exact tr_iret hZ dX12_draws_51 rfl (by decide) (by decide) ⟨v17, rfl, rfl, rfl, rfl, rfl, rfl, hS54, (by omega), (fun q0 z0 => by obtain rfl := Option.some.inj ((d4).symm.trans z0); (try rw [c56]); (try rw [c6]); (try omega)), trivial⟩
  · skip
    refine tr_iload_n dX12_draws_36 rfl ?_
    refine tr_goto 47 dX12_draws_37 (by decide) ?_
    refine q_callVv hE (M' := mX12_comes) (as := [_, _]) dX12_draws_47 lk12_500 inX12_comes seX12_comes myX12_comes (by decide) ⟨by decide, by decide⟩ rfl (kR15 hS40.1 ta0) (Nat.le_of_ble_eq_true rfl) rfl rfl (by decide) (by decide) (k_X12_comes hS40.1 ta0 (by omega) (by omega) (fun q0 z0 => by obtain rfl := Option.some.inj ((d4).symm.trans z0); (try rw [c42]); (try omega))) ?_
    rintro cn' K' N' I59 R60 L61 ⟨rfl, rfl, rfl, rfl, rfl, g62, p64, -⟩
    have hS65 := hS40.tr g62 (by decide +kernel) (by decide +kernel)
    obtain ⟨v66, c67⟩ : ∃ v, I59 a3 1 = v := ⟨_, rfl⟩
    have b68 := iv77_1 hS65.1 ta3 (by decide) c67
    have p69 := p64 _ d4
    clear p64
    rw [c67] at p69
    rw [c42] at p69
    refine tr_iload_n dX12_draws_50 rfl ?_
    exact tr_iret hZ dX12_draws_51 rfl (by decide) (by decide) ⟨v17, rfl, rfl, rfl, rfl, rfl, rfl, hS65, (by omega), (fun q0 z0 => by obtain rfl := Option.some.inj ((d4).symm.trans z0); (try rw [c67]); (try rw [c6]); (try omega)), trivial⟩
def wi_X12_nights : List Nat := [960, 961, 962, 4991, 5183, 5247, 5311, 5375, 5439, 5503, 5567, 5631, 5695, 5759, 5823, 5887, 5951, 6015]
def wr_X12_nights : List Nat := []
set_option maxHeartbeats 4000000 in
theorem k_X12_nights {l : Launch} {T : Nat → Nat} {cn : Nat} {K N : Nat → Nat} {I0 : cz_I} {R0 : cz_R} {L0 : cz_L} {d : Int} (hW0 : Wf T cn K N I0 R0 d) {a0 : Nat} (ta0 : T a0 = 15) {x1 : Int32} {x2 : Int32} {x3 : Int32} : ConE l mX12_nights [.ref a0, .int x1, .int x2, .int x3] cn K N I0 R0 L0 (ca_i (fun v cn' K' N' I' R' L' => cn = cn' ∧ K = K' ∧ N = N' ∧ R0 = R' ∧ L0 = L' ∧ St T cn K N d wi_X12_nights wr_X12_nights I0 R0 I' R0 ∧ True)) := by
  refine ConE.of (by decide +kernel) rfl (Nat.le_of_ble_eq_true rfl) rfl (fun X hX hZ hE => ?_)
  subst hX
  have hS0 : St T cn K N d wi_X12_nights wr_X12_nights I0 R0 I0 R0 := St.rf0 hW0
  rcases rf15_3 hW0 ta0 with d2 | ⟨a1, d2, ta1⟩
  · skip
    refine tr_aload_n dX12_nights_0 rfl ?_
    refine q_iconst dX12_nights_1 (by decide) ?_
    intro v3 h4
    refine q_putI dX12_nights_2 fl12_70 (kR15 hS0.1 ta0) (Or.inl rfl) hS0 ta0 (iokF rfl) rfl (by decide +kernel) ?_
    intro I5 hS6 e7 f8
    refine tr_aload_n dX12_nights_5 rfl ?_
    refine tr_getN dX12_nights_6 fl12_385 (kR15 hS6.1 ta0) d2 ?_
    refine tr_ifnonnullN dX12_nights_9 ?_
    refine tr_aload_n dX12_nights_12 rfl ?_
    refine q_iconst dX12_nights_13 (by decide) ?_
    intro v9 h10
    refine q_callVi hE (M' := mX12_lost) (as := [_]) dX12_nights_14 lk12_458 inX12_lost seX12_lost myX12_lost (by decide) ⟨by decide, by decide⟩ rfl (kR15 hS6.1 ta0) (Nat.le_of_ble_eq_true rfl) rfl rfl (by decide) (by decide) (k_X12_lost hS6.1 ta0) ?_
    rintro v15 cn' K' N' I11 R12 L13 ⟨rfl, rfl, rfl, rfl, rfl, g14, -⟩
    have hS16 := hS6.tr g14 (by decide +kernel) (by decide +kernel)
    have c17 : I11 a0 0 = v3 := (g14.cell ta0 (by decide +kernel)).trans e7
    exact tr_iret hZ dX12_nights_17 rfl (by decide) (by decide) ⟨v15, rfl, rfl, rfl, rfl, rfl, rfl, hS16, trivial⟩
  · skip
    refine tr_aload_n dX12_nights_0 rfl ?_
    refine q_iconst dX12_nights_1 (by decide) ?_
    intro v18 h19
    refine q_putI dX12_nights_2 fl12_70 (kR15 hS0.1 ta0) (Or.inl rfl) hS0 ta0 (iokF rfl) rfl (by decide +kernel) ?_
    intro I20 hS21 e22 f23
    refine tr_aload_n dX12_nights_5 rfl ?_
    refine tr_getR dX12_nights_6 fl12_385 (kR15 hS21.1 ta0) d2 ?_
    refine tr_ifnonnull 18 dX12_nights_9 (by decide) ?_
    refine tr_iload_n dX12_nights_18 rfl ?_
    refine q_iconst dX12_nights_19 (by decide) ?_
    intro v24 h25
    refine q_ldcw 65536 dX12_nights_20 ld12_503 (by decide +kernel) ?_
    intro v26 h27
    refine q_callSi hE (M' := mX12_in) (as := [_, _, _]) dX12_nights_23 lk12_149 inX12_in myX12_in ⟨by decide, by decide⟩ rfl (Nat.le_of_ble_eq_true rfl) rfl rfl (by decide) (by decide) (k_X12_in hS21.1 ) ?_
    rintro v32 cn' K' N' I28 R29 L30 ⟨rfl, rfl, rfl, rfl, rfl, rfl, h33, p34, p35, -⟩
    refine q_if_eq 49 dX12_nights_26 (by decide) (fun h36 => ?_) (fun h36 => ?_)
    · skip
      refine tr_aload_n dX12_nights_49 rfl ?_
      refine q_iconst dX12_nights_50 (by decide) ?_
      intro v37 h38
      refine q_callVi hE (M' := mX12_lost) (as := [_]) dX12_nights_51 lk12_458 inX12_lost seX12_lost myX12_lost (by decide) ⟨by decide, by decide⟩ rfl (kR15 hS21.1 ta0) (Nat.le_of_ble_eq_true rfl) rfl rfl (by decide) (by decide) (k_X12_lost hS21.1 ta0) ?_
      rintro v43 cn' K' N' I39 R40 L41 ⟨rfl, rfl, rfl, rfl, rfl, g42, -⟩
      have hS44 := hS21.tr g42 (by decide +kernel) (by decide +kernel)
      have c45 : I39 a0 0 = v18 := (g42.cell ta0 (by decide +kernel)).trans e22
      exact tr_iret hZ dX12_nights_54 rfl (by decide) (by decide) ⟨v43, rfl, rfl, rfl, rfl, rfl, rfl, hS44, trivial⟩
    · skip
      refine tr_iload_n dX12_nights_29 rfl ?_
      refine q_iconst dX12_nights_30 (by decide) ?_
      intro v46 h47
      refine q_bipush dX12_nights_31 (by decide +kernel) ?_
      intro v48 h49
      refine q_callSi hE (M' := mX12_in) (as := [_, _, _]) dX12_nights_33 lk12_149 inX12_in myX12_in ⟨by decide, by decide⟩ rfl (Nat.le_of_ble_eq_true rfl) rfl rfl (by decide) (by decide) (k_X12_in hS21.1 ) ?_
      rintro v54 cn' K' N' I50 R51 L52 ⟨rfl, rfl, rfl, rfl, rfl, rfl, h55, p56, p57, -⟩
      refine q_if_eq 49 dX12_nights_36 (by decide) (fun h58 => ?_) (fun h58 => ?_)
      · skip
        refine tr_aload_n dX12_nights_49 rfl ?_
        refine q_iconst dX12_nights_50 (by decide) ?_
        intro v59 h60
        refine q_callVi hE (M' := mX12_lost) (as := [_]) dX12_nights_51 lk12_458 inX12_lost seX12_lost myX12_lost (by decide) ⟨by decide, by decide⟩ rfl (kR15 hS21.1 ta0) (Nat.le_of_ble_eq_true rfl) rfl rfl (by decide) (by decide) (k_X12_lost hS21.1 ta0) ?_
        rintro v65 cn' K' N' I61 R62 L63 ⟨rfl, rfl, rfl, rfl, rfl, g64, -⟩
        have hS66 := hS21.tr g64 (by decide +kernel) (by decide +kernel)
        have c67 : I61 a0 0 = v18 := (g64.cell ta0 (by decide +kernel)).trans e22
        exact tr_iret hZ dX12_nights_54 rfl (by decide) (by decide) ⟨v65, rfl, rfl, rfl, rfl, rfl, rfl, hS66, trivial⟩
      · skip
        refine tr_iload_n dX12_nights_39 rfl ?_
        refine q_iconst dX12_nights_40 (by decide) ?_
        intro v68 h69
        refine q_bipush dX12_nights_41 (by decide +kernel) ?_
        intro v70 h71
        refine q_callSi hE (M' := mX12_in) (as := [_, _, _]) dX12_nights_43 lk12_149 inX12_in myX12_in ⟨by decide, by decide⟩ rfl (Nat.le_of_ble_eq_true rfl) rfl rfl (by decide) (by decide) (k_X12_in hS21.1 ) ?_
        rintro v76 cn' K' N' I72 R73 L74 ⟨rfl, rfl, rfl, rfl, rfl, rfl, h77, p78, p79, -⟩
        refine q_if_ne 55 dX12_nights_46 (by decide) (fun h80 => ?_) (fun h80 => ?_)
        · skip
          refine q_iconst dX12_nights_55 (by decide) ?_
          intro v81 h82
          refine tr_istore dX12_nights_56 (by decide) (by decide) ?_
          have lp92 : ∀ (fu : Nat) (ls : Nat → Option Value) (v83 : Int32) (I89 : cz_I), ls 0 = some (.ref a0) → ls 1 = some (.int x1) → ls 2 = some (.int x2) → ls 3 = some (.int x3) → ls 4 = some (.int v83) → St T cn K N d wi_X12_nights wr_X12_nights I0 R0 I89 R0 → 0 ≤ v83.toInt → (-v83.toInt + 2147483647).toNat < fu → Tr X mX12_nights 58 ls [] cn K N I89 R0 L0 0 0 := by
            intro fu
            induction fu with
            | zero => intros; rename_i hz; exact absurd hz (Nat.not_lt_zero _)
            | succ fu ih92 =>
              intro ls v83 I89 hl84 hl85 hl86 hl87 hl88 hS90 g91 hm92
              refine tr_iload dX12_nights_58 hl88 ?_
              refine q_bipush dX12_nights_60 (by decide +kernel) ?_
              intro v94 h95
              refine q_icmp_ge 85 dX12_nights_62 (by decide) (fun h96 => ?_) (fun h96 => ?_)
              · skip
                refine tr_aload_n dX12_nights_85 hl84 ?_
                obtain ⟨a97, d98, ta97⟩ := rf15_16 hW0 ta0
                refine tr_getR dX12_nights_86 fl12_17 (kR15 hS90.1 ta0) d98 ?_
                refine q_iconst dX12_nights_89 (by decide) ?_
                intro v99 h100
                refine tr_iload_n dX12_nights_90 hl85 ?_
                refine q_iast dX12_nights_91 (kR77 hS90.1 ta97) (ti_in (nR77 hS90.1 ta97) (by omega) (by omega)) hS90 ta97 (iok_w2 rfl (by have q := ti_nat (i := v99) (by omega); omega) (by omega)) rfl (by rfl) ?_
                intro I101 hS102 e104 f103
                rw [show v99.toNatClampNeg = 2 from ti_cl (by omega)] at e104
                refine q_iconst dX12_nights_92 (by decide) ?_
                intro v105 h106
                refine tr_istore dX12_nights_93 (by decide) (by decide) ?_
                refine q_iconst dX12_nights_95 (by decide) ?_
                intro v107 h108
                refine tr_istore dX12_nights_96 (by decide) (by decide) ?_
                have lp120 : ∀ (fu : Nat) (ls : Nat → Option Value) (v109 : Int32) (v110 : Int32) (I117 : cz_I), ls 0 = some (.ref a0) → ls 1 = some (.int x1) → ls 2 = some (.int x2) → ls 3 = some (.int x3) → ls 4 = some (.int v109) → ls 5 = some (.int v110) → St T cn K N d wi_X12_nights wr_X12_nights I0 R0 I117 R0 → 0 ≤ v110.toInt → (-v110.toInt + 2147483647).toNat < fu → Tr X mX12_nights 98 ls [] cn K N I117 R0 L0 0 0 := by
                  intro fu
                  induction fu with
                  | zero => intros; rename_i hz; exact absurd hz (Nat.not_lt_zero _)
                  | succ fu ih120 =>
                    intro ls v109 v110 I117 hl111 hl112 hl113 hl114 hl115 hl116 hS118 g119 hm120
                    refine tr_iload dX12_nights_98 hl116 ?_
                    refine tr_iload_n dX12_nights_100 hl113 ?_
                    refine q_icmp_ge 146 dX12_nights_101 (by decide) (fun h122 => ?_) (fun h122 => ?_)
                    · skip
                      refine q_iconst dX12_nights_146 (by decide) ?_
                      intro v123 h124
                      refine tr_istore dX12_nights_147 (by decide) (by decide) ?_
                      have lp135 : ∀ (fu : Nat) (ls : Nat → Option Value) (v125 : Int32) (I132 : cz_I), ls 0 = some (.ref a0) → ls 1 = some (.int x1) → ls 2 = some (.int x2) → ls 3 = some (.int x3) → ls 4 = some (.int v109) → ls 5 = some (.int v125) → St T cn K N d wi_X12_nights wr_X12_nights I0 R0 I132 R0 → 0 ≤ v125.toInt → (-v125.toInt + 2147483647).toNat < fu → Tr X mX12_nights 149 ls [] cn K N I132 R0 L0 0 0 := by
                        intro fu
                        induction fu with
                        | zero => intros; rename_i hz; exact absurd hz (Nat.not_lt_zero _)
                        | succ fu ih135 =>
                          intro ls v125 I132 hl126 hl127 hl128 hl129 hl130 hl131 hS133 g134 hm135
                          refine tr_iload dX12_nights_149 hl131 ?_
                          refine q_bipush dX12_nights_151 (by decide +kernel) ?_
                          intro v137 h138
                          refine q_icmp_ge 176 dX12_nights_153 (by decide) (fun h139 => ?_) (fun h139 => ?_)
                          · skip
                            refine tr_aload_n dX12_nights_176 hl126 ?_
                            refine tr_iload dX12_nights_177 hl130 ?_
                            refine q_callVi hE (M' := mX12_good) (as := [_]) dX12_nights_179 lk12_81 inX12_good seX12_good myX12_good (by decide) ⟨by decide, by decide⟩ rfl (kR15 hS133.1 ta0) (Nat.le_of_ble_eq_true rfl) rfl rfl (by decide) (by decide) (k_X12_good hS133.1 ta0) ?_
                            rintro v144 cn' K' N' I140 R141 L142 ⟨rfl, rfl, rfl, rfl, rfl, g143, -⟩
                            have hS145 := hS133.tr g143 (by decide +kernel) (by decide +kernel)
                            exact tr_iret hZ dX12_nights_182 rfl (by decide) (by decide) ⟨v144, rfl, rfl, rfl, rfl, rfl, rfl, hS145, trivial⟩
                          · skip
                            refine tr_aload_n dX12_nights_156 hl126 ?_
                            refine tr_getR dX12_nights_157 fl12_17 (kR15 hS133.1 ta0) d98 ?_
                            refine tr_iload dX12_nights_160 hl131 ?_
                            refine tr_aload_n dX12_nights_162 hl126 ?_
                            obtain ⟨a146, d147, ta146⟩ := rf15_35 hW0 ta0
                            refine tr_getR dX12_nights_163 fl12_67 (kR15 hS133.1 ta0) d147 ?_
                            refine tr_iload dX12_nights_166 hl131 ?_
                            refine q_iald dX12_nights_168 (kR80 hS133.1 ta146) (ti_in (nR80 hS133.1 ta146) (by omega) (by omega)) ?_
                            intro v148 c149
                            refine q_iast dX12_nights_169 (kR77 hS133.1 ta97) (ti_in (nR77 hS133.1 ta97) (by omega) (by omega)) hS133 ta97 (iok_w (r := 80) rfl rfl (by have q := ti_nat (i := v125) (by omega); have q2 := ti_nat (i := v125) (by omega); omega) (hS133.1.iv ta146 c149)) rfl (by rfl) ?_
                            intro I151 hS152 e154 f153
                            refine q_iincE dX12_nights_170 hl131 (by decide) (by decide) (by intros; omega) ?_
                            intro v155 h156
                            refine tr_goto 149 dX12_nights_173 (by decide) ?_
                            exact ih135 _ v155 I151 hl126 hl127 hl128 hl129 hl130 rfl hS152 (by omega) (by omega)
                      exact lp135 _ _ v123 I117 hl111 hl112 hl113 hl114 hl115 rfl hS118 (by omega) (Nat.lt_succ_self _)
                    · skip
                      refine tr_aload_n dX12_nights_104 hl111 ?_
                      refine tr_getR dX12_nights_105 fl12_17 (kR15 hS118.1 ta0) d98 ?_
                      refine q_iconst dX12_nights_108 (by decide) ?_
                      intro v157 h158
                      refine q_iconst dX12_nights_109 (by decide) ?_
                      intro v159 h160
                      refine q_iast dX12_nights_110 (kR77 hS118.1 ta97) (ti_in (nR77 hS118.1 ta97) (by omega) (by omega)) hS118 ta97 (iok_w0 rfl (by omega)) rfl (by rfl) ?_
                      intro I161 hS162 e164 f163
                      rw [show v157.toNatClampNeg = 1 from ti_cl (by omega)] at e164
                      refine q_iconst dX12_nights_111 (by decide) ?_
                      intro v165 h166
                      refine tr_istore dX12_nights_112 (by decide) (by decide) ?_
                      have lp181 : ∀ (fu : Nat) (ls : Nat → Option Value) (v167 : Int32) (I175 : cz_I) (v177 : Int32), ls 0 = some (.ref a0) → ls 1 = some (.int x1) → ls 2 = some (.int x2) → ls 3 = some (.int x3) → ls 4 = some (.int v109) → ls 5 = some (.int v110) → ls 6 = some (.int v167) → St T cn K N d wi_X12_nights wr_X12_nights I0 R0 I175 R0 → I175 a97 1 = v177 → v177.toInt = v167.toInt → 0 ≤ v167.toInt → (-v167.toInt + 2147483647).toNat < fu → Tr X mX12_nights 114 ls [] cn K N I175 R0 L0 0 0 := by
                        intro fu
                        induction fu with
                        | zero => intros; rename_i hz; exact absurd hz (Nat.not_lt_zero _)
                        | succ fu ih181 =>
                          intro ls v167 I175 v177 hl168 hl169 hl170 hl171 hl172 hl173 hl174 hS176 c178 g179 g180 hm181
                          have b183 := iv77_1 hS176.1 ta97 (by decide) c178
                          refine tr_iload dX12_nights_114 hl174 ?_
                          refine tr_iload_n dX12_nights_116 hl171 ?_
                          refine q_icmp_ge 131 dX12_nights_117 (by decide) (fun h184 => ?_) (fun h184 => ?_)
                          · skip
                            refine tr_iload dX12_nights_131 hl172 ?_
                            refine tr_aload_n dX12_nights_133 hl168 ?_
                            refine q_callVi hE (M' := mX12_tonight) (as := []) dX12_nights_134 lk12_455 inX12_tonight seX12_tonight myX12_tonight (by decide) ⟨by decide, by decide⟩ rfl (kR15 hS176.1 ta0) (Nat.le_of_ble_eq_true rfl) rfl rfl (by decide) (by decide) (k_X12_tonight hS176.1 ta0 ⟨_, d2⟩) ?_
                            rintro v189 cn' K' N' I185 R186 L187 ⟨rfl, rfl, rfl, rfl, rfl, g188, -⟩
                            have hS190 := hS176.tr g188 (by decide +kernel) (by decide +kernel)
                            have c191 : I185 a97 1 = v177 := (g188.cell ta97 (by decide +kernel)).trans c178
                            refine q_iadd dX12_nights_137 ?_
                            intro v192
                            refine tr_istore dX12_nights_138 (by decide) (by decide) ?_
                            refine q_iincE dX12_nights_140 hl173 (by decide) (by decide) (by intros; omega) ?_
                            intro v193 h194
                            refine tr_goto 98 dX12_nights_143 (by decide) ?_
                            exact ih120 _ v192 v193 I185 hl168 hl169 hl170 hl171 rfl rfl hS190 (by omega) (by omega)
                          · skip
                            refine tr_aload_n dX12_nights_120 hl168 ?_
                            refine q_callVi hE (M' := mX12_draws) (as := []) dX12_nights_121 lk12_504 inX12_draws seX12_draws myX12_draws (by decide) ⟨by decide, by decide⟩ rfl (kR15 hS176.1 ta0) (Nat.le_of_ble_eq_true rfl) rfl rfl (by decide) (by decide) (k_X12_draws hS176.1 ta0 (fun q0 z0 => by obtain rfl := Option.some.inj ((d98).symm.trans z0); (try rw [c178]); (try omega)) ⟨_, d2⟩) ?_
                            rintro v199 cn' K' N' I195 R196 L197 ⟨rfl, rfl, rfl, rfl, rfl, g198, h200, p201, -⟩
                            have hS202 := hS176.tr g198 (by decide +kernel) (by decide +kernel)
                            obtain ⟨v203, c204⟩ : ∃ v, I195 a97 1 = v := ⟨_, rfl⟩
                            have b205 := iv77_1 hS202.1 ta97 (by decide) c204
                            have p206 := p201 _ d98
                            clear p201
                            rw [c204] at p206
                            rw [c178] at p206
                            refine tr_pop dX12_nights_124 rfl ?_
                            refine q_iincE dX12_nights_125 hl174 (by decide) (by decide) (by intros; omega) ?_
                            intro v207 h208
                            refine tr_goto 114 dX12_nights_128 (by decide) ?_
                            exact ih181 _ v207 I195 v203 hl168 hl169 hl170 hl171 hl172 hl173 rfl hS202 c204 (by omega) (by omega) (by omega)
                      exact lp181 _ _ v165 I161 v159 hl111 hl112 hl113 hl114 hl115 hl116 rfl hS162 e164 (by omega) (by omega) (Nat.lt_succ_self _)
                exact lp120 _ _ v105 v107 I101 hl84 hl85 hl86 hl87 rfl rfl hS102 (by omega) (Nat.lt_succ_self _)
              · skip
                refine tr_aload_n dX12_nights_65 hl84 ?_
                obtain ⟨a209, d210, ta209⟩ := rf15_35 hW0 ta0
                refine tr_getR dX12_nights_66 fl12_67 (kR15 hS90.1 ta0) d210 ?_
                refine tr_iload dX12_nights_69 hl88 ?_
                refine tr_aload_n dX12_nights_71 hl84 ?_
                obtain ⟨a211, d212, ta211⟩ := rf15_16 hW0 ta0
                refine tr_getR dX12_nights_72 fl12_17 (kR15 hS90.1 ta0) d212 ?_
                refine tr_iload dX12_nights_75 hl88 ?_
                refine q_iald dX12_nights_77 (kR77 hS90.1 ta211) (ti_in (nR77 hS90.1 ta211) (by omega) (by omega)) ?_
                intro v213 c214
                refine q_iast dX12_nights_78 (kR80 hS90.1 ta209) (ti_in (nR80 hS90.1 ta209) (by omega) (by omega)) hS90 ta209 (iok_w (r := 77) rfl rfl (by have q := ti_nat (i := v83) (by omega); have q2 := ti_nat (i := v83) (by omega); omega) (hS90.1.iv ta211 c214)) rfl (by rfl) ?_
                intro I216 hS217 e219 f218
                refine q_iincE dX12_nights_79 hl88 (by decide) (by decide) (by intros; omega) ?_
                intro v220 h221
                refine tr_goto 58 dX12_nights_82 (by decide) ?_
                exact ih92 _ v220 I216 hl84 hl85 hl86 hl87 rfl hS217 (by omega) (by omega)
          exact lp92 _ _ v81 I20 rfl rfl rfl rfl rfl hS21 (by omega) (Nat.lt_succ_self _)
        · skip
          refine tr_aload_n dX12_nights_49 rfl ?_
          refine q_iconst dX12_nights_50 (by decide) ?_
          intro v222 h223
          refine q_callVi hE (M' := mX12_lost) (as := [_]) dX12_nights_51 lk12_458 inX12_lost seX12_lost myX12_lost (by decide) ⟨by decide, by decide⟩ rfl (kR15 hS21.1 ta0) (Nat.le_of_ble_eq_true rfl) rfl rfl (by decide) (by decide) (k_X12_lost hS21.1 ta0) ?_
          rintro v228 cn' K' N' I224 R225 L226 ⟨rfl, rfl, rfl, rfl, rfl, g227, -⟩
          have hS229 := hS21.tr g227 (by decide +kernel) (by decide +kernel)
          have c230 : I224 a0 0 = v18 := (g227.cell ta0 (by decide +kernel)).trans e22
          exact tr_iret hZ dX12_nights_54 rfl (by decide) (by decide) ⟨v228, rfl, rfl, rfl, rfl, rfl, rfl, hS229, trivial⟩
def wi_X12_denied : List Nat := [961, 962]
def wr_X12_denied : List Nat := []
set_option maxHeartbeats 4000000 in
theorem k_X12_denied {l : Launch} {T : Nat → Nat} {cn : Nat} {K N : Nat → Nat} {I0 : cz_I} {R0 : cz_R} {L0 : cz_L} {d : Int} (hW0 : Wf T cn K N I0 R0 d) {a0 : Nat} (ta0 : T a0 = 15) {x1 : Int32} : ConE l mX12_denied [.ref a0, .int x1] cn K N I0 R0 L0 (ca_i (fun v cn' K' N' I' R' L' => cn = cn' ∧ K = K' ∧ N = N' ∧ R0 = R' ∧ L0 = L' ∧ St T cn K N d wi_X12_denied wr_X12_denied I0 R0 I' R0 ∧ (0 ≤ v.toInt ∧ v.toInt ≤ 1) ∧ True)) := by
  refine ConE.of (by decide +kernel) rfl (Nat.le_of_ble_eq_true rfl) rfl (fun X hX hZ hE => ?_)
  subst hX
  have hS0 : St T cn K N d wi_X12_denied wr_X12_denied I0 R0 I0 R0 := St.rf0 hW0
  refine tr_aload_n dX12_denied_0 rfl ?_
  refine tr_iload_n dX12_denied_1 rfl ?_
  refine q_callVi hE (M' := mX12_refused) (as := [_]) dX12_denied_2 lk12_76 inX12_refused seX12_refused myX12_refused (by decide) ⟨by decide, by decide⟩ rfl (kR15 hS0.1 ta0) (Nat.le_of_ble_eq_true rfl) rfl rfl (by decide) (by decide) (k_X12_refused hS0.1 ta0) ?_
  rintro v5 cn' K' N' I1 R2 L3 ⟨rfl, rfl, rfl, rfl, rfl, g4, -⟩
  have hS6 := hS0.tr g4 (by decide +kernel) (by decide +kernel)
  refine tr_pop dX12_denied_5 rfl ?_
  refine q_iconst dX12_denied_6 (by decide) ?_
  intro v7 h8
  exact tr_zret hZ dX12_denied_7 rfl (ti_b01 (by omega) (by omega)) (by decide) (by decide) ⟨v7, rfl, rfl, rfl, rfl, rfl, rfl, hS6, (by omega), trivial⟩
def wi_X12_keeps : List Nat := [979, 5055]
def wr_X12_keeps : List Nat := []
set_option maxHeartbeats 4000000 in
theorem k_X12_keeps {l : Launch} {T : Nat → Nat} {cn : Nat} {K N : Nat → Nat} {I0 : cz_I} {R0 : cz_R} {L0 : cz_L} {d : Int} (hW0 : Wf T cn K N I0 R0 d) {a0 : Nat} (ta0 : T a0 = 15) : ConE l mX12_keeps [.ref a0] cn K N I0 R0 L0 (ca_v (fun cn' K' N' I' R' L' => cn = cn' ∧ K = K' ∧ N = N' ∧ R0 = R' ∧ L0 = L' ∧ St T cn K N d wi_X12_keeps wr_X12_keeps I0 R0 I' R0 ∧ True)) := by
  refine ConE.of (by decide +kernel) rfl (Nat.le_of_ble_eq_true rfl) rfl (fun X hX hZ hE => ?_)
  subst hX
  have hS0 : St T cn K N d wi_X12_keeps wr_X12_keeps I0 R0 I0 R0 := St.rf0 hW0
  refine tr_aload_n dX12_keeps_0 rfl ?_
  obtain ⟨v1, c2⟩ : ∃ v, I0 a0 19 = v := ⟨_, rfl⟩
  have b3 := iv15_19 hS0.1 ta0 c2
  refine q_getI dX12_keeps_1 fl12_387 (kR15 hS0.1 ta0) c2 ?_
  refine q_bipush dX12_keeps_4 (by decide +kernel) ?_
  intro v4 h5
  refine q_icmp_ne 49 dX12_keeps_6 (by decide) (fun h6 => ?_) (fun h6 => ?_)
  · skip
    refine q_iconst dX12_keeps_49 (by decide) ?_
    intro v7 h8
    refine tr_istore_n dX12_keeps_50 (by decide) (by decide) ?_
    have lp18 : ∀ (fu : Nat) (ls : Nat → Option Value) (v9 : Int32) (I12 : cz_I) (v14 : Int32), ls 0 = some (.ref a0) → ls 1 = some (.int v9) → St T cn K N d wi_X12_keeps wr_X12_keeps I0 R0 I12 R0 → I12 a0 19 = v14 → v14.toInt ≤ 11 → 0 ≤ v9.toInt → (-v9.toInt + 2147483647).toNat < fu → Tr X mX12_keeps 51 ls [] cn K N I12 R0 L0 0 0 := by
      intro fu
      induction fu with
      | zero => intros; rename_i hz; exact absurd hz (Nat.not_lt_zero _)
      | succ fu ih18 =>
        intro ls v9 I12 v14 hl10 hl11 hS13 c15 g16 g17 hm18
        have b20 := iv15_19 hS13.1 ta0 c15
        refine tr_iload_n dX12_keeps_51 hl11 ?_
        refine q_bipush dX12_keeps_52 (by decide +kernel) ?_
        intro v21 h22
        refine q_icmp_ge 83 dX12_keeps_54 (by decide) (fun h23 => ?_) (fun h23 => ?_)
        · skip
          refine tr_aload_n dX12_keeps_83 hl10 ?_
          refine tr_dup dX12_keeps_84 rfl ?_
          refine q_getI dX12_keeps_85 fl12_387 (kR15 hS13.1 ta0) c15 ?_
          refine q_iconst dX12_keeps_88 (by decide) ?_
          intro v24 h25
          refine q_iaddE dX12_keeps_89 (by intros; omega) ?_
          intro v26 h27
          refine q_putI dX12_keeps_90 fl12_387 (kR15 hS13.1 ta0) (Or.inl rfl) hS13 ta0 (by show (0 : Int) ≤ v26.toInt ∧ v26.toInt ≤ (12 : Int); omega) rfl (by decide +kernel) ?_
          intro I28 hS29 e30 f31
          exact tr_vret hZ dX12_keeps_93 rfl (by decide) (by decide) ⟨rfl, rfl, rfl, rfl, rfl, rfl, hS29, trivial⟩
        · skip
          refine tr_aload_n dX12_keeps_57 hl10 ?_
          obtain ⟨a32, d33, ta32⟩ := rf15_17 hW0 ta0
          refine tr_getR dX12_keeps_58 fl12_21 (kR15 hS13.1 ta0) d33 ?_
          refine q_bipush dX12_keeps_61 (by decide +kernel) ?_
          intro v34 h35
          refine tr_aload_n dX12_keeps_63 hl10 ?_
          refine q_getI dX12_keeps_64 fl12_387 (kR15 hS13.1 ta0) c15 ?_
          refine q_imulE (c := 15) dX12_keeps_67 (by omega) (by omega) ?_
          intro v36 h37
          refine tr_iload_n dX12_keeps_68 hl11 ?_
          refine q_iaddE dX12_keeps_69 (by intros; omega) ?_
          intro v38 h39
          refine tr_aload_n dX12_keeps_70 hl10 ?_
          obtain ⟨a40, d41, ta40⟩ := rf15_16 hW0 ta0
          refine tr_getR dX12_keeps_71 fl12_17 (kR15 hS13.1 ta0) d41 ?_
          refine tr_iload_n dX12_keeps_74 hl11 ?_
          refine q_iald dX12_keeps_75 (kR77 hS13.1 ta40) (ti_in (nR77 hS13.1 ta40) (by omega) (by omega)) ?_
          intro v42 c43
          refine q_iast dX12_keeps_76 (kR78 hS13.1 ta32) (ti_in (nR78 hS13.1 ta32) (by omega) (by omega)) hS13 ta32 (iok_w (r := 77) rfl rfl (by have q := ti_nat (i := v38) (by omega); have q2 := ti_nat (i := v9) (by omega); omega) (hS13.1.iv ta40 c43)) rfl (by rfl) ?_
          intro I45 hS46 e48 f47
          have c49 : I45 a0 19 = v14 := (f47 _ _ (fun q => by have z := ta0; rw [q.1, ta32] at z; exact absurd z (by decide))).trans c15
          refine q_iincE dX12_keeps_77 hl11 (by decide) (by decide) (by intros; omega) ?_
          intro v50 h51
          refine tr_goto 51 dX12_keeps_80 (by decide) ?_
          exact ih18 _ v50 I45 v14 hl10 rfl hS46 c49 (by omega) (by omega) (by omega)
    exact lp18 _ _ v7 I0 v1 rfl rfl hS0 c2 (by omega) (by omega) (Nat.lt_succ_self _)
  · skip
    refine q_iconst dX12_keeps_9 (by decide) ?_
    intro v52 h53
    refine tr_istore_n dX12_keeps_10 (by decide) (by decide) ?_
    have lp63 : ∀ (fu : Nat) (ls : Nat → Option Value) (v54 : Int32) (I57 : cz_I) (v59 : Int32), ls 0 = some (.ref a0) → ls 1 = some (.int v54) → St T cn K N d wi_X12_keeps wr_X12_keeps I0 R0 I57 R0 → I57 a0 19 = v59 → v59.toInt = 12 → 0 ≤ v54.toInt → (-v54.toInt + 2147483647).toNat < fu → Tr X mX12_keeps 11 ls [] cn K N I57 R0 L0 0 0 := by
      intro fu
      induction fu with
      | zero => intros; rename_i hz; exact absurd hz (Nat.not_lt_zero _)
      | succ fu ih63 =>
        intro ls v54 I57 v59 hl55 hl56 hS58 c60 g61 g62 hm63
        have b65 := iv15_19 hS58.1 ta0 c60
        refine tr_iload_n dX12_keeps_11 hl56 ?_
        refine q_sipush dX12_keeps_12 (by decide +kernel) ?_
        intro v66 h67
        refine q_icmp_ge 39 dX12_keeps_15 (by decide) (fun h68 => ?_) (fun h68 => ?_)
        · skip
          refine tr_aload_n dX12_keeps_39 hl55 ?_
          refine tr_dup dX12_keeps_40 rfl ?_
          refine q_getI dX12_keeps_41 fl12_387 (kR15 hS58.1 ta0) c60 ?_
          refine q_iconst dX12_keeps_44 (by decide) ?_
          intro v69 h70
          refine q_isubE dX12_keeps_45 (by intros; omega) ?_
          intro v71 h72
          refine q_putI dX12_keeps_46 fl12_387 (kR15 hS58.1 ta0) (Or.inl rfl) hS58 ta0 (by show (0 : Int) ≤ v71.toInt ∧ v71.toInt ≤ (12 : Int); omega) rfl (by decide +kernel) ?_
          intro I73 hS74 e75 f76
          refine q_iconst dX12_keeps_49 (by decide) ?_
          intro v77 h78
          refine tr_istore_n dX12_keeps_50 (by decide) (by decide) ?_
          have lp88 : ∀ (fu : Nat) (ls : Nat → Option Value) (v79 : Int32) (I82 : cz_I) (v84 : Int32), ls 0 = some (.ref a0) → ls 1 = some (.int v79) → St T cn K N d wi_X12_keeps wr_X12_keeps I0 R0 I82 R0 → I82 a0 19 = v84 → v84.toInt ≤ 11 → 0 ≤ v79.toInt → (-v79.toInt + 2147483647).toNat < fu → Tr X mX12_keeps 51 ls [] cn K N I82 R0 L0 0 0 := by
            intro fu
            induction fu with
            | zero => intros; rename_i hz; exact absurd hz (Nat.not_lt_zero _)
            | succ fu ih88 =>
              intro ls v79 I82 v84 hl80 hl81 hS83 c85 g86 g87 hm88
              have b90 := iv15_19 hS83.1 ta0 c85
              refine tr_iload_n dX12_keeps_51 hl81 ?_
              refine q_bipush dX12_keeps_52 (by decide +kernel) ?_
              intro v91 h92
              refine q_icmp_ge 83 dX12_keeps_54 (by decide) (fun h93 => ?_) (fun h93 => ?_)
              · skip
                refine tr_aload_n dX12_keeps_83 hl80 ?_
                refine tr_dup dX12_keeps_84 rfl ?_
                refine q_getI dX12_keeps_85 fl12_387 (kR15 hS83.1 ta0) c85 ?_
                refine q_iconst dX12_keeps_88 (by decide) ?_
                intro v94 h95
                refine q_iaddE dX12_keeps_89 (by intros; omega) ?_
                intro v96 h97
                refine q_putI dX12_keeps_90 fl12_387 (kR15 hS83.1 ta0) (Or.inl rfl) hS83 ta0 (by show (0 : Int) ≤ v96.toInt ∧ v96.toInt ≤ (12 : Int); omega) rfl (by decide +kernel) ?_
                intro I98 hS99 e100 f101
                exact tr_vret hZ dX12_keeps_93 rfl (by decide) (by decide) ⟨rfl, rfl, rfl, rfl, rfl, rfl, hS99, trivial⟩
              · skip
                refine tr_aload_n dX12_keeps_57 hl80 ?_
                obtain ⟨a102, d103, ta102⟩ := rf15_17 hW0 ta0
                refine tr_getR dX12_keeps_58 fl12_21 (kR15 hS83.1 ta0) d103 ?_
                refine q_bipush dX12_keeps_61 (by decide +kernel) ?_
                intro v104 h105
                refine tr_aload_n dX12_keeps_63 hl80 ?_
                refine q_getI dX12_keeps_64 fl12_387 (kR15 hS83.1 ta0) c85 ?_
                refine q_imulE (c := 15) dX12_keeps_67 (by omega) (by omega) ?_
                intro v106 h107
                refine tr_iload_n dX12_keeps_68 hl81 ?_
                refine q_iaddE dX12_keeps_69 (by intros; omega) ?_
                intro v108 h109
                refine tr_aload_n dX12_keeps_70 hl80 ?_
                obtain ⟨a110, d111, ta110⟩ := rf15_16 hW0 ta0
                refine tr_getR dX12_keeps_71 fl12_17 (kR15 hS83.1 ta0) d111 ?_
                refine tr_iload_n dX12_keeps_74 hl81 ?_
                refine q_iald dX12_keeps_75 (kR77 hS83.1 ta110) (ti_in (nR77 hS83.1 ta110) (by omega) (by omega)) ?_
                intro v112 c113
                refine q_iast dX12_keeps_76 (kR78 hS83.1 ta102) (ti_in (nR78 hS83.1 ta102) (by omega) (by omega)) hS83 ta102 (iok_w (r := 77) rfl rfl (by have q := ti_nat (i := v108) (by omega); have q2 := ti_nat (i := v79) (by omega); omega) (hS83.1.iv ta110 c113)) rfl (by rfl) ?_
                intro I115 hS116 e118 f117
                have c119 : I115 a0 19 = v84 := (f117 _ _ (fun q => by have z := ta0; rw [q.1, ta102] at z; exact absurd z (by decide))).trans c85
                refine q_iincE dX12_keeps_77 hl81 (by decide) (by decide) (by intros; omega) ?_
                intro v120 h121
                refine tr_goto 51 dX12_keeps_80 (by decide) ?_
                exact ih88 _ v120 I115 v84 hl80 rfl hS116 c119 (by omega) (by omega) (by omega)
          exact lp88 _ _ v77 I73 v71 hl55 rfl hS74 e75 (by omega) (by omega) (Nat.lt_succ_self _)
        · skip
          refine tr_aload_n dX12_keeps_18 hl55 ?_
          obtain ⟨a122, d123, ta122⟩ := rf15_17 hW0 ta0
          refine tr_getR dX12_keeps_19 fl12_21 (kR15 hS58.1 ta0) d123 ?_
          refine tr_iload_n dX12_keeps_22 hl56 ?_
          refine tr_aload_n dX12_keeps_23 hl55 ?_
          refine tr_getR dX12_keeps_24 fl12_21 (kR15 hS58.1 ta0) d123 ?_
          refine tr_iload_n dX12_keeps_27 hl56 ?_
          refine q_bipush dX12_keeps_28 (by decide +kernel) ?_
          intro v124 h125
          refine q_iaddE dX12_keeps_30 (by intros; omega) ?_
          intro v126 h127
          refine q_iald dX12_keeps_31 (kR78 hS58.1 ta122) (ti_in (nR78 hS58.1 ta122) (by omega) (by omega)) ?_
          intro v128 c129
          refine q_iast dX12_keeps_32 (kR78 hS58.1 ta122) (ti_in (nR78 hS58.1 ta122) (by omega) (by omega)) hS58 ta122 (iok_w (r := 78) rfl rfl (by have q := ti_nat (i := v54) (by omega); have q2 := ti_nat (i := v126) (by omega); omega) (hS58.1.iv ta122 c129)) rfl (by rfl) ?_
          intro I131 hS132 e134 f133
          have c135 : I131 a0 19 = v59 := (f133 _ _ (fun q => by have z := ta0; rw [q.1, ta122] at z; exact absurd z (by decide))).trans c60
          refine q_iincE dX12_keeps_33 hl56 (by decide) (by decide) (by intros; omega) ?_
          intro v136 h137
          refine tr_goto 11 dX12_keeps_36 (by decide) ?_
          exact ih63 _ v136 I131 v59 hl55 rfl hS132 c135 (by omega) (by omega) (by omega)
    exact lp63 _ _ v52 I0 v1 rfl rfl hS0 c2 (by omega) (by omega) (Nat.lt_succ_self _)
def wi_X12_granted : List Nat := [961, 962]
def wr_X12_granted : List Nat := []
set_option maxHeartbeats 4000000 in
theorem k_X12_granted {l : Launch} {T : Nat → Nat} {cn : Nat} {K N : Nat → Nat} {I0 : cz_I} {R0 : cz_R} {L0 : cz_L} {d : Int} (hW0 : Wf T cn K N I0 R0 d) {a0 : Nat} (ta0 : T a0 = 15) : ConE l mX12_granted [.ref a0] cn K N I0 R0 L0 (ca_i (fun v cn' K' N' I' R' L' => cn = cn' ∧ K = K' ∧ N = N' ∧ R0 = R' ∧ L0 = L' ∧ St T cn K N d wi_X12_granted wr_X12_granted I0 R0 I' R0 ∧ (0 ≤ v.toInt ∧ v.toInt ≤ 1) ∧ True)) := by
  refine ConE.of (by decide +kernel) rfl (Nat.le_of_ble_eq_true rfl) rfl (fun X hX hZ hE => ?_)
  subst hX
  have hS0 : St T cn K N d wi_X12_granted wr_X12_granted I0 R0 I0 R0 := St.rf0 hW0
  refine tr_aload_n dX12_granted_0 rfl ?_
  refine q_iconst dX12_granted_1 (by decide) ?_
  intro v1 h2
  refine q_callVi hE (M' := mX12_good) (as := [_]) dX12_granted_2 lk12_81 inX12_good seX12_good myX12_good (by decide) ⟨by decide, by decide⟩ rfl (kR15 hS0.1 ta0) (Nat.le_of_ble_eq_true rfl) rfl rfl (by decide) (by decide) (k_X12_good hS0.1 ta0) ?_
  rintro v7 cn' K' N' I3 R4 L5 ⟨rfl, rfl, rfl, rfl, rfl, g6, -⟩
  have hS8 := hS0.tr g6 (by decide +kernel) (by decide +kernel)
  refine tr_pop dX12_granted_5 rfl ?_
  refine q_iconst dX12_granted_6 (by decide) ?_
  intro v9 h10
  exact tr_zret hZ dX12_granted_7 rfl (ti_b01 (by omega) (by omega)) (by decide) (by decide) ⟨v9, rfl, rfl, rfl, rfl, rfl, rfl, hS8, (by omega), trivial⟩
def wi_X12_call : List Nat := [960, 961, 962, 979, 4991, 5055]
def wr_X12_call : List Nat := []
set_option maxHeartbeats 4000000 in
theorem k_X12_call {l : Launch} {T : Nat → Nat} {cn : Nat} {K N : Nat → Nat} {I0 : cz_I} {R0 : cz_R} {L0 : cz_L} {d : Int} (hW0 : Wf T cn K N I0 R0 d) {a0 : Nat} (ta0 : T a0 = 15) {x1 : Int32} {x2 : Int32} : ConE l mX12_call [.ref a0, .int x1, .int x2] cn K N I0 R0 L0 (ca_i (fun v cn' K' N' I' R' L' => cn = cn' ∧ K = K' ∧ N = N' ∧ R0 = R' ∧ L0 = L' ∧ St T cn K N d wi_X12_call wr_X12_call I0 R0 I' R0 ∧ (0 ≤ v.toInt ∧ v.toInt ≤ 1) ∧ True)) := by
  refine ConE.of (by decide +kernel) rfl (Nat.le_of_ble_eq_true rfl) rfl (fun X hX hZ hE => ?_)
  subst hX
  have hS0 : St T cn K N d wi_X12_call wr_X12_call I0 R0 I0 R0 := St.rf0 hW0
  rcases rf15_3 hW0 ta0 with d2 | ⟨a1, d2, ta1⟩
  · skip
    refine tr_aload_n dX12_call_0 rfl ?_
    refine q_iconst dX12_call_1 (by decide) ?_
    intro v3 h4
    refine q_putI dX12_call_2 fl12_70 (kR15 hS0.1 ta0) (Or.inl rfl) hS0 ta0 (iokF rfl) rfl (by decide +kernel) ?_
    intro I5 hS6 e7 f8
    refine tr_aload_n dX12_call_5 rfl ?_
    refine tr_getN dX12_call_6 fl12_385 (kR15 hS6.1 ta0) d2 ?_
    refine tr_ifnullN 27 dX12_call_9 (by decide) ?_
    refine tr_aload_n dX12_call_27 rfl ?_
    refine q_iconst dX12_call_28 (by decide) ?_
    intro v9 h10
    refine q_callVi hE (M' := mX12_denied) (as := [_]) dX12_call_29 lk12_507 inX12_denied seX12_denied myX12_denied (by decide) ⟨by decide, by decide⟩ rfl (kR15 hS6.1 ta0) (Nat.le_of_ble_eq_true rfl) rfl rfl (by decide) (by decide) (k_X12_denied hS6.1 ta0) ?_
    rintro v15 cn' K' N' I11 R12 L13 ⟨rfl, rfl, rfl, rfl, rfl, g14, h16, -⟩
    have hS17 := hS6.tr g14 (by decide +kernel) (by decide +kernel)
    have c18 : I11 a0 0 = v3 := (g14.cell ta0 (by decide +kernel)).trans e7
    exact tr_zret hZ dX12_call_32 rfl (ti_b01 (by omega) (by omega)) (by decide) (by decide) ⟨v15, rfl, rfl, rfl, rfl, rfl, rfl, hS17, (by omega), trivial⟩
  · skip
    refine tr_aload_n dX12_call_0 rfl ?_
    refine q_iconst dX12_call_1 (by decide) ?_
    intro v19 h20
    refine q_putI dX12_call_2 fl12_70 (kR15 hS0.1 ta0) (Or.inl rfl) hS0 ta0 (iokF rfl) rfl (by decide +kernel) ?_
    intro I21 hS22 e23 f24
    refine tr_aload_n dX12_call_5 rfl ?_
    refine tr_getR dX12_call_6 fl12_385 (kR15 hS22.1 ta0) d2 ?_
    refine tr_ifnull dX12_call_9 ?_
    refine tr_iload_n dX12_call_12 rfl ?_
    refine q_if_lt 27 dX12_call_13 (by decide) (fun h25 => ?_) (fun h25 => ?_)
    · skip
      refine tr_aload_n dX12_call_27 rfl ?_
      refine q_iconst dX12_call_28 (by decide) ?_
      intro v26 h27
      refine q_callVi hE (M' := mX12_denied) (as := [_]) dX12_call_29 lk12_507 inX12_denied seX12_denied myX12_denied (by decide) ⟨by decide, by decide⟩ rfl (kR15 hS22.1 ta0) (Nat.le_of_ble_eq_true rfl) rfl rfl (by decide) (by decide) (k_X12_denied hS22.1 ta0) ?_
      rintro v32 cn' K' N' I28 R29 L30 ⟨rfl, rfl, rfl, rfl, rfl, g31, h33, -⟩
      have hS34 := hS22.tr g31 (by decide +kernel) (by decide +kernel)
      have c35 : I28 a0 0 = v19 := (g31.cell ta0 (by decide +kernel)).trans e23
      exact tr_zret hZ dX12_call_32 rfl (ti_b01 (by omega) (by omega)) (by decide) (by decide) ⟨v32, rfl, rfl, rfl, rfl, rfl, rfl, hS34, (by omega), trivial⟩
    · skip
      refine tr_iload_n dX12_call_16 rfl ?_
      refine tr_aload_n dX12_call_17 rfl ?_
      refine tr_getR dX12_call_18 fl12_385 (kR15 hS22.1 ta0) d2 ?_
      obtain ⟨v36, c37⟩ : ∃ v, I0 a1 5 = v := ⟨_, rfl⟩
      have b38 := iv14_5 hW0 ta1 c37
      refine q_getI dX12_call_21 fl12_349 (kR14 hS22.1 ta1) ((hS22.cell ta1 (by decide +kernel)).trans c37) ?_
      refine q_icmp_lt 33 dX12_call_24 (by decide) (fun h39 => ?_) (fun h39 => ?_)
      · skip
        refine tr_aload_n dX12_call_33 rfl ?_
        obtain ⟨a40, d41, ta40⟩ := rf15_16 hW0 ta0
        refine tr_getR dX12_call_34 fl12_17 (kR15 hS22.1 ta0) d41 ?_
        refine q_iconst dX12_call_37 (by decide) ?_
        intro v42 h43
        obtain ⟨v44, c45⟩ : ∃ v, I21 a40 0 = v := ⟨_, rfl⟩
        refine q_iald dX12_call_38 (kR77 hS22.1 ta40) (ti_in (nR77 hS22.1 ta40) (by omega) (by omega)) ?_
        intro v46 c47
        rw [show v42.toNatClampNeg = 0 from ti_cl (by omega)] at c47
        obtain rfl : v44 = v46 := (c45).symm.trans c47
        refine tr_iload_n dX12_call_39 rfl ?_
        refine q_callSi hE (M' := mX12_has) (as := [_, _]) dX12_call_40 lk12_329 inX12_has myX12_has ⟨by decide, by decide⟩ rfl (Nat.le_of_ble_eq_true rfl) rfl rfl (by decide) (by decide) (k_X12_has hS22.1 ) ?_
        rintro v52 cn' K' N' I48 R49 L50 ⟨rfl, rfl, rfl, rfl, rfl, rfl, h53, -⟩
        refine tr_iload_n dX12_call_43 rfl ?_
        refine q_icmp_ne 53 dX12_call_44 (by decide) (fun h54 => ?_) (fun h54 => ?_)
        · skip
          refine tr_aload_n dX12_call_53 rfl ?_
          refine q_callVv hE (M' := mX12_keeps) (as := []) dX12_call_54 lk12_510 inX12_keeps seX12_keeps myX12_keeps (by decide) ⟨by decide, by decide⟩ rfl (kR15 hS22.1 ta0) (Nat.le_of_ble_eq_true rfl) rfl rfl (by decide) (by decide) (k_X12_keeps hS22.1 ta0) ?_
          rintro cn' K' N' I55 R56 L57 ⟨rfl, rfl, rfl, rfl, rfl, g58, -⟩
          have hS60 := hS22.tr g58 (by decide +kernel) (by decide +kernel)
          have c61 : I55 a0 0 = v19 := (g58.cell ta0 (by decide +kernel)).trans e23
          have c62 : I55 a40 0 = v44 := (g58.cell ta40 (by decide +kernel)).trans c45
          refine tr_aload_n dX12_call_57 rfl ?_
          refine tr_getR dX12_call_58 fl12_17 (kR15 hS60.1 ta0) d41 ?_
          refine q_iconst dX12_call_61 (by decide) ?_
          intro v63 h64
          refine tr_dup2 dX12_call_62 rfl rfl ?_
          refine q_iald dX12_call_63 (kR77 hS60.1 ta40) (ti_in (nR77 hS60.1 ta40) (by omega) (by omega)) ?_
          intro v65 c66
          rw [show v63.toNatClampNeg = 0 from ti_cl (by omega)] at c66
          obtain rfl : v44 = v65 := (c62).symm.trans c66
          refine q_iconst dX12_call_64 (by decide) ?_
          intro v67 h68
          refine tr_iload_n dX12_call_65 rfl ?_
          refine q_ishlE dX12_call_66 (by omega) (by omega) ?_
          intro v69 h70
          refine q_ixor dX12_call_67 ?_
          intro v71
          refine q_iast dX12_call_68 (kR77 hS60.1 ta40) (ti_in (nR77 hS60.1 ta40) (by omega) (by omega)) hS60 ta40 (iok_wF rfl (by have q := ti_nat (i := v63) (by omega); omega)) rfl (by rfl) ?_
          intro I72 hS73 e75 f74
          have c76 : I72 a0 0 = v19 := (f74 _ _ (fun q => by have z := ta0; rw [q.1, ta40] at z; exact absurd z (by decide))).trans c61
          rw [show v63.toNatClampNeg = 0 from ti_cl (by omega)] at e75
          refine tr_aload_n dX12_call_69 rfl ?_
          refine q_callVi hE (M' := mX12_granted) (as := []) dX12_call_70 lk12_513 inX12_granted seX12_granted myX12_granted (by decide) ⟨by decide, by decide⟩ rfl (kR15 hS73.1 ta0) (Nat.le_of_ble_eq_true rfl) rfl rfl (by decide) (by decide) (k_X12_granted hS73.1 ta0) ?_
          rintro v81 cn' K' N' I77 R78 L79 ⟨rfl, rfl, rfl, rfl, rfl, g80, h82, -⟩
          have hS83 := hS73.tr g80 (by decide +kernel) (by decide +kernel)
          have c84 : I77 a0 0 = v19 := (g80.cell ta0 (by decide +kernel)).trans c76
          have c85 : I77 a40 0 = v71 := (g80.cell ta40 (by decide +kernel)).trans e75
          exact tr_zret hZ dX12_call_73 rfl (ti_b01 (by omega) (by omega)) (by decide) (by decide) ⟨v81, rfl, rfl, rfl, rfl, rfl, rfl, hS83, (by omega), trivial⟩
        · skip
          refine tr_aload_n dX12_call_47 rfl ?_
          refine q_iconst dX12_call_48 (by decide) ?_
          intro v86 h87
          refine q_callVi hE (M' := mX12_denied) (as := [_]) dX12_call_49 lk12_507 inX12_denied seX12_denied myX12_denied (by decide) ⟨by decide, by decide⟩ rfl (kR15 hS22.1 ta0) (Nat.le_of_ble_eq_true rfl) rfl rfl (by decide) (by decide) (k_X12_denied hS22.1 ta0) ?_
          rintro v92 cn' K' N' I88 R89 L90 ⟨rfl, rfl, rfl, rfl, rfl, g91, h93, -⟩
          have hS94 := hS22.tr g91 (by decide +kernel) (by decide +kernel)
          have c95 : I88 a0 0 = v19 := (g91.cell ta0 (by decide +kernel)).trans e23
          have c96 : I88 a40 0 = v44 := (g91.cell ta40 (by decide +kernel)).trans c45
          exact tr_zret hZ dX12_call_52 rfl (ti_b01 (by omega) (by omega)) (by decide) (by decide) ⟨v92, rfl, rfl, rfl, rfl, rfl, rfl, hS94, (by omega), trivial⟩
      · skip
        refine tr_aload_n dX12_call_27 rfl ?_
        refine q_iconst dX12_call_28 (by decide) ?_
        intro v97 h98
        refine q_callVi hE (M' := mX12_denied) (as := [_]) dX12_call_29 lk12_507 inX12_denied seX12_denied myX12_denied (by decide) ⟨by decide, by decide⟩ rfl (kR15 hS22.1 ta0) (Nat.le_of_ble_eq_true rfl) rfl rfl (by decide) (by decide) (k_X12_denied hS22.1 ta0) ?_
        rintro v103 cn' K' N' I99 R100 L101 ⟨rfl, rfl, rfl, rfl, rfl, g102, h104, -⟩
        have hS105 := hS22.tr g102 (by decide +kernel) (by decide +kernel)
        have c106 : I99 a0 0 = v19 := (g102.cell ta0 (by decide +kernel)).trans e23
        exact tr_zret hZ dX12_call_32 rfl (ti_b01 (by omega) (by omega)) (by decide) (by decide) ⟨v103, rfl, rfl, rfl, rfl, rfl, rfl, hS105, (by omega), trivial⟩
def wi_X12_calls : List Nat := [960, 961, 962]
def wr_X12_calls : List Nat := []
set_option maxHeartbeats 4000000 in
theorem k_X12_calls {l : Launch} {T : Nat → Nat} {cn : Nat} {K N : Nat → Nat} {I0 : cz_I} {R0 : cz_R} {L0 : cz_L} {d : Int} (hW0 : Wf T cn K N I0 R0 d) {a0 : Nat} (ta0 : T a0 = 15) : ConE l mX12_calls [.ref a0] cn K N I0 R0 L0 (ca_i (fun v cn' K' N' I' R' L' => cn = cn' ∧ K = K' ∧ N = N' ∧ R0 = R' ∧ L0 = L' ∧ St T cn K N d wi_X12_calls wr_X12_calls I0 R0 I' R0 ∧ True)) := by
  refine ConE.of (by decide +kernel) rfl (Nat.le_of_ble_eq_true rfl) rfl (fun X hX hZ hE => ?_)
  subst hX
  have hS0 : St T cn K N d wi_X12_calls wr_X12_calls I0 R0 I0 R0 := St.rf0 hW0
  rcases rf15_3 hW0 ta0 with d2 | ⟨a1, d2, ta1⟩
  · skip
    refine tr_aload_n dX12_calls_0 rfl ?_
    refine q_iconst dX12_calls_1 (by decide) ?_
    intro v3 h4
    refine q_putI dX12_calls_2 fl12_70 (kR15 hS0.1 ta0) (Or.inl rfl) hS0 ta0 (iokF rfl) rfl (by decide +kernel) ?_
    intro I5 hS6 e7 f8
    refine tr_aload_n dX12_calls_5 rfl ?_
    refine tr_getN dX12_calls_6 fl12_385 (kR15 hS6.1 ta0) d2 ?_
    refine tr_ifnonnullN dX12_calls_9 ?_
    refine tr_aload_n dX12_calls_12 rfl ?_
    refine q_iconst dX12_calls_13 (by decide) ?_
    intro v9 h10
    refine q_callVi hE (M' := mX12_refused) (as := [_]) dX12_calls_14 lk12_76 inX12_refused seX12_refused myX12_refused (by decide) ⟨by decide, by decide⟩ rfl (kR15 hS6.1 ta0) (Nat.le_of_ble_eq_true rfl) rfl rfl (by decide) (by decide) (k_X12_refused hS6.1 ta0) ?_
    rintro v15 cn' K' N' I11 R12 L13 ⟨rfl, rfl, rfl, rfl, rfl, g14, -⟩
    have hS16 := hS6.tr g14 (by decide +kernel) (by decide +kernel)
    have c17 : I11 a0 0 = v3 := (g14.cell ta0 (by decide +kernel)).trans e7
    refine tr_goto 30 dX12_calls_17 (by decide) ?_
    exact tr_iret hZ dX12_calls_30 rfl (by decide) (by decide) ⟨v15, rfl, rfl, rfl, rfl, rfl, rfl, hS16, trivial⟩
  · skip
    refine tr_aload_n dX12_calls_0 rfl ?_
    refine q_iconst dX12_calls_1 (by decide) ?_
    intro v18 h19
    refine q_putI dX12_calls_2 fl12_70 (kR15 hS0.1 ta0) (Or.inl rfl) hS0 ta0 (iokF rfl) rfl (by decide +kernel) ?_
    intro I20 hS21 e22 f23
    refine tr_aload_n dX12_calls_5 rfl ?_
    refine tr_getR dX12_calls_6 fl12_385 (kR15 hS21.1 ta0) d2 ?_
    refine tr_ifnonnull 20 dX12_calls_9 (by decide) ?_
    refine tr_aload_n dX12_calls_20 rfl ?_
    refine tr_aload_n dX12_calls_21 rfl ?_
    obtain ⟨a24, d25, ta24⟩ := rf15_16 hW0 ta0
    refine tr_getR dX12_calls_22 fl12_17 (kR15 hS21.1 ta0) d25 ?_
    refine q_iconst dX12_calls_25 (by decide) ?_
    intro v26 h27
    obtain ⟨v28, c29⟩ : ∃ v, I0 a24 0 = v := ⟨_, rfl⟩
    refine q_iald dX12_calls_26 (kR77 hS21.1 ta24) (ti_in (nR77 hS21.1 ta24) (by omega) (by omega)) ?_
    intro v30 c31
    rw [show v26.toNatClampNeg = 0 from ti_cl (by omega)] at c31
    obtain rfl : v28 = v30 := (((hS21.cell ta24 (by decide +kernel)).trans c29)).symm.trans c31
    refine q_callVi hE (M' := mX12_good) (as := [_]) dX12_calls_27 lk12_81 inX12_good seX12_good myX12_good (by decide) ⟨by decide, by decide⟩ rfl (kR15 hS21.1 ta0) (Nat.le_of_ble_eq_true rfl) rfl rfl (by decide) (by decide) (k_X12_good hS21.1 ta0) ?_
    rintro v36 cn' K' N' I32 R33 L34 ⟨rfl, rfl, rfl, rfl, rfl, g35, -⟩
    have hS37 := hS21.tr g35 (by decide +kernel) (by decide +kernel)
    have c38 : I32 a0 0 = v18 := (g35.cell ta0 (by decide +kernel)).trans e22
    exact tr_iret hZ dX12_calls_30 rfl (by decide) (by decide) ⟨v36, rfl, rfl, rfl, rfl, rfl, rfl, hS37, trivial⟩
def wi_X12_cloud : List Nat := [960, 961, 962, 979, 4991, 5055]
def wr_X12_cloud : List Nat := []
set_option maxHeartbeats 4000000 in
theorem k_X12_cloud {l : Launch} {T : Nat → Nat} {cn : Nat} {K N : Nat → Nat} {I0 : cz_I} {R0 : cz_R} {L0 : cz_L} {d : Int} (hW0 : Wf T cn K N I0 R0 d) {a0 : Nat} (ta0 : T a0 = 15) {x1 : Int32} {x2 : Int32} : ConE l mX12_cloud [.ref a0, .int x1, .int x2] cn K N I0 R0 L0 (ca_i (fun v cn' K' N' I' R' L' => cn = cn' ∧ K = K' ∧ N = N' ∧ R0 = R' ∧ L0 = L' ∧ St T cn K N d wi_X12_cloud wr_X12_cloud I0 R0 I' R0 ∧ (0 ≤ v.toInt ∧ v.toInt ≤ 1) ∧ True)) := by
  refine ConE.of (by decide +kernel) rfl (Nat.le_of_ble_eq_true rfl) rfl (fun X hX hZ hE => ?_)
  subst hX
  have hS0 : St T cn K N d wi_X12_cloud wr_X12_cloud I0 R0 I0 R0 := St.rf0 hW0
  rcases rf15_3 hW0 ta0 with d2 | ⟨a1, d2, ta1⟩
  · skip
    refine tr_aload_n dX12_cloud_0 rfl ?_
    refine q_iconst dX12_cloud_1 (by decide) ?_
    intro v3 h4
    refine q_putI dX12_cloud_2 fl12_70 (kR15 hS0.1 ta0) (Or.inl rfl) hS0 ta0 (iokF rfl) rfl (by decide +kernel) ?_
    intro I5 hS6 e7 f8
    refine tr_aload_n dX12_cloud_5 rfl ?_
    refine tr_getN dX12_cloud_6 fl12_385 (kR15 hS6.1 ta0) d2 ?_
    refine tr_ifnonnullN dX12_cloud_9 ?_
    refine tr_aload_n dX12_cloud_12 rfl ?_
    refine q_iconst dX12_cloud_13 (by decide) ?_
    intro v9 h10
    refine q_callVi hE (M' := mX12_denied) (as := [_]) dX12_cloud_14 lk12_507 inX12_denied seX12_denied myX12_denied (by decide) ⟨by decide, by decide⟩ rfl (kR15 hS6.1 ta0) (Nat.le_of_ble_eq_true rfl) rfl rfl (by decide) (by decide) (k_X12_denied hS6.1 ta0) ?_
    rintro v15 cn' K' N' I11 R12 L13 ⟨rfl, rfl, rfl, rfl, rfl, g14, h16, -⟩
    have hS17 := hS6.tr g14 (by decide +kernel) (by decide +kernel)
    have c18 : I11 a0 0 = v3 := (g14.cell ta0 (by decide +kernel)).trans e7
    exact tr_zret hZ dX12_cloud_17 rfl (ti_b01 (by omega) (by omega)) (by decide) (by decide) ⟨v15, rfl, rfl, rfl, rfl, rfl, rfl, hS17, (by omega), trivial⟩
  · skip
    refine tr_aload_n dX12_cloud_0 rfl ?_
    refine q_iconst dX12_cloud_1 (by decide) ?_
    intro v19 h20
    refine q_putI dX12_cloud_2 fl12_70 (kR15 hS0.1 ta0) (Or.inl rfl) hS0 ta0 (iokF rfl) rfl (by decide +kernel) ?_
    intro I21 hS22 e23 f24
    refine tr_aload_n dX12_cloud_5 rfl ?_
    refine tr_getR dX12_cloud_6 fl12_385 (kR15 hS22.1 ta0) d2 ?_
    refine tr_ifnonnull 18 dX12_cloud_9 (by decide) ?_
    refine tr_aload_n dX12_cloud_18 rfl ?_
    refine tr_iload_n dX12_cloud_19 rfl ?_
    refine q_callVi hE (M' := mX12_isMinute) (as := [_]) dX12_cloud_20 lk12_443 inX12_isMinute seX12_isMinute myX12_isMinute (by decide) ⟨by decide, by decide⟩ rfl (kR15 hS22.1 ta0) (Nat.le_of_ble_eq_true rfl) rfl rfl (by decide) (by decide) (k_X12_isMinute hS22.1 ta0 ⟨_, d2⟩) ?_
    rintro v29 cn' K' N' I25 R26 L27 ⟨rfl, rfl, rfl, rfl, rfl, rfl, h30, p31, -⟩
    refine q_if_eq 43 dX12_cloud_23 (by decide) (fun h32 => ?_) (fun h32 => ?_)
    · skip
      refine tr_aload_n dX12_cloud_43 rfl ?_
      refine q_iconst dX12_cloud_44 (by decide) ?_
      intro v33 h34
      refine q_callVi hE (M' := mX12_denied) (as := [_]) dX12_cloud_45 lk12_507 inX12_denied seX12_denied myX12_denied (by decide) ⟨by decide, by decide⟩ rfl (kR15 hS22.1 ta0) (Nat.le_of_ble_eq_true rfl) rfl rfl (by decide) (by decide) (k_X12_denied hS22.1 ta0) ?_
      rintro v39 cn' K' N' I35 R36 L37 ⟨rfl, rfl, rfl, rfl, rfl, g38, h40, -⟩
      have hS41 := hS22.tr g38 (by decide +kernel) (by decide +kernel)
      have c42 : I35 a0 0 = v19 := (g38.cell ta0 (by decide +kernel)).trans e23
      exact tr_zret hZ dX12_cloud_48 rfl (ti_b01 (by omega) (by omega)) (by decide) (by decide) ⟨v39, rfl, rfl, rfl, rfl, rfl, rfl, hS41, (by omega), trivial⟩
    · skip
      refine tr_iload_n dX12_cloud_26 rfl ?_
      refine tr_iload_n dX12_cloud_27 rfl ?_
      refine q_iconst dX12_cloud_28 (by decide) ?_
      intro v43 h44
      refine q_iaddE dX12_cloud_29 (by intros; omega) ?_
      intro v45 h46
      refine tr_aload_n dX12_cloud_30 rfl ?_
      refine tr_getR dX12_cloud_31 fl12_385 (kR15 hS22.1 ta0) d2 ?_
      obtain ⟨v47, c48⟩ : ∃ v, I0 a1 0 = v := ⟨_, rfl⟩
      have b49 := hW0.2.2.2.2.2.1 a0 ta0 _ d2
      rw [c48] at b49
      have b50 := iv14_0 hW0 ta1 c48
      refine q_getI dX12_cloud_34 fl12_192 (kR14 hS22.1 ta1) ((hS22.cell ta1 (by decide +kernel)).trans c48) ?_
      refine q_callSi hE (M' := mX12_in) (as := [_, _, _]) dX12_cloud_37 lk12_149 inX12_in myX12_in ⟨by decide, by decide⟩ rfl (Nat.le_of_ble_eq_true rfl) rfl rfl (by decide) (by decide) (k_X12_in hS22.1 ) ?_
      rintro v55 cn' K' N' I51 R52 L53 ⟨rfl, rfl, rfl, rfl, rfl, rfl, h56, p57, p58, -⟩
      refine q_if_ne 49 dX12_cloud_40 (by decide) (fun h59 => ?_) (fun h59 => ?_)
      · skip
        refine tr_aload_n dX12_cloud_49 rfl ?_
        obtain ⟨a60, d61, ta60⟩ := rf15_16 hW0 ta0
        refine tr_getR dX12_cloud_50 fl12_17 (kR15 hS22.1 ta0) d61 ?_
        refine q_iconst dX12_cloud_53 (by decide) ?_
        intro v62 h63
        obtain ⟨v64, c65⟩ : ∃ v, I21 a60 1 = v := ⟨_, rfl⟩
        have b66 := iv77_1 hS22.1 ta60 (by decide) c65
        refine q_iald dX12_cloud_54 (kR77 hS22.1 ta60) (ti_in (nR77 hS22.1 ta60) (by omega) (by omega)) ?_
        intro v67 c68
        rw [show v62.toNatClampNeg = 1 from ti_cl (by omega)] at c68
        obtain rfl : v64 = v67 := (c65).symm.trans c68
        refine q_bipush dX12_cloud_55 (by decide +kernel) ?_
        intro v69 h70
        refine q_icmp_ne 66 dX12_cloud_57 (by decide) (fun h71 => ?_) (fun h71 => ?_)
        · skip
          refine tr_aload_n dX12_cloud_66 rfl ?_
          refine q_callVv hE (M' := mX12_keeps) (as := []) dX12_cloud_67 lk12_510 inX12_keeps seX12_keeps myX12_keeps (by decide) ⟨by decide, by decide⟩ rfl (kR15 hS22.1 ta0) (Nat.le_of_ble_eq_true rfl) rfl rfl (by decide) (by decide) (k_X12_keeps hS22.1 ta0) ?_
          rintro cn' K' N' I72 R73 L74 ⟨rfl, rfl, rfl, rfl, rfl, g75, -⟩
          have hS77 := hS22.tr g75 (by decide +kernel) (by decide +kernel)
          have c78 : I72 a0 0 = v19 := (g75.cell ta0 (by decide +kernel)).trans e23
          have c79 : I72 a60 1 = v64 := (g75.cell ta60 (by decide +kernel)).trans c65
          refine tr_aload_n dX12_cloud_70 rfl ?_
          refine tr_iload_n dX12_cloud_71 rfl ?_
          refine tr_iload_n dX12_cloud_72 rfl ?_
          refine q_callVv hE (M' := mX12_comes) (as := [_, _]) dX12_cloud_73 lk12_500 inX12_comes seX12_comes myX12_comes (by decide) ⟨by decide, by decide⟩ rfl (kR15 hS77.1 ta0) (Nat.le_of_ble_eq_true rfl) rfl rfl (by decide) (by decide) (k_X12_comes hS77.1 ta0 (by omega) (by omega) (fun q0 z0 => by obtain rfl := Option.some.inj ((d61).symm.trans z0); (try rw [c79]); (try omega))) ?_
          rintro cn' K' N' I80 R81 L82 ⟨rfl, rfl, rfl, rfl, rfl, g83, p85, -⟩
          have hS86 := hS77.tr g83 (by decide +kernel) (by decide +kernel)
          have c87 : I80 a0 0 = v19 := (g83.cell ta0 (by decide +kernel)).trans c78
          obtain ⟨v88, c89⟩ : ∃ v, I80 a60 1 = v := ⟨_, rfl⟩
          have b90 := iv77_1 hS86.1 ta60 (by decide) c89
          have p91 := p85 _ d61
          clear p85
          rw [c89] at p91
          rw [c79] at p91
          refine tr_aload_n dX12_cloud_76 rfl ?_
          refine q_callVi hE (M' := mX12_granted) (as := []) dX12_cloud_77 lk12_513 inX12_granted seX12_granted myX12_granted (by decide) ⟨by decide, by decide⟩ rfl (kR15 hS86.1 ta0) (Nat.le_of_ble_eq_true rfl) rfl rfl (by decide) (by decide) (k_X12_granted hS86.1 ta0) ?_
          rintro v96 cn' K' N' I92 R93 L94 ⟨rfl, rfl, rfl, rfl, rfl, g95, h97, -⟩
          have hS98 := hS86.tr g95 (by decide +kernel) (by decide +kernel)
          have c99 : I92 a0 0 = v19 := (g95.cell ta0 (by decide +kernel)).trans c87
          have c100 : I92 a60 1 = v88 := (g95.cell ta60 (by decide +kernel)).trans c89
          exact tr_zret hZ dX12_cloud_80 rfl (ti_b01 (by omega) (by omega)) (by decide) (by decide) ⟨v96, rfl, rfl, rfl, rfl, rfl, rfl, hS98, (by omega), trivial⟩
        · skip
          refine tr_aload_n dX12_cloud_60 rfl ?_
          refine q_iconst dX12_cloud_61 (by decide) ?_
          intro v101 h102
          refine q_callVi hE (M' := mX12_denied) (as := [_]) dX12_cloud_62 lk12_507 inX12_denied seX12_denied myX12_denied (by decide) ⟨by decide, by decide⟩ rfl (kR15 hS22.1 ta0) (Nat.le_of_ble_eq_true rfl) rfl rfl (by decide) (by decide) (k_X12_denied hS22.1 ta0) ?_
          rintro v107 cn' K' N' I103 R104 L105 ⟨rfl, rfl, rfl, rfl, rfl, g106, h108, -⟩
          have hS109 := hS22.tr g106 (by decide +kernel) (by decide +kernel)
          have c110 : I103 a0 0 = v19 := (g106.cell ta0 (by decide +kernel)).trans e23
          have c111 : I103 a60 1 = v64 := (g106.cell ta60 (by decide +kernel)).trans c65
          exact tr_zret hZ dX12_cloud_65 rfl (ti_b01 (by omega) (by omega)) (by decide) (by decide) ⟨v107, rfl, rfl, rfl, rfl, rfl, rfl, hS109, (by omega), trivial⟩
      · skip
        refine tr_aload_n dX12_cloud_43 rfl ?_
        refine q_iconst dX12_cloud_44 (by decide) ?_
        intro v112 h113
        refine q_callVi hE (M' := mX12_denied) (as := [_]) dX12_cloud_45 lk12_507 inX12_denied seX12_denied myX12_denied (by decide) ⟨by decide, by decide⟩ rfl (kR15 hS22.1 ta0) (Nat.le_of_ble_eq_true rfl) rfl rfl (by decide) (by decide) (k_X12_denied hS22.1 ta0) ?_
        rintro v118 cn' K' N' I114 R115 L116 ⟨rfl, rfl, rfl, rfl, rfl, g117, h119, -⟩
        have hS120 := hS22.tr g117 (by decide +kernel) (by decide +kernel)
        have c121 : I114 a0 0 = v19 := (g117.cell ta0 (by decide +kernel)).trans e23
        exact tr_zret hZ dX12_cloud_48 rfl (ti_b01 (by omega) (by omega)) (by decide) (by decide) ⟨v118, rfl, rfl, rfl, rfl, rfl, rfl, hS120, (by omega), trivial⟩
def wi_X12_draw : List Nat := [960, 961, 962, 979, 4991, 5055]
def wr_X12_draw : List Nat := []
set_option maxHeartbeats 4000000 in
theorem k_X12_draw {l : Launch} {T : Nat → Nat} {cn : Nat} {K N : Nat → Nat} {I0 : cz_I} {R0 : cz_R} {L0 : cz_L} {d : Int} (hW0 : Wf T cn K N I0 R0 d) {a0 : Nat} (ta0 : T a0 = 15) : ConE l mX12_draw [.ref a0] cn K N I0 R0 L0 (ca_i (fun v cn' K' N' I' R' L' => cn = cn' ∧ K = K' ∧ N = N' ∧ R0 = R' ∧ L0 = L' ∧ St T cn K N d wi_X12_draw wr_X12_draw I0 R0 I' R0 ∧ True)) := by
  refine ConE.of (by decide +kernel) rfl (Nat.le_of_ble_eq_true rfl) rfl (fun X hX hZ hE => ?_)
  subst hX
  have hS0 : St T cn K N d wi_X12_draw wr_X12_draw I0 R0 I0 R0 := St.rf0 hW0
  rcases rf15_3 hW0 ta0 with d2 | ⟨a1, d2, ta1⟩
  · skip
    refine tr_aload_n dX12_draw_0 rfl ?_
    refine q_iconst dX12_draw_1 (by decide) ?_
    intro v3 h4
    refine q_putI dX12_draw_2 fl12_70 (kR15 hS0.1 ta0) (Or.inl rfl) hS0 ta0 (iokF rfl) rfl (by decide +kernel) ?_
    intro I5 hS6 e7 f8
    refine tr_aload_n dX12_draw_5 rfl ?_
    refine tr_getN dX12_draw_6 fl12_385 (kR15 hS6.1 ta0) d2 ?_
    refine tr_ifnonnullN dX12_draw_9 ?_
    refine tr_aload_n dX12_draw_12 rfl ?_
    refine q_iconst dX12_draw_13 (by decide) ?_
    intro v9 h10
    refine q_callVi hE (M' := mX12_refused) (as := [_]) dX12_draw_14 lk12_76 inX12_refused seX12_refused myX12_refused (by decide) ⟨by decide, by decide⟩ rfl (kR15 hS6.1 ta0) (Nat.le_of_ble_eq_true rfl) rfl rfl (by decide) (by decide) (k_X12_refused hS6.1 ta0) ?_
    rintro v15 cn' K' N' I11 R12 L13 ⟨rfl, rfl, rfl, rfl, rfl, g14, -⟩
    have hS16 := hS6.tr g14 (by decide +kernel) (by decide +kernel)
    have c17 : I11 a0 0 = v3 := (g14.cell ta0 (by decide +kernel)).trans e7
    exact tr_iret hZ dX12_draw_17 rfl (by decide) (by decide) ⟨v15, rfl, rfl, rfl, rfl, rfl, rfl, hS16, trivial⟩
  · skip
    refine tr_aload_n dX12_draw_0 rfl ?_
    refine q_iconst dX12_draw_1 (by decide) ?_
    intro v18 h19
    refine q_putI dX12_draw_2 fl12_70 (kR15 hS0.1 ta0) (Or.inl rfl) hS0 ta0 (iokF rfl) rfl (by decide +kernel) ?_
    intro I20 hS21 e22 f23
    refine tr_aload_n dX12_draw_5 rfl ?_
    refine tr_getR dX12_draw_6 fl12_385 (kR15 hS21.1 ta0) d2 ?_
    refine tr_ifnonnull 18 dX12_draw_9 (by decide) ?_
    refine tr_aload_n dX12_draw_18 rfl ?_
    obtain ⟨a24, d25, ta24⟩ := rf15_16 hW0 ta0
    refine tr_getR dX12_draw_19 fl12_17 (kR15 hS21.1 ta0) d25 ?_
    refine q_iconst dX12_draw_22 (by decide) ?_
    intro v26 h27
    obtain ⟨v28, c29⟩ : ∃ v, I20 a24 1 = v := ⟨_, rfl⟩
    have b30 := iv77_1 hS21.1 ta24 (by decide) c29
    refine q_iald dX12_draw_23 (kR77 hS21.1 ta24) (ti_in (nR77 hS21.1 ta24) (by omega) (by omega)) ?_
    intro v31 c32
    rw [show v26.toNatClampNeg = 1 from ti_cl (by omega)] at c32
    obtain rfl : v28 = v31 := (c29).symm.trans c32
    refine q_bipush dX12_draw_24 (by decide +kernel) ?_
    intro v33 h34
    refine q_icmp_ne 35 dX12_draw_26 (by decide) (fun h35 => ?_) (fun h35 => ?_)
    · skip
      refine tr_aload_n dX12_draw_35 rfl ?_
      refine q_callVv hE (M' := mX12_keeps) (as := []) dX12_draw_36 lk12_510 inX12_keeps seX12_keeps myX12_keeps (by decide) ⟨by decide, by decide⟩ rfl (kR15 hS21.1 ta0) (Nat.le_of_ble_eq_true rfl) rfl rfl (by decide) (by decide) (k_X12_keeps hS21.1 ta0) ?_
      rintro cn' K' N' I36 R37 L38 ⟨rfl, rfl, rfl, rfl, rfl, g39, -⟩
      have hS41 := hS21.tr g39 (by decide +kernel) (by decide +kernel)
      have c42 : I36 a0 0 = v18 := (g39.cell ta0 (by decide +kernel)).trans e22
      have c43 : I36 a24 1 = v28 := (g39.cell ta24 (by decide +kernel)).trans c29
      refine tr_aload_n dX12_draw_39 rfl ?_
      refine tr_aload_n dX12_draw_40 rfl ?_
      refine q_callVi hE (M' := mX12_draws) (as := []) dX12_draw_41 lk12_504 inX12_draws seX12_draws myX12_draws (by decide) ⟨by decide, by decide⟩ rfl (kR15 hS41.1 ta0) (Nat.le_of_ble_eq_true rfl) rfl rfl (by decide) (by decide) (k_X12_draws hS41.1 ta0 (fun q0 z0 => by obtain rfl := Option.some.inj ((d25).symm.trans z0); (try rw [c43]); (try omega)) ⟨_, d2⟩) ?_
      rintro v48 cn' K' N' I44 R45 L46 ⟨rfl, rfl, rfl, rfl, rfl, g47, h49, p50, -⟩
      have hS51 := hS41.tr g47 (by decide +kernel) (by decide +kernel)
      have c52 : I44 a0 0 = v18 := (g47.cell ta0 (by decide +kernel)).trans c42
      obtain ⟨v53, c54⟩ : ∃ v, I44 a24 1 = v := ⟨_, rfl⟩
      have b55 := iv77_1 hS51.1 ta24 (by decide) c54
      have p56 := p50 _ d25
      clear p50
      rw [c54] at p56
      rw [c43] at p56
      refine q_callVi hE (M' := mX12_good) (as := [_]) dX12_draw_44 lk12_81 inX12_good seX12_good myX12_good (by decide) ⟨by decide, by decide⟩ rfl (kR15 hS51.1 ta0) (Nat.le_of_ble_eq_true rfl) rfl rfl (by decide) (by decide) (k_X12_good hS51.1 ta0) ?_
      rintro v61 cn' K' N' I57 R58 L59 ⟨rfl, rfl, rfl, rfl, rfl, g60, -⟩
      have hS62 := hS51.tr g60 (by decide +kernel) (by decide +kernel)
      have c63 : I57 a0 0 = v18 := (g60.cell ta0 (by decide +kernel)).trans c52
      have c64 : I57 a24 1 = v53 := (g60.cell ta24 (by decide +kernel)).trans c54
      exact tr_iret hZ dX12_draw_47 rfl (by decide) (by decide) ⟨v61, rfl, rfl, rfl, rfl, rfl, rfl, hS62, trivial⟩
    · skip
      refine tr_aload_n dX12_draw_29 rfl ?_
      refine q_iconst dX12_draw_30 (by decide) ?_
      intro v65 h66
      refine q_callVi hE (M' := mX12_refused) (as := [_]) dX12_draw_31 lk12_76 inX12_refused seX12_refused myX12_refused (by decide) ⟨by decide, by decide⟩ rfl (kR15 hS21.1 ta0) (Nat.le_of_ble_eq_true rfl) rfl rfl (by decide) (by decide) (k_X12_refused hS21.1 ta0) ?_
      rintro v71 cn' K' N' I67 R68 L69 ⟨rfl, rfl, rfl, rfl, rfl, g70, -⟩
      have hS72 := hS21.tr g70 (by decide +kernel) (by decide +kernel)
      have c73 : I67 a0 0 = v18 := (g70.cell ta0 (by decide +kernel)).trans e22
      have c74 : I67 a24 1 = v28 := (g70.cell ta24 (by decide +kernel)).trans c29
      exact tr_iret hZ dX12_draw_34 rfl (by decide) (by decide) ⟨v71, rfl, rfl, rfl, rfl, rfl, rfl, hS72, trivial⟩
def wi_X12_lift : List Nat := [960, 961, 962, 979, 4991, 5055]
def wr_X12_lift : List Nat := []
set_option maxHeartbeats 4000000 in
theorem k_X12_lift {l : Launch} {T : Nat → Nat} {cn : Nat} {K N : Nat → Nat} {I0 : cz_I} {R0 : cz_R} {L0 : cz_L} {d : Int} (hW0 : Wf T cn K N I0 R0 d) {a0 : Nat} (ta0 : T a0 = 15) : ConE l mX12_lift [.ref a0] cn K N I0 R0 L0 (ca_i (fun v cn' K' N' I' R' L' => cn = cn' ∧ K = K' ∧ N = N' ∧ R0 = R' ∧ L0 = L' ∧ St T cn K N d wi_X12_lift wr_X12_lift I0 R0 I' R0 ∧ (0 ≤ v.toInt ∧ v.toInt ≤ 1) ∧ True)) := by
  refine ConE.of (by decide +kernel) rfl (Nat.le_of_ble_eq_true rfl) rfl (fun X hX hZ hE => ?_)
  subst hX
  have hS0 : St T cn K N d wi_X12_lift wr_X12_lift I0 R0 I0 R0 := St.rf0 hW0
  rcases rf15_3 hW0 ta0 with d2 | ⟨a1, d2, ta1⟩
  · skip
    refine tr_aload_n dX12_lift_0 rfl ?_
    refine q_iconst dX12_lift_1 (by decide) ?_
    intro v3 h4
    refine q_putI dX12_lift_2 fl12_70 (kR15 hS0.1 ta0) (Or.inl rfl) hS0 ta0 (iokF rfl) rfl (by decide +kernel) ?_
    intro I5 hS6 e7 f8
    refine tr_aload_n dX12_lift_5 rfl ?_
    refine tr_getN dX12_lift_6 fl12_385 (kR15 hS6.1 ta0) d2 ?_
    refine tr_ifnullN 21 dX12_lift_9 (by decide) ?_
    refine tr_aload_n dX12_lift_21 rfl ?_
    refine q_bipush dX12_lift_22 (by decide +kernel) ?_
    intro v9 h10
    refine q_callVi hE (M' := mX12_denied) (as := [_]) dX12_lift_24 lk12_507 inX12_denied seX12_denied myX12_denied (by decide) ⟨by decide, by decide⟩ rfl (kR15 hS6.1 ta0) (Nat.le_of_ble_eq_true rfl) rfl rfl (by decide) (by decide) (k_X12_denied hS6.1 ta0) ?_
    rintro v15 cn' K' N' I11 R12 L13 ⟨rfl, rfl, rfl, rfl, rfl, g14, h16, -⟩
    have hS17 := hS6.tr g14 (by decide +kernel) (by decide +kernel)
    have c18 : I11 a0 0 = v3 := (g14.cell ta0 (by decide +kernel)).trans e7
    exact tr_zret hZ dX12_lift_27 rfl (ti_b01 (by omega) (by omega)) (by decide) (by decide) ⟨v15, rfl, rfl, rfl, rfl, rfl, rfl, hS17, (by omega), trivial⟩
  · skip
    refine tr_aload_n dX12_lift_0 rfl ?_
    refine q_iconst dX12_lift_1 (by decide) ?_
    intro v19 h20
    refine q_putI dX12_lift_2 fl12_70 (kR15 hS0.1 ta0) (Or.inl rfl) hS0 ta0 (iokF rfl) rfl (by decide +kernel) ?_
    intro I21 hS22 e23 f24
    refine tr_aload_n dX12_lift_5 rfl ?_
    refine tr_getR dX12_lift_6 fl12_385 (kR15 hS22.1 ta0) d2 ?_
    refine tr_ifnull dX12_lift_9 ?_
    refine tr_aload_n dX12_lift_12 rfl ?_
    obtain ⟨a25, d26, ta25⟩ := rf15_16 hW0 ta0
    refine tr_getR dX12_lift_13 fl12_17 (kR15 hS22.1 ta0) d26 ?_
    refine q_iconst dX12_lift_16 (by decide) ?_
    intro v27 h28
    obtain ⟨v29, c30⟩ : ∃ v, I21 a25 1 = v := ⟨_, rfl⟩
    have b31 := iv77_1 hS22.1 ta25 (by decide) c30
    refine q_iald dX12_lift_17 (kR77 hS22.1 ta25) (ti_in (nR77 hS22.1 ta25) (by omega) (by omega)) ?_
    intro v32 c33
    rw [show v27.toNatClampNeg = 1 from ti_cl (by omega)] at c33
    obtain rfl : v29 = v32 := (c30).symm.trans c33
    refine q_if_ne 28 dX12_lift_18 (by decide) (fun h34 => ?_) (fun h34 => ?_)
    · skip
      refine tr_aload_n dX12_lift_28 rfl ?_
      refine q_callVv hE (M' := mX12_keeps) (as := []) dX12_lift_29 lk12_510 inX12_keeps seX12_keeps myX12_keeps (by decide) ⟨by decide, by decide⟩ rfl (kR15 hS22.1 ta0) (Nat.le_of_ble_eq_true rfl) rfl rfl (by decide) (by decide) (k_X12_keeps hS22.1 ta0) ?_
      rintro cn' K' N' I35 R36 L37 ⟨rfl, rfl, rfl, rfl, rfl, g38, -⟩
      have hS40 := hS22.tr g38 (by decide +kernel) (by decide +kernel)
      have c41 : I35 a0 0 = v19 := (g38.cell ta0 (by decide +kernel)).trans e23
      have c42 : I35 a25 1 = v29 := (g38.cell ta25 (by decide +kernel)).trans c30
      refine tr_aload_n dX12_lift_32 rfl ?_
      refine tr_getR dX12_lift_33 fl12_17 (kR15 hS40.1 ta0) d26 ?_
      refine q_iconst dX12_lift_36 (by decide) ?_
      intro v43 h44
      refine tr_dup2 dX12_lift_37 rfl rfl ?_
      refine q_iald dX12_lift_38 (kR77 hS40.1 ta25) (ti_in (nR77 hS40.1 ta25) (by omega) (by omega)) ?_
      intro v45 c46
      rw [show v43.toNatClampNeg = 1 from ti_cl (by omega)] at c46
      obtain rfl : v29 = v45 := (c42).symm.trans c46
      refine q_iconst dX12_lift_39 (by decide) ?_
      intro v47 h48
      refine q_isubE dX12_lift_40 (by intros; omega) ?_
      intro v49 h50
      refine q_iast dX12_lift_41 (kR77 hS40.1 ta25) (ti_in (nR77 hS40.1 ta25) (by omega) (by omega)) hS40 ta25 (iok_w1 rfl (by have q := ti_nat (i := v43) (by omega); omega) (by omega)) rfl (by rfl) ?_
      intro I51 hS52 e54 f53
      have c55 : I51 a0 0 = v19 := (f53 _ _ (fun q => by have z := ti_nat (i := v43) (by omega); omega)).trans c41
      rw [show v43.toNatClampNeg = 1 from ti_cl (by omega)] at e54
      refine tr_aload_n dX12_lift_42 rfl ?_
      refine q_callVi hE (M' := mX12_granted) (as := []) dX12_lift_43 lk12_513 inX12_granted seX12_granted myX12_granted (by decide) ⟨by decide, by decide⟩ rfl (kR15 hS52.1 ta0) (Nat.le_of_ble_eq_true rfl) rfl rfl (by decide) (by decide) (k_X12_granted hS52.1 ta0) ?_
      rintro v60 cn' K' N' I56 R57 L58 ⟨rfl, rfl, rfl, rfl, rfl, g59, h61, -⟩
      have hS62 := hS52.tr g59 (by decide +kernel) (by decide +kernel)
      have c63 : I56 a0 0 = v19 := (g59.cell ta0 (by decide +kernel)).trans c55
      have c64 : I56 a25 1 = v49 := (g59.cell ta25 (by decide +kernel)).trans e54
      exact tr_zret hZ dX12_lift_46 rfl (ti_b01 (by omega) (by omega)) (by decide) (by decide) ⟨v60, rfl, rfl, rfl, rfl, rfl, rfl, hS62, (by omega), trivial⟩
    · skip
      refine tr_aload_n dX12_lift_21 rfl ?_
      refine q_bipush dX12_lift_22 (by decide +kernel) ?_
      intro v65 h66
      refine q_callVi hE (M' := mX12_denied) (as := [_]) dX12_lift_24 lk12_507 inX12_denied seX12_denied myX12_denied (by decide) ⟨by decide, by decide⟩ rfl (kR15 hS22.1 ta0) (Nat.le_of_ble_eq_true rfl) rfl rfl (by decide) (by decide) (k_X12_denied hS22.1 ta0) ?_
      rintro v71 cn' K' N' I67 R68 L69 ⟨rfl, rfl, rfl, rfl, rfl, g70, h72, -⟩
      have hS73 := hS22.tr g70 (by decide +kernel) (by decide +kernel)
      have c74 : I67 a0 0 = v19 := (g70.cell ta0 (by decide +kernel)).trans e23
      have c75 : I67 a25 1 = v29 := (g70.cell ta25 (by decide +kernel)).trans c30
      exact tr_zret hZ dX12_lift_27 rfl (ti_b01 (by omega) (by omega)) (by decide) (by decide) ⟨v71, rfl, rfl, rfl, rfl, rfl, rfl, hS73, (by omega), trivial⟩
def wi_X12_seed : List Nat := [960, 961, 962, 4991]
def wr_X12_seed : List Nat := []
set_option maxHeartbeats 4000000 in
theorem k_X12_seed {l : Launch} {T : Nat → Nat} {cn : Nat} {K N : Nat → Nat} {I0 : cz_I} {R0 : cz_R} {L0 : cz_L} {d : Int} (hW0 : Wf T cn K N I0 R0 d) {a0 : Nat} (ta0 : T a0 = 15) {x1 : Int32} : ConE l mX12_seed [.ref a0, .int x1] cn K N I0 R0 L0 (ca_i (fun v cn' K' N' I' R' L' => cn = cn' ∧ K = K' ∧ N = N' ∧ R0 = R' ∧ L0 = L' ∧ St T cn K N d wi_X12_seed wr_X12_seed I0 R0 I' R0 ∧ (0 ≤ v.toInt ∧ v.toInt ≤ 1) ∧ True)) := by
  refine ConE.of (by decide +kernel) rfl (Nat.le_of_ble_eq_true rfl) rfl (fun X hX hZ hE => ?_)
  subst hX
  have hS0 : St T cn K N d wi_X12_seed wr_X12_seed I0 R0 I0 R0 := St.rf0 hW0
  rcases rf15_3 hW0 ta0 with d2 | ⟨a1, d2, ta1⟩
  · skip
    refine tr_aload_n dX12_seed_0 rfl ?_
    refine q_iconst dX12_seed_1 (by decide) ?_
    intro v3 h4
    refine q_putI dX12_seed_2 fl12_70 (kR15 hS0.1 ta0) (Or.inl rfl) hS0 ta0 (iokF rfl) rfl (by decide +kernel) ?_
    intro I5 hS6 e7 f8
    refine tr_aload_n dX12_seed_5 rfl ?_
    refine tr_getN dX12_seed_6 fl12_385 (kR15 hS6.1 ta0) d2 ?_
    refine tr_ifnonnullN dX12_seed_9 ?_
    refine tr_aload_n dX12_seed_12 rfl ?_
    refine q_iconst dX12_seed_13 (by decide) ?_
    intro v9 h10
    refine q_callVi hE (M' := mX12_denied) (as := [_]) dX12_seed_14 lk12_507 inX12_denied seX12_denied myX12_denied (by decide) ⟨by decide, by decide⟩ rfl (kR15 hS6.1 ta0) (Nat.le_of_ble_eq_true rfl) rfl rfl (by decide) (by decide) (k_X12_denied hS6.1 ta0) ?_
    rintro v15 cn' K' N' I11 R12 L13 ⟨rfl, rfl, rfl, rfl, rfl, g14, h16, -⟩
    have hS17 := hS6.tr g14 (by decide +kernel) (by decide +kernel)
    have c18 : I11 a0 0 = v3 := (g14.cell ta0 (by decide +kernel)).trans e7
    exact tr_zret hZ dX12_seed_17 rfl (ti_b01 (by omega) (by omega)) (by decide) (by decide) ⟨v15, rfl, rfl, rfl, rfl, rfl, rfl, hS17, (by omega), trivial⟩
  · skip
    refine tr_aload_n dX12_seed_0 rfl ?_
    refine q_iconst dX12_seed_1 (by decide) ?_
    intro v19 h20
    refine q_putI dX12_seed_2 fl12_70 (kR15 hS0.1 ta0) (Or.inl rfl) hS0 ta0 (iokF rfl) rfl (by decide +kernel) ?_
    intro I21 hS22 e23 f24
    refine tr_aload_n dX12_seed_5 rfl ?_
    refine tr_getR dX12_seed_6 fl12_385 (kR15 hS22.1 ta0) d2 ?_
    refine tr_ifnonnull 18 dX12_seed_9 (by decide) ?_
    refine tr_iload_n dX12_seed_18 rfl ?_
    refine q_iconst dX12_seed_19 (by decide) ?_
    intro v25 h26
    refine q_ldcw 65536 dX12_seed_20 ld12_503 (by decide +kernel) ?_
    intro v27 h28
    refine q_callSi hE (M' := mX12_in) (as := [_, _, _]) dX12_seed_23 lk12_149 inX12_in myX12_in ⟨by decide, by decide⟩ rfl (Nat.le_of_ble_eq_true rfl) rfl rfl (by decide) (by decide) (k_X12_in hS22.1 ) ?_
    rintro v33 cn' K' N' I29 R30 L31 ⟨rfl, rfl, rfl, rfl, rfl, rfl, h34, p35, p36, -⟩
    refine q_if_ne 35 dX12_seed_26 (by decide) (fun h37 => ?_) (fun h37 => ?_)
    · skip
      refine tr_aload_n dX12_seed_35 rfl ?_
      obtain ⟨a38, d39, ta38⟩ := rf15_16 hW0 ta0
      refine tr_getR dX12_seed_36 fl12_17 (kR15 hS22.1 ta0) d39 ?_
      refine q_iconst dX12_seed_39 (by decide) ?_
      intro v40 h41
      refine tr_iload_n dX12_seed_40 rfl ?_
      refine q_iast dX12_seed_41 (kR77 hS22.1 ta38) (ti_in (nR77 hS22.1 ta38) (by omega) (by omega)) hS22 ta38 (iok_w2 rfl (by have q := ti_nat (i := v40) (by omega); omega) (by omega)) rfl (by rfl) ?_
      intro I42 hS43 e45 f44
      have c46 : I42 a0 0 = v19 := (f44 _ _ (fun q => by have z := ti_nat (i := v40) (by omega); omega)).trans e23
      rw [show v40.toNatClampNeg = 2 from ti_cl (by omega)] at e45
      refine tr_aload_n dX12_seed_42 rfl ?_
      refine q_callVi hE (M' := mX12_granted) (as := []) dX12_seed_43 lk12_513 inX12_granted seX12_granted myX12_granted (by decide) ⟨by decide, by decide⟩ rfl (kR15 hS43.1 ta0) (Nat.le_of_ble_eq_true rfl) rfl rfl (by decide) (by decide) (k_X12_granted hS43.1 ta0) ?_
      rintro v51 cn' K' N' I47 R48 L49 ⟨rfl, rfl, rfl, rfl, rfl, g50, h52, -⟩
      have hS53 := hS43.tr g50 (by decide +kernel) (by decide +kernel)
      have c54 : I47 a0 0 = v19 := (g50.cell ta0 (by decide +kernel)).trans c46
      have c55 : I47 a38 2 = x1 := (g50.cell ta38 (by decide +kernel)).trans e45
      exact tr_zret hZ dX12_seed_46 rfl (ti_b01 (by omega) (by omega)) (by decide) (by decide) ⟨v51, rfl, rfl, rfl, rfl, rfl, rfl, hS53, (by omega), trivial⟩
    · skip
      refine tr_aload_n dX12_seed_29 rfl ?_
      refine q_iconst dX12_seed_30 (by decide) ?_
      intro v56 h57
      refine q_callVi hE (M' := mX12_denied) (as := [_]) dX12_seed_31 lk12_507 inX12_denied seX12_denied myX12_denied (by decide) ⟨by decide, by decide⟩ rfl (kR15 hS22.1 ta0) (Nat.le_of_ble_eq_true rfl) rfl rfl (by decide) (by decide) (k_X12_denied hS22.1 ta0) ?_
      rintro v62 cn' K' N' I58 R59 L60 ⟨rfl, rfl, rfl, rfl, rfl, g61, h63, -⟩
      have hS64 := hS22.tr g61 (by decide +kernel) (by decide +kernel)
      have c65 : I58 a0 0 = v19 := (g61.cell ta0 (by decide +kernel)).trans e23
      exact tr_zret hZ dX12_seed_34 rfl (ti_b01 (by omega) (by omega)) (by decide) (by decide) ⟨v62, rfl, rfl, rfl, rfl, rfl, rfl, hS64, (by omega), trivial⟩
def wi_X12_undo : List Nat := [960, 961, 962, 979, 4991]
def wr_X12_undo : List Nat := []
set_option maxHeartbeats 4000000 in
theorem k_X12_undo {l : Launch} {T : Nat → Nat} {cn : Nat} {K N : Nat → Nat} {I0 : cz_I} {R0 : cz_R} {L0 : cz_L} {d : Int} (hW0 : Wf T cn K N I0 R0 d) {a0 : Nat} (ta0 : T a0 = 15) : ConE l mX12_undo [.ref a0] cn K N I0 R0 L0 (ca_i (fun v cn' K' N' I' R' L' => cn = cn' ∧ K = K' ∧ N = N' ∧ R0 = R' ∧ L0 = L' ∧ St T cn K N d wi_X12_undo wr_X12_undo I0 R0 I' R0 ∧ (0 ≤ v.toInt ∧ v.toInt ≤ 1) ∧ True)) := by
  refine ConE.of (by decide +kernel) rfl (Nat.le_of_ble_eq_true rfl) rfl (fun X hX hZ hE => ?_)
  subst hX
  have hS0 : St T cn K N d wi_X12_undo wr_X12_undo I0 R0 I0 R0 := St.rf0 hW0
  rcases rf15_3 hW0 ta0 with d2 | ⟨a1, d2, ta1⟩
  · skip
    refine tr_aload_n dX12_undo_0 rfl ?_
    refine q_iconst dX12_undo_1 (by decide) ?_
    intro v3 h4
    refine q_putI dX12_undo_2 fl12_70 (kR15 hS0.1 ta0) (Or.inl rfl) hS0 ta0 (iokF rfl) rfl (by decide +kernel) ?_
    intro I5 hS6 e7 f8
    refine tr_aload_n dX12_undo_5 rfl ?_
    refine tr_getN dX12_undo_6 fl12_385 (kR15 hS6.1 ta0) d2 ?_
    refine tr_ifnullN 19 dX12_undo_9 (by decide) ?_
    refine tr_aload_n dX12_undo_19 rfl ?_
    refine q_bipush dX12_undo_20 (by decide +kernel) ?_
    intro v9 h10
    refine q_callVi hE (M' := mX12_denied) (as := [_]) dX12_undo_22 lk12_507 inX12_denied seX12_denied myX12_denied (by decide) ⟨by decide, by decide⟩ rfl (kR15 hS6.1 ta0) (Nat.le_of_ble_eq_true rfl) rfl rfl (by decide) (by decide) (k_X12_denied hS6.1 ta0) ?_
    rintro v15 cn' K' N' I11 R12 L13 ⟨rfl, rfl, rfl, rfl, rfl, g14, h16, -⟩
    have hS17 := hS6.tr g14 (by decide +kernel) (by decide +kernel)
    have c18 : I11 a0 0 = v3 := (g14.cell ta0 (by decide +kernel)).trans e7
    exact tr_zret hZ dX12_undo_25 rfl (ti_b01 (by omega) (by omega)) (by decide) (by decide) ⟨v15, rfl, rfl, rfl, rfl, rfl, rfl, hS17, (by omega), trivial⟩
  · skip
    refine tr_aload_n dX12_undo_0 rfl ?_
    refine q_iconst dX12_undo_1 (by decide) ?_
    intro v19 h20
    refine q_putI dX12_undo_2 fl12_70 (kR15 hS0.1 ta0) (Or.inl rfl) hS0 ta0 (iokF rfl) rfl (by decide +kernel) ?_
    intro I21 hS22 e23 f24
    refine tr_aload_n dX12_undo_5 rfl ?_
    refine tr_getR dX12_undo_6 fl12_385 (kR15 hS22.1 ta0) d2 ?_
    refine tr_ifnull dX12_undo_9 ?_
    refine tr_aload_n dX12_undo_12 rfl ?_
    obtain ⟨v25, c26⟩ : ∃ v, I21 a0 19 = v := ⟨_, rfl⟩
    have b27 := iv15_19 hS22.1 ta0 c26
    refine q_getI dX12_undo_13 fl12_387 (kR15 hS22.1 ta0) c26 ?_
    refine q_if_ne 26 dX12_undo_16 (by decide) (fun h28 => ?_) (fun h28 => ?_)
    · skip
      refine tr_aload_n dX12_undo_26 rfl ?_
      refine tr_dup dX12_undo_27 rfl ?_
      refine q_getI dX12_undo_28 fl12_387 (kR15 hS22.1 ta0) c26 ?_
      refine q_iconst dX12_undo_31 (by decide) ?_
      intro v29 h30
      refine q_isubE dX12_undo_32 (by intros; omega) ?_
      intro v31 h32
      refine q_putI dX12_undo_33 fl12_387 (kR15 hS22.1 ta0) (Or.inl rfl) hS22 ta0 (by show (0 : Int) ≤ v31.toInt ∧ v31.toInt ≤ (12 : Int); omega) rfl (by decide +kernel) ?_
      intro I33 hS34 e35 f36
      have c37 : I33 a0 0 = v19 := (f36 _ _ (fun q => absurd q.2 (by decide))).trans e23
      refine q_iconst dX12_undo_36 (by decide) ?_
      intro v38 h39
      refine tr_istore_n dX12_undo_37 (by decide) (by decide) ?_
      have lp49 : ∀ (fu : Nat) (ls : Nat → Option Value) (v40 : Int32) (I43 : cz_I) (v45 : Int32), ls 0 = some (.ref a0) → ls 1 = some (.int v40) → St T cn K N d wi_X12_undo wr_X12_undo I0 R0 I43 R0 → I43 a0 19 = v45 → v45.toInt ≤ 11 → 0 ≤ v40.toInt → (-v40.toInt + 2147483647).toNat < fu → Tr X mX12_undo 38 ls [] cn K N I43 R0 L0 0 0 := by
        intro fu
        induction fu with
        | zero => intros; rename_i hz; exact absurd hz (Nat.not_lt_zero _)
        | succ fu ih49 =>
          intro ls v40 I43 v45 hl41 hl42 hS44 c46 g47 g48 hm49
          have b51 := iv15_19 hS44.1 ta0 c46
          refine tr_iload_n dX12_undo_38 hl42 ?_
          refine q_bipush dX12_undo_39 (by decide +kernel) ?_
          intro v52 h53
          refine q_icmp_ge 70 dX12_undo_41 (by decide) (fun h54 => ?_) (fun h54 => ?_)
          · skip
            refine tr_aload_n dX12_undo_70 hl41 ?_
            refine q_callVi hE (M' := mX12_granted) (as := []) dX12_undo_71 lk12_513 inX12_granted seX12_granted myX12_granted (by decide) ⟨by decide, by decide⟩ rfl (kR15 hS44.1 ta0) (Nat.le_of_ble_eq_true rfl) rfl rfl (by decide) (by decide) (k_X12_granted hS44.1 ta0) ?_
            rintro v59 cn' K' N' I55 R56 L57 ⟨rfl, rfl, rfl, rfl, rfl, g58, h60, -⟩
            have hS61 := hS44.tr g58 (by decide +kernel) (by decide +kernel)
            have c62 : I55 a0 19 = v45 := (g58.cell ta0 (by decide +kernel)).trans c46
            exact tr_zret hZ dX12_undo_74 rfl (ti_b01 (by omega) (by omega)) (by decide) (by decide) ⟨v59, rfl, rfl, rfl, rfl, rfl, rfl, hS61, (by omega), trivial⟩
          · skip
            refine tr_aload_n dX12_undo_44 hl41 ?_
            obtain ⟨a63, d64, ta63⟩ := rf15_16 hW0 ta0
            refine tr_getR dX12_undo_45 fl12_17 (kR15 hS44.1 ta0) d64 ?_
            refine tr_iload_n dX12_undo_48 hl42 ?_
            refine tr_aload_n dX12_undo_49 hl41 ?_
            obtain ⟨a65, d66, ta65⟩ := rf15_17 hW0 ta0
            refine tr_getR dX12_undo_50 fl12_21 (kR15 hS44.1 ta0) d66 ?_
            refine q_bipush dX12_undo_53 (by decide +kernel) ?_
            intro v67 h68
            refine tr_aload_n dX12_undo_55 hl41 ?_
            refine q_getI dX12_undo_56 fl12_387 (kR15 hS44.1 ta0) c46 ?_
            refine q_imulE (c := 15) dX12_undo_59 (by omega) (by omega) ?_
            intro v69 h70
            refine tr_iload_n dX12_undo_60 hl42 ?_
            refine q_iaddE dX12_undo_61 (by intros; omega) ?_
            intro v71 h72
            refine q_iald dX12_undo_62 (kR78 hS44.1 ta65) (ti_in (nR78 hS44.1 ta65) (by omega) (by omega)) ?_
            intro v73 c74
            refine q_iast dX12_undo_63 (kR77 hS44.1 ta63) (ti_in (nR77 hS44.1 ta63) (by omega) (by omega)) hS44 ta63 (iok_w (r := 78) rfl rfl (by have q := ti_nat (i := v40) (by omega); have q2 := ti_nat (i := v71) (by omega); omega) (hS44.1.iv ta65 c74)) rfl (by rfl) ?_
            intro I76 hS77 e79 f78
            have c80 : I76 a0 19 = v45 := (f78 _ _ (fun q => by have z := ti_nat (i := v40) (by omega); omega)).trans c46
            refine q_iincE dX12_undo_64 hl42 (by decide) (by decide) (by intros; omega) ?_
            intro v81 h82
            refine tr_goto 38 dX12_undo_67 (by decide) ?_
            exact ih49 _ v81 I76 v45 hl41 rfl hS77 c80 (by omega) (by omega) (by omega)
      exact lp49 _ _ v38 I33 v31 rfl rfl hS34 e35 (by omega) (by omega) (Nat.lt_succ_self _)
    · skip
      refine tr_aload_n dX12_undo_19 rfl ?_
      refine q_bipush dX12_undo_20 (by decide +kernel) ?_
      intro v83 h84
      refine q_callVi hE (M' := mX12_denied) (as := [_]) dX12_undo_22 lk12_507 inX12_denied seX12_denied myX12_denied (by decide) ⟨by decide, by decide⟩ rfl (kR15 hS22.1 ta0) (Nat.le_of_ble_eq_true rfl) rfl rfl (by decide) (by decide) (k_X12_denied hS22.1 ta0) ?_
      rintro v89 cn' K' N' I85 R86 L87 ⟨rfl, rfl, rfl, rfl, rfl, g88, h90, -⟩
      have hS91 := hS22.tr g88 (by decide +kernel) (by decide +kernel)
      have c92 : I85 a0 0 = v19 := (g88.cell ta0 (by decide +kernel)).trans e23
      have c93 : I85 a0 19 = v25 := (g88.cell ta0 (by decide +kernel)).trans c26
      exact tr_zret hZ dX12_undo_25 rfl (ti_b01 (by omega) (by omega)) (by decide) (by decide) ⟨v89, rfl, rfl, rfl, rfl, rfl, rfl, hS91, (by omega), trivial⟩
def wi_X12_mark : List Nat := [960, 961, 962, 980, 5119]
def wr_X12_mark : List Nat := []
set_option maxHeartbeats 4000000 in
theorem k_X12_mark {l : Launch} {T : Nat → Nat} {cn : Nat} {K N : Nat → Nat} {I0 : cz_I} {R0 : cz_R} {L0 : cz_L} {d : Int} (hW0 : Wf T cn K N I0 R0 d) {a0 : Nat} (ta0 : T a0 = 15) : ConE l mX12_mark [.ref a0] cn K N I0 R0 L0 (ca_i (fun v cn' K' N' I' R' L' => cn = cn' ∧ K = K' ∧ N = N' ∧ R0 = R' ∧ L0 = L' ∧ St T cn K N d wi_X12_mark wr_X12_mark I0 R0 I' R0 ∧ True)) := by
  refine ConE.of (by decide +kernel) rfl (Nat.le_of_ble_eq_true rfl) rfl (fun X hX hZ hE => ?_)
  subst hX
  have hS0 : St T cn K N d wi_X12_mark wr_X12_mark I0 R0 I0 R0 := St.rf0 hW0
  rcases rf15_3 hW0 ta0 with d2 | ⟨a1, d2, ta1⟩
  · skip
    refine tr_aload_n dX12_mark_0 rfl ?_
    refine q_iconst dX12_mark_1 (by decide) ?_
    intro v3 h4
    refine q_putI dX12_mark_2 fl12_70 (kR15 hS0.1 ta0) (Or.inl rfl) hS0 ta0 (iokF rfl) rfl (by decide +kernel) ?_
    intro I5 hS6 e7 f8
    refine tr_aload_n dX12_mark_5 rfl ?_
    refine tr_getN dX12_mark_6 fl12_385 (kR15 hS6.1 ta0) d2 ?_
    refine tr_ifnonnullN dX12_mark_9 ?_
    refine tr_aload_n dX12_mark_12 rfl ?_
    refine q_iconst dX12_mark_13 (by decide) ?_
    intro v9 h10
    refine q_callVi hE (M' := mX12_refused) (as := [_]) dX12_mark_14 lk12_76 inX12_refused seX12_refused myX12_refused (by decide) ⟨by decide, by decide⟩ rfl (kR15 hS6.1 ta0) (Nat.le_of_ble_eq_true rfl) rfl rfl (by decide) (by decide) (k_X12_refused hS6.1 ta0) ?_
    rintro v15 cn' K' N' I11 R12 L13 ⟨rfl, rfl, rfl, rfl, rfl, g14, -⟩
    have hS16 := hS6.tr g14 (by decide +kernel) (by decide +kernel)
    have c17 : I11 a0 0 = v3 := (g14.cell ta0 (by decide +kernel)).trans e7
    exact tr_iret hZ dX12_mark_17 rfl (by decide) (by decide) ⟨v15, rfl, rfl, rfl, rfl, rfl, rfl, hS16, trivial⟩
  · skip
    refine tr_aload_n dX12_mark_0 rfl ?_
    refine q_iconst dX12_mark_1 (by decide) ?_
    intro v18 h19
    refine q_putI dX12_mark_2 fl12_70 (kR15 hS0.1 ta0) (Or.inl rfl) hS0 ta0 (iokF rfl) rfl (by decide +kernel) ?_
    intro I20 hS21 e22 f23
    refine tr_aload_n dX12_mark_5 rfl ?_
    refine tr_getR dX12_mark_6 fl12_385 (kR15 hS21.1 ta0) d2 ?_
    refine tr_ifnonnull 18 dX12_mark_9 (by decide) ?_
    refine tr_aload_n dX12_mark_18 rfl ?_
    obtain ⟨v24, c25⟩ : ∃ v, I20 a0 20 = v := ⟨_, rfl⟩
    have b26 := iv15_20 hS21.1 ta0 c25
    refine q_getI dX12_mark_19 fl12_390 (kR15 hS21.1 ta0) c25 ?_
    refine q_iconst dX12_mark_22 (by decide) ?_
    intro v27 h28
    refine q_icmp_ne 32 dX12_mark_23 (by decide) (fun h29 => ?_) (fun h29 => ?_)
    · skip
      refine q_iconst dX12_mark_32 (by decide) ?_
      intro v30 h31
      refine tr_istore_n dX12_mark_33 (by decide) (by decide) ?_
      have lp41 : ∀ (fu : Nat) (ls : Nat → Option Value) (v32 : Int32) (I35 : cz_I) (v37 : Int32), ls 0 = some (.ref a0) → ls 1 = some (.int v32) → St T cn K N d wi_X12_mark wr_X12_mark I0 R0 I35 R0 → I35 a0 20 = v37 → v37.toInt ≤ 2 → 0 ≤ v32.toInt → (-v32.toInt + 2147483647).toNat < fu → Tr X mX12_mark 34 ls [] cn K N I35 R0 L0 0 0 := by
        intro fu
        induction fu with
        | zero => intros; rename_i hz; exact absurd hz (Nat.not_lt_zero _)
        | succ fu ih41 =>
          intro ls v32 I35 v37 hl33 hl34 hS36 c38 g39 g40 hm41
          have b43 := iv15_20 hS36.1 ta0 c38
          refine tr_iload_n dX12_mark_34 hl34 ?_
          refine q_bipush dX12_mark_35 (by decide +kernel) ?_
          intro v44 h45
          refine q_icmp_ge 66 dX12_mark_37 (by decide) (fun h46 => ?_) (fun h46 => ?_)
          · skip
            refine tr_aload_n dX12_mark_66 hl33 ?_
            refine tr_dup dX12_mark_67 rfl ?_
            refine q_getI dX12_mark_68 fl12_390 (kR15 hS36.1 ta0) c38 ?_
            refine q_iconst dX12_mark_71 (by decide) ?_
            intro v47 h48
            refine q_iaddE dX12_mark_72 (by intros; omega) ?_
            intro v49 h50
            refine q_putI dX12_mark_73 fl12_390 (kR15 hS36.1 ta0) (Or.inl rfl) hS36 ta0 (by show (0 : Int) ≤ v49.toInt ∧ v49.toInt ≤ (3 : Int); omega) rfl (by decide +kernel) ?_
            intro I51 hS52 e53 f54
            refine tr_aload_n dX12_mark_76 hl33 ?_
            refine tr_aload_n dX12_mark_77 hl33 ?_
            refine q_getI dX12_mark_78 fl12_390 (kR15 hS52.1 ta0) e53 ?_
            refine q_iconst dX12_mark_81 (by decide) ?_
            intro v55 h56
            refine q_isubE dX12_mark_82 (by intros; omega) ?_
            intro v57 h58
            refine q_callVi hE (M' := mX12_good) (as := [_]) dX12_mark_83 lk12_81 inX12_good seX12_good myX12_good (by decide) ⟨by decide, by decide⟩ rfl (kR15 hS52.1 ta0) (Nat.le_of_ble_eq_true rfl) rfl rfl (by decide) (by decide) (k_X12_good hS52.1 ta0) ?_
            rintro v63 cn' K' N' I59 R60 L61 ⟨rfl, rfl, rfl, rfl, rfl, g62, -⟩
            have hS64 := hS52.tr g62 (by decide +kernel) (by decide +kernel)
            have c65 : I59 a0 20 = v49 := (g62.cell ta0 (by decide +kernel)).trans e53
            exact tr_iret hZ dX12_mark_86 rfl (by decide) (by decide) ⟨v63, rfl, rfl, rfl, rfl, rfl, rfl, hS64, trivial⟩
          · skip
            refine tr_aload_n dX12_mark_40 hl33 ?_
            obtain ⟨a66, d67, ta66⟩ := rf15_18 hW0 ta0
            refine tr_getR dX12_mark_41 fl12_24 (kR15 hS36.1 ta0) d67 ?_
            refine q_bipush dX12_mark_44 (by decide +kernel) ?_
            intro v68 h69
            refine tr_aload_n dX12_mark_46 hl33 ?_
            refine q_getI dX12_mark_47 fl12_390 (kR15 hS36.1 ta0) c38 ?_
            refine q_imulE (c := 15) dX12_mark_50 (by omega) (by omega) ?_
            intro v70 h71
            refine tr_iload_n dX12_mark_51 hl34 ?_
            refine q_iaddE dX12_mark_52 (by intros; omega) ?_
            intro v72 h73
            refine tr_aload_n dX12_mark_53 hl33 ?_
            obtain ⟨a74, d75, ta74⟩ := rf15_16 hW0 ta0
            refine tr_getR dX12_mark_54 fl12_17 (kR15 hS36.1 ta0) d75 ?_
            refine tr_iload_n dX12_mark_57 hl34 ?_
            refine q_iald dX12_mark_58 (kR77 hS36.1 ta74) (ti_in (nR77 hS36.1 ta74) (by omega) (by omega)) ?_
            intro v76 c77
            refine q_iast dX12_mark_59 (kR79 hS36.1 ta66) (ti_in (nR79 hS36.1 ta66) (by omega) (by omega)) hS36 ta66 (iok_w (r := 77) rfl rfl (by have q := ti_nat (i := v72) (by omega); have q2 := ti_nat (i := v32) (by omega); omega) (hS36.1.iv ta74 c77)) rfl (by rfl) ?_
            intro I79 hS80 e82 f81
            have c83 : I79 a0 20 = v37 := (f81 _ _ (fun q => by have z := ta0; rw [q.1, ta66] at z; exact absurd z (by decide))).trans c38
            refine q_iincE dX12_mark_60 hl34 (by decide) (by decide) (by intros; omega) ?_
            intro v84 h85
            refine tr_goto 34 dX12_mark_63 (by decide) ?_
            exact ih41 _ v84 I79 v37 hl33 rfl hS80 c83 (by omega) (by omega) (by omega)
      exact lp41 _ _ v30 I20 v24 rfl rfl hS21 c25 (by omega) (by omega) (Nat.lt_succ_self _)
    · skip
      refine tr_aload_n dX12_mark_26 rfl ?_
      refine q_iconst dX12_mark_27 (by decide) ?_
      intro v86 h87
      refine q_callVi hE (M' := mX12_refused) (as := [_]) dX12_mark_28 lk12_76 inX12_refused seX12_refused myX12_refused (by decide) ⟨by decide, by decide⟩ rfl (kR15 hS21.1 ta0) (Nat.le_of_ble_eq_true rfl) rfl rfl (by decide) (by decide) (k_X12_refused hS21.1 ta0) ?_
      rintro v92 cn' K' N' I88 R89 L90 ⟨rfl, rfl, rfl, rfl, rfl, g91, -⟩
      have hS93 := hS21.tr g91 (by decide +kernel) (by decide +kernel)
      have c94 : I88 a0 0 = v18 := (g91.cell ta0 (by decide +kernel)).trans e22
      have c95 : I88 a0 20 = v24 := (g91.cell ta0 (by decide +kernel)).trans c25
      exact tr_iret hZ dX12_mark_31 rfl (by decide) (by decide) ⟨v92, rfl, rfl, rfl, rfl, rfl, rfl, hS93, trivial⟩
def wi_X12_back : List Nat := [960, 961, 962, 979, 4991]
def wr_X12_back : List Nat := []
set_option maxHeartbeats 4000000 in
theorem k_X12_back {l : Launch} {T : Nat → Nat} {cn : Nat} {K N : Nat → Nat} {I0 : cz_I} {R0 : cz_R} {L0 : cz_L} {d : Int} (hW0 : Wf T cn K N I0 R0 d) {a0 : Nat} (ta0 : T a0 = 15) {x1 : Int32} : ConE l mX12_back [.ref a0, .int x1] cn K N I0 R0 L0 (ca_i (fun v cn' K' N' I' R' L' => cn = cn' ∧ K = K' ∧ N = N' ∧ R0 = R' ∧ L0 = L' ∧ St T cn K N d wi_X12_back wr_X12_back I0 R0 I' R0 ∧ (0 ≤ v.toInt ∧ v.toInt ≤ 1) ∧ True)) := by
  refine ConE.of (by decide +kernel) rfl (Nat.le_of_ble_eq_true rfl) rfl (fun X hX hZ hE => ?_)
  subst hX
  have hS0 : St T cn K N d wi_X12_back wr_X12_back I0 R0 I0 R0 := St.rf0 hW0
  rcases rf15_3 hW0 ta0 with d2 | ⟨a1, d2, ta1⟩
  · skip
    refine tr_aload_n dX12_back_0 rfl ?_
    refine q_iconst dX12_back_1 (by decide) ?_
    intro v3 h4
    refine q_putI dX12_back_2 fl12_70 (kR15 hS0.1 ta0) (Or.inl rfl) hS0 ta0 (iokF rfl) rfl (by decide +kernel) ?_
    intro I5 hS6 e7 f8
    refine tr_aload_n dX12_back_5 rfl ?_
    refine tr_getN dX12_back_6 fl12_385 (kR15 hS6.1 ta0) d2 ?_
    refine tr_ifnullN 24 dX12_back_9 (by decide) ?_
    refine tr_aload_n dX12_back_24 rfl ?_
    refine q_iconst dX12_back_25 (by decide) ?_
    intro v9 h10
    refine q_callVi hE (M' := mX12_denied) (as := [_]) dX12_back_26 lk12_507 inX12_denied seX12_denied myX12_denied (by decide) ⟨by decide, by decide⟩ rfl (kR15 hS6.1 ta0) (Nat.le_of_ble_eq_true rfl) rfl rfl (by decide) (by decide) (k_X12_denied hS6.1 ta0) ?_
    rintro v15 cn' K' N' I11 R12 L13 ⟨rfl, rfl, rfl, rfl, rfl, g14, h16, -⟩
    have hS17 := hS6.tr g14 (by decide +kernel) (by decide +kernel)
    have c18 : I11 a0 0 = v3 := (g14.cell ta0 (by decide +kernel)).trans e7
    exact tr_zret hZ dX12_back_29 rfl (ti_b01 (by omega) (by omega)) (by decide) (by decide) ⟨v15, rfl, rfl, rfl, rfl, rfl, rfl, hS17, (by omega), trivial⟩
  · skip
    refine tr_aload_n dX12_back_0 rfl ?_
    refine q_iconst dX12_back_1 (by decide) ?_
    intro v19 h20
    refine q_putI dX12_back_2 fl12_70 (kR15 hS0.1 ta0) (Or.inl rfl) hS0 ta0 (iokF rfl) rfl (by decide +kernel) ?_
    intro I21 hS22 e23 f24
    refine tr_aload_n dX12_back_5 rfl ?_
    refine tr_getR dX12_back_6 fl12_385 (kR15 hS22.1 ta0) d2 ?_
    refine tr_ifnull dX12_back_9 ?_
    refine tr_iload_n dX12_back_12 rfl ?_
    refine q_if_lt 24 dX12_back_13 (by decide) (fun h25 => ?_) (fun h25 => ?_)
    · skip
      refine tr_aload_n dX12_back_24 rfl ?_
      refine q_iconst dX12_back_25 (by decide) ?_
      intro v26 h27
      refine q_callVi hE (M' := mX12_denied) (as := [_]) dX12_back_26 lk12_507 inX12_denied seX12_denied myX12_denied (by decide) ⟨by decide, by decide⟩ rfl (kR15 hS22.1 ta0) (Nat.le_of_ble_eq_true rfl) rfl rfl (by decide) (by decide) (k_X12_denied hS22.1 ta0) ?_
      rintro v32 cn' K' N' I28 R29 L30 ⟨rfl, rfl, rfl, rfl, rfl, g31, h33, -⟩
      have hS34 := hS22.tr g31 (by decide +kernel) (by decide +kernel)
      have c35 : I28 a0 0 = v19 := (g31.cell ta0 (by decide +kernel)).trans e23
      exact tr_zret hZ dX12_back_29 rfl (ti_b01 (by omega) (by omega)) (by decide) (by decide) ⟨v32, rfl, rfl, rfl, rfl, rfl, rfl, hS34, (by omega), trivial⟩
    · skip
      refine tr_iload_n dX12_back_16 rfl ?_
      refine tr_aload_n dX12_back_17 rfl ?_
      obtain ⟨v36, c37⟩ : ∃ v, I0 a0 20 = v := ⟨_, rfl⟩
      have b38 := iv15_20 hW0 ta0 c37
      refine q_getI dX12_back_18 fl12_390 (kR15 hS22.1 ta0) ((hS22.cell ta0 (by decide +kernel)).trans c37) ?_
      refine q_icmp_lt 30 dX12_back_21 (by decide) (fun h39 => ?_) (fun h39 => ?_)
      · skip
        refine q_iconst dX12_back_30 (by decide) ?_
        intro v40 h41
        refine tr_istore_n dX12_back_31 (by decide) (by decide) ?_
        have lp49 : ∀ (fu : Nat) (ls : Nat → Option Value) (v42 : Int32) (I46 : cz_I), ls 0 = some (.ref a0) → ls 1 = some (.int x1) → ls 2 = some (.int v42) → St T cn K N d wi_X12_back wr_X12_back I0 R0 I46 R0 → 0 ≤ v42.toInt → (-v42.toInt + 2147483647).toNat < fu → Tr X mX12_back 32 ls [] cn K N I46 R0 L0 0 0 := by
          intro fu
          induction fu with
          | zero => intros; rename_i hz; exact absurd hz (Nat.not_lt_zero _)
          | succ fu ih49 =>
            intro ls v42 I46 hl43 hl44 hl45 hS47 g48 hm49
            refine tr_iload_n dX12_back_32 hl45 ?_
            refine q_bipush dX12_back_33 (by decide +kernel) ?_
            intro v51 h52
            refine q_icmp_ge 61 dX12_back_35 (by decide) (fun h53 => ?_) (fun h53 => ?_)
            · skip
              refine tr_aload_n dX12_back_61 hl43 ?_
              refine q_iconst dX12_back_62 (by decide) ?_
              intro v54 h55
              refine q_putI dX12_back_63 fl12_387 (kR15 hS47.1 ta0) (Or.inl rfl) hS47 ta0 (by show (0 : Int) ≤ v54.toInt ∧ v54.toInt ≤ (12 : Int); omega) rfl (by decide +kernel) ?_
              intro I56 hS57 e58 f59
              refine tr_aload_n dX12_back_66 hl43 ?_
              refine q_callVi hE (M' := mX12_granted) (as := []) dX12_back_67 lk12_513 inX12_granted seX12_granted myX12_granted (by decide) ⟨by decide, by decide⟩ rfl (kR15 hS57.1 ta0) (Nat.le_of_ble_eq_true rfl) rfl rfl (by decide) (by decide) (k_X12_granted hS57.1 ta0) ?_
              rintro v64 cn' K' N' I60 R61 L62 ⟨rfl, rfl, rfl, rfl, rfl, g63, h65, -⟩
              have hS66 := hS57.tr g63 (by decide +kernel) (by decide +kernel)
              have c67 : I60 a0 19 = v54 := (g63.cell ta0 (by decide +kernel)).trans e58
              exact tr_zret hZ dX12_back_70 rfl (ti_b01 (by omega) (by omega)) (by decide) (by decide) ⟨v64, rfl, rfl, rfl, rfl, rfl, rfl, hS66, (by omega), trivial⟩
            · skip
              refine tr_aload_n dX12_back_38 hl43 ?_
              obtain ⟨a68, d69, ta68⟩ := rf15_16 hW0 ta0
              refine tr_getR dX12_back_39 fl12_17 (kR15 hS47.1 ta0) d69 ?_
              refine tr_iload_n dX12_back_42 hl45 ?_
              refine tr_aload_n dX12_back_43 hl43 ?_
              obtain ⟨a70, d71, ta70⟩ := rf15_18 hW0 ta0
              refine tr_getR dX12_back_44 fl12_24 (kR15 hS47.1 ta0) d71 ?_
              refine q_bipush dX12_back_47 (by decide +kernel) ?_
              intro v72 h73
              refine tr_iload_n dX12_back_49 hl44 ?_
              refine q_imulE (c := 15) dX12_back_50 (by omega) (by omega) ?_
              intro v74 h75
              refine tr_iload_n dX12_back_51 hl45 ?_
              refine q_iaddE dX12_back_52 (by intros; omega) ?_
              intro v76 h77
              refine q_iald dX12_back_53 (kR79 hS47.1 ta70) (ti_in (nR79 hS47.1 ta70) (by omega) (by omega)) ?_
              intro v78 c79
              refine q_iast dX12_back_54 (kR77 hS47.1 ta68) (ti_in (nR77 hS47.1 ta68) (by omega) (by omega)) hS47 ta68 (iok_w (r := 79) rfl rfl (by have q := ti_nat (i := v42) (by omega); have q2 := ti_nat (i := v76) (by omega); omega) (hS47.1.iv ta70 c79)) rfl (by rfl) ?_
              intro I81 hS82 e84 f83
              refine q_iincE dX12_back_55 hl45 (by decide) (by decide) (by intros; omega) ?_
              intro v85 h86
              refine tr_goto 32 dX12_back_58 (by decide) ?_
              exact ih49 _ v85 I81 hl43 hl44 rfl hS82 (by omega) (by omega)
        exact lp49 _ _ v40 I21 rfl rfl rfl hS22 (by omega) (Nat.lt_succ_self _)
      · skip
        refine tr_aload_n dX12_back_24 rfl ?_
        refine q_iconst dX12_back_25 (by decide) ?_
        intro v87 h88
        refine q_callVi hE (M' := mX12_denied) (as := [_]) dX12_back_26 lk12_507 inX12_denied seX12_denied myX12_denied (by decide) ⟨by decide, by decide⟩ rfl (kR15 hS22.1 ta0) (Nat.le_of_ble_eq_true rfl) rfl rfl (by decide) (by decide) (k_X12_denied hS22.1 ta0) ?_
        rintro v93 cn' K' N' I89 R90 L91 ⟨rfl, rfl, rfl, rfl, rfl, g92, h94, -⟩
        have hS95 := hS22.tr g92 (by decide +kernel) (by decide +kernel)
        have c96 : I89 a0 0 = v19 := (g92.cell ta0 (by decide +kernel)).trans e23
        exact tr_zret hZ dX12_back_29 rfl (ti_b01 (by omega) (by omega)) (by decide) (by decide) ⟨v93, rfl, rfl, rfl, rfl, rfl, rfl, hS95, (by omega), trivial⟩
def wi_X12_event : List Nat := [960, 961, 962]
def wr_X12_event : List Nat := []
set_option maxHeartbeats 4000000 in
theorem k_X12_event {l : Launch} {T : Nat → Nat} {cn : Nat} {K N : Nat → Nat} {I0 : cz_I} {R0 : cz_R} {L0 : cz_L} {d : Int} (hW0 : Wf T cn K N I0 R0 d) {a0 : Nat} (ta0 : T a0 = 15) {x1 : Int32} {x2 : Int32} : ConE l mX12_event [.ref a0, .int x1, .int x2] cn K N I0 R0 L0 (ca_i (fun v cn' K' N' I' R' L' => cn = cn' ∧ K = K' ∧ N = N' ∧ R0 = R' ∧ L0 = L' ∧ St T cn K N d wi_X12_event wr_X12_event I0 R0 I' R0 ∧ True)) := by
  refine ConE.of (by decide +kernel) rfl (Nat.le_of_ble_eq_true rfl) rfl (fun X hX hZ hE => ?_)
  subst hX
  have hS0 : St T cn K N d wi_X12_event wr_X12_event I0 R0 I0 R0 := St.rf0 hW0
  rcases rf15_3 hW0 ta0 with d2 | ⟨a1, d2, ta1⟩
  · skip
    refine tr_aload_n dX12_event_0 rfl ?_
    refine q_iconst dX12_event_1 (by decide) ?_
    intro v3 h4
    refine q_putI dX12_event_2 fl12_70 (kR15 hS0.1 ta0) (Or.inl rfl) hS0 ta0 (iokF rfl) rfl (by decide +kernel) ?_
    intro I5 hS6 e7 f8
    refine tr_aload_n dX12_event_5 rfl ?_
    refine tr_iload_n dX12_event_6 rfl ?_
    obtain ⟨a9, d10, ta9⟩ := rf15_16 hW0 ta0
    obtain ⟨v11, c12⟩ : ∃ v, I0 a9 1 = v := ⟨_, rfl⟩
    have b13 := iv77_1 hW0 ta9 (by decide) c12
    refine q_callVi hE (M' := mX12_isEvent) (as := [_]) dX12_event_7 lk12_467 inX12_isEvent seX12_isEvent myX12_isEvent (by decide) ⟨by decide, by decide⟩ rfl (kR15 hS6.1 ta0) (Nat.le_of_ble_eq_true rfl) rfl rfl (by decide) (by decide) (k_X12_isEvent hS6.1 ta0) ?_
    rintro v18 cn' K' N' I14 R15 L16 ⟨rfl, rfl, rfl, rfl, rfl, rfl, h19, p20, p21, -⟩
    have p22 := (p21 d2)
    refine q_if_eq 22 dX12_event_10 (by decide) (fun h23 => ?_) (fun h23 => ?_)
    · skip
      refine tr_aload_n dX12_event_22 rfl ?_
      refine q_iconst dX12_event_23 (by decide) ?_
      intro v24 h25
      refine q_callVi hE (M' := mX12_refused) (as := [_]) dX12_event_24 lk12_76 inX12_refused seX12_refused myX12_refused (by decide) ⟨by decide, by decide⟩ rfl (kR15 hS6.1 ta0) (Nat.le_of_ble_eq_true rfl) rfl rfl (by decide) (by decide) (k_X12_refused hS6.1 ta0) ?_
      rintro v30 cn' K' N' I26 R27 L28 ⟨rfl, rfl, rfl, rfl, rfl, g29, -⟩
      have hS31 := hS6.tr g29 (by decide +kernel) (by decide +kernel)
      have c32 : I26 a0 0 = v3 := (g29.cell ta0 (by decide +kernel)).trans e7
      exact tr_iret hZ dX12_event_27 rfl (by decide) (by decide) ⟨v30, rfl, rfl, rfl, rfl, rfl, rfl, hS31, trivial⟩
    · skip
      exfalso; omega
  · skip
    refine tr_aload_n dX12_event_0 rfl ?_
    refine q_iconst dX12_event_1 (by decide) ?_
    intro v33 h34
    refine q_putI dX12_event_2 fl12_70 (kR15 hS0.1 ta0) (Or.inl rfl) hS0 ta0 (iokF rfl) rfl (by decide +kernel) ?_
    intro I35 hS36 e37 f38
    refine tr_aload_n dX12_event_5 rfl ?_
    refine tr_iload_n dX12_event_6 rfl ?_
    obtain ⟨v39, c40⟩ : ∃ v, I0 a1 2 = v := ⟨_, rfl⟩
    have b41 := iv14_2 hW0 ta1 c40
    obtain ⟨a42, d43, ta42⟩ := rf15_16 hW0 ta0
    obtain ⟨v44, c45⟩ : ∃ v, I0 a42 1 = v := ⟨_, rfl⟩
    have b46 := iv77_1 hW0 ta42 (by decide) c45
    refine q_callVi hE (M' := mX12_isEvent) (as := [_]) dX12_event_7 lk12_467 inX12_isEvent seX12_isEvent myX12_isEvent (by decide) ⟨by decide, by decide⟩ rfl (kR15 hS36.1 ta0) (Nat.le_of_ble_eq_true rfl) rfl rfl (by decide) (by decide) (k_X12_isEvent hS36.1 ta0) ?_
    rintro v51 cn' K' N' I47 R48 L49 ⟨rfl, rfl, rfl, rfl, rfl, rfl, h52, p53, p54, -⟩
    have p55 := p53 _ d2 _ d43
    clear p53
    rw [((hS36.cell ta1 (by decide +kernel)).trans c40)] at p55
    rw [((hS36.cell ta42 (by decide +kernel)).trans c45)] at p55
    refine q_if_eq 22 dX12_event_10 (by decide) (fun h56 => ?_) (fun h56 => ?_)
    · skip
      refine tr_aload_n dX12_event_22 rfl ?_
      refine q_iconst dX12_event_23 (by decide) ?_
      intro v57 h58
      refine q_callVi hE (M' := mX12_refused) (as := [_]) dX12_event_24 lk12_76 inX12_refused seX12_refused myX12_refused (by decide) ⟨by decide, by decide⟩ rfl (kR15 hS36.1 ta0) (Nat.le_of_ble_eq_true rfl) rfl rfl (by decide) (by decide) (k_X12_refused hS36.1 ta0) ?_
      rintro v63 cn' K' N' I59 R60 L61 ⟨rfl, rfl, rfl, rfl, rfl, g62, -⟩
      have hS64 := hS36.tr g62 (by decide +kernel) (by decide +kernel)
      have c65 : I59 a0 0 = v33 := (g62.cell ta0 (by decide +kernel)).trans e37
      exact tr_iret hZ dX12_event_27 rfl (by decide) (by decide) ⟨v63, rfl, rfl, rfl, rfl, rfl, rfl, hS64, trivial⟩
    · skip
      refine tr_iload_n dX12_event_13 rfl ?_
      refine q_iconst dX12_event_14 (by decide) ?_
      intro v66 h67
      refine q_iconst dX12_event_15 (by decide) ?_
      intro v68 h69
      refine q_callSi hE (M' := mX12_in) (as := [_, _, _]) dX12_event_16 lk12_149 inX12_in myX12_in ⟨by decide, by decide⟩ rfl (Nat.le_of_ble_eq_true rfl) rfl rfl (by decide) (by decide) (k_X12_in hS36.1 ) ?_
      rintro v74 cn' K' N' I70 R71 L72 ⟨rfl, rfl, rfl, rfl, rfl, rfl, h75, p76, p77, -⟩
      refine q_if_ne 28 dX12_event_19 (by decide) (fun h78 => ?_) (fun h78 => ?_)
      · skip
        refine tr_aload_n dX12_event_28 rfl ?_
        refine tr_iload_n dX12_event_29 rfl ?_
        refine q_if_ne 41 dX12_event_30 (by decide) (fun h79 => ?_) (fun h79 => ?_)
        · skip
          refine tr_iload_n dX12_event_41 rfl ?_
          refine q_iconst dX12_event_42 (by decide) ?_
          intro v80 h81
          refine q_icmp_ne 54 dX12_event_43 (by decide) (fun h82 => ?_) (fun h82 => ?_)
          · skip
            refine tr_iload_n dX12_event_54 rfl ?_
            refine q_iconst dX12_event_55 (by decide) ?_
            intro v83 h84
            refine q_icmp_ne 67 dX12_event_56 (by decide) (fun h85 => ?_) (fun h85 => ?_)
            · skip
              refine tr_aload_n dX12_event_67 rfl ?_
              refine tr_iload_n dX12_event_68 rfl ?_
              refine q_callVi hE (M' := mX12_toOf) (as := [_]) dX12_event_69 lk12_398 inX12_toOf seX12_toOf myX12_toOf (by decide) ⟨by decide, by decide⟩ rfl (kR15 hS36.1 ta0) (Nat.le_of_ble_eq_true rfl) rfl rfl (by decide) (by decide) (k_X12_toOf hS36.1 ta0 (by omega) (fun q0 z0 => fun q1 z1 => by obtain rfl := Option.some.inj ((d2).symm.trans z0); obtain rfl := Option.some.inj ((d43).symm.trans z1); (try rw [((hS36.cell ta1 (by decide +kernel)).trans c40)]); (try rw [((hS36.cell ta42 (by decide +kernel)).trans c45)]); (try omega)) ⟨_, d2⟩) ?_
              rintro v90 cn' K' N' I86 R87 L88 ⟨rfl, rfl, rfl, rfl, rfl, rfl, h91, -⟩
              refine q_callVi hE (M' := mX12_good) (as := [_]) dX12_event_72 lk12_81 inX12_good seX12_good myX12_good (by decide) ⟨by decide, by decide⟩ rfl (kR15 hS36.1 ta0) (Nat.le_of_ble_eq_true rfl) rfl rfl (by decide) (by decide) (k_X12_good hS36.1 ta0) ?_
              rintro v96 cn' K' N' I92 R93 L94 ⟨rfl, rfl, rfl, rfl, rfl, g95, -⟩
              have hS97 := hS36.tr g95 (by decide +kernel) (by decide +kernel)
              have c98 : I92 a0 0 = v33 := (g95.cell ta0 (by decide +kernel)).trans e37
              exact tr_iret hZ dX12_event_75 rfl (by decide) (by decide) ⟨v96, rfl, rfl, rfl, rfl, rfl, rfl, hS97, trivial⟩
            · skip
              refine tr_aload_n dX12_event_59 rfl ?_
              refine tr_iload_n dX12_event_60 rfl ?_
              refine q_callVi hE (M' := mX12_fromOf) (as := [_]) dX12_event_61 lk12_395 inX12_fromOf seX12_fromOf myX12_fromOf (by decide) ⟨by decide, by decide⟩ rfl (kR15 hS36.1 ta0) (Nat.le_of_ble_eq_true rfl) rfl rfl (by decide) (by decide) (k_X12_fromOf hS36.1 ta0 (by omega) (fun q0 z0 => fun q1 z1 => by obtain rfl := Option.some.inj ((d2).symm.trans z0); obtain rfl := Option.some.inj ((d43).symm.trans z1); (try rw [((hS36.cell ta1 (by decide +kernel)).trans c40)]); (try rw [((hS36.cell ta42 (by decide +kernel)).trans c45)]); (try omega)) ⟨_, d2⟩) ?_
              rintro v103 cn' K' N' I99 R100 L101 ⟨rfl, rfl, rfl, rfl, rfl, rfl, h104, -⟩
              refine tr_goto 72 dX12_event_64 (by decide) ?_
              refine q_callVi hE (M' := mX12_good) (as := [_]) dX12_event_72 lk12_81 inX12_good seX12_good myX12_good (by decide) ⟨by decide, by decide⟩ rfl (kR15 hS36.1 ta0) (Nat.le_of_ble_eq_true rfl) rfl rfl (by decide) (by decide) (k_X12_good hS36.1 ta0) ?_
              rintro v109 cn' K' N' I105 R106 L107 ⟨rfl, rfl, rfl, rfl, rfl, g108, -⟩
              have hS110 := hS36.tr g108 (by decide +kernel) (by decide +kernel)
              have c111 : I105 a0 0 = v33 := (g108.cell ta0 (by decide +kernel)).trans e37
              exact tr_iret hZ dX12_event_75 rfl (by decide) (by decide) ⟨v109, rfl, rfl, rfl, rfl, rfl, rfl, hS110, trivial⟩
          · skip
            refine tr_aload_n dX12_event_46 rfl ?_
            refine tr_iload_n dX12_event_47 rfl ?_
            refine q_callVi hE (M' := mX12_hutOf) (as := [_]) dX12_event_48 lk12_407 inX12_hutOf seX12_hutOf myX12_hutOf (by decide) ⟨by decide, by decide⟩ rfl (kR15 hS36.1 ta0) (Nat.le_of_ble_eq_true rfl) rfl rfl (by decide) (by decide) (k_X12_hutOf hS36.1 ta0 (by omega) ⟨_, d2⟩) ?_
            rintro v116 cn' K' N' I112 R113 L114 ⟨rfl, rfl, rfl, rfl, rfl, rfl, h117, r118, -⟩
            refine tr_goto 72 dX12_event_51 (by decide) ?_
            refine q_callVi hE (M' := mX12_good) (as := [_]) dX12_event_72 lk12_81 inX12_good seX12_good myX12_good (by decide) ⟨by decide, by decide⟩ rfl (kR15 hS36.1 ta0) (Nat.le_of_ble_eq_true rfl) rfl rfl (by decide) (by decide) (k_X12_good hS36.1 ta0) ?_
            rintro v123 cn' K' N' I119 R120 L121 ⟨rfl, rfl, rfl, rfl, rfl, g122, -⟩
            have hS124 := hS36.tr g122 (by decide +kernel) (by decide +kernel)
            have c125 : I119 a0 0 = v33 := (g122.cell ta0 (by decide +kernel)).trans e37
            exact tr_iret hZ dX12_event_75 rfl (by decide) (by decide) ⟨v123, rfl, rfl, rfl, rfl, rfl, rfl, hS124, trivial⟩
        · skip
          refine tr_aload_n dX12_event_33 rfl ?_
          refine tr_iload_n dX12_event_34 rfl ?_
          refine q_callVi hE (M' := mX12_kindOf) (as := [_]) dX12_event_35 lk12_404 inX12_kindOf seX12_kindOf myX12_kindOf (by decide) ⟨by decide, by decide⟩ rfl (kR15 hS36.1 ta0) (Nat.le_of_ble_eq_true rfl) rfl rfl (by decide) (by decide) (k_X12_kindOf hS36.1 ta0 (by omega) ⟨_, d2⟩) ?_
          rintro v130 cn' K' N' I126 R127 L128 ⟨rfl, rfl, rfl, rfl, rfl, rfl, r131, -⟩
          refine tr_goto 72 dX12_event_38 (by decide) ?_
          refine q_callVi hE (M' := mX12_good) (as := [_]) dX12_event_72 lk12_81 inX12_good seX12_good myX12_good (by decide) ⟨by decide, by decide⟩ rfl (kR15 hS36.1 ta0) (Nat.le_of_ble_eq_true rfl) rfl rfl (by decide) (by decide) (k_X12_good hS36.1 ta0) ?_
          rintro v136 cn' K' N' I132 R133 L134 ⟨rfl, rfl, rfl, rfl, rfl, g135, -⟩
          have hS137 := hS36.tr g135 (by decide +kernel) (by decide +kernel)
          have c138 : I132 a0 0 = v33 := (g135.cell ta0 (by decide +kernel)).trans e37
          exact tr_iret hZ dX12_event_75 rfl (by decide) (by decide) ⟨v136, rfl, rfl, rfl, rfl, rfl, rfl, hS137, trivial⟩
      · skip
        refine tr_aload_n dX12_event_22 rfl ?_
        refine q_iconst dX12_event_23 (by decide) ?_
        intro v139 h140
        refine q_callVi hE (M' := mX12_refused) (as := [_]) dX12_event_24 lk12_76 inX12_refused seX12_refused myX12_refused (by decide) ⟨by decide, by decide⟩ rfl (kR15 hS36.1 ta0) (Nat.le_of_ble_eq_true rfl) rfl rfl (by decide) (by decide) (k_X12_refused hS36.1 ta0) ?_
        rintro v145 cn' K' N' I141 R142 L143 ⟨rfl, rfl, rfl, rfl, rfl, g144, -⟩
        have hS146 := hS36.tr g144 (by decide +kernel) (by decide +kernel)
        have c147 : I141 a0 0 = v33 := (g144.cell ta0 (by decide +kernel)).trans e37
        exact tr_iret hZ dX12_event_27 rfl (by decide) (by decide) ⟨v145, rfl, rfl, rfl, rfl, rfl, rfl, hS146, trivial⟩
def wi_X12_size : List Nat := [960]
def wr_X12_size : List Nat := []
set_option maxHeartbeats 4000000 in
theorem k_X12_size {l : Launch} {T : Nat → Nat} {cn : Nat} {K N : Nat → Nat} {I0 : cz_I} {R0 : cz_R} {L0 : cz_L} {d : Int} (hW0 : Wf T cn K N I0 R0 d) {a0 : Nat} (ta0 : T a0 = 15) {x1 : Int32} : ConE l mX12_size [.ref a0, .int x1] cn K N I0 R0 L0 (ca_i (fun v cn' K' N' I' R' L' => cn = cn' ∧ K = K' ∧ N = N' ∧ R0 = R' ∧ L0 = L' ∧ St T cn K N d wi_X12_size wr_X12_size I0 R0 I' R0 ∧ True)) := by
  refine ConE.of (by decide +kernel) rfl (Nat.le_of_ble_eq_true rfl) rfl (fun X hX hZ hE => ?_)
  subst hX
  have hS0 : St T cn K N d wi_X12_size wr_X12_size I0 R0 I0 R0 := St.rf0 hW0
  rcases rf15_3 hW0 ta0 with d2 | ⟨a1, d2, ta1⟩
  · skip
    refine tr_aload_n dX12_size_0 rfl ?_
    refine q_iconst dX12_size_1 (by decide) ?_
    intro v3 h4
    refine q_putI dX12_size_2 fl12_70 (kR15 hS0.1 ta0) (Or.inl rfl) hS0 ta0 (iokF rfl) rfl (by decide +kernel) ?_
    intro I5 hS6 e7 f8
    refine tr_iload_n dX12_size_5 rfl ?_
    refine q_bipush dX12_size_6 (by decide +kernel) ?_
    intro v9 h10
    refine q_icmp_ne 16 dX12_size_8 (by decide) (fun h11 => ?_) (fun h11 => ?_)
    · skip
      refine tr_iload_n dX12_size_16 rfl ?_
      refine q_iconst dX12_size_17 (by decide) ?_
      intro v12 h13
      refine q_bipush dX12_size_18 (by decide +kernel) ?_
      intro v14 h15
      refine q_callSi hE (M' := mX12_in) (as := [_, _, _]) dX12_size_20 lk12_149 inX12_in myX12_in ⟨by decide, by decide⟩ rfl (Nat.le_of_ble_eq_true rfl) rfl rfl (by decide) (by decide) (k_X12_in hS6.1 ) ?_
      rintro v20 cn' K' N' I16 R17 L18 ⟨rfl, rfl, rfl, rfl, rfl, rfl, h21, p22, p23, -⟩
      refine q_if_ne 28 dX12_size_23 (by decide) (fun h24 => ?_) (fun h24 => ?_)
      · skip
        refine tr_aload_n dX12_size_28 rfl ?_
        refine tr_getN dX12_size_29 fl12_385 (kR15 hS6.1 ta0) d2 ?_
        refine tr_ifnonnullN dX12_size_32 ?_
        refine q_iconst dX12_size_35 (by decide) ?_
        intro v25 h26
        exact tr_iret hZ dX12_size_36 rfl (by decide) (by decide) ⟨v25, rfl, rfl, rfl, rfl, rfl, rfl, hS6, trivial⟩
      · skip
        refine q_iconst dX12_size_26 (by decide) ?_
        intro v27 h28
        exact tr_iret hZ dX12_size_27 rfl (by decide) (by decide) ⟨v27, rfl, rfl, rfl, rfl, rfl, rfl, hS6, trivial⟩
    · skip
      refine tr_aload_n dX12_size_11 rfl ?_
      obtain ⟨v29, c30⟩ : ∃ v, I0 a0 6 = v := ⟨_, rfl⟩
      have b31 := iv15_6 hW0 ta0 c30
      refine q_getI dX12_size_12 fl12_378 (kR15 hS6.1 ta0) ((hS6.cell ta0 (by decide +kernel)).trans c30) ?_
      exact tr_iret hZ dX12_size_15 rfl (by decide) (by decide) ⟨v29, rfl, rfl, rfl, rfl, rfl, rfl, hS6, trivial⟩
  · skip
    refine tr_aload_n dX12_size_0 rfl ?_
    refine q_iconst dX12_size_1 (by decide) ?_
    intro v32 h33
    refine q_putI dX12_size_2 fl12_70 (kR15 hS0.1 ta0) (Or.inl rfl) hS0 ta0 (iokF rfl) rfl (by decide +kernel) ?_
    intro I34 hS35 e36 f37
    refine tr_iload_n dX12_size_5 rfl ?_
    refine q_bipush dX12_size_6 (by decide +kernel) ?_
    intro v38 h39
    refine q_icmp_ne 16 dX12_size_8 (by decide) (fun h40 => ?_) (fun h40 => ?_)
    · skip
      refine tr_iload_n dX12_size_16 rfl ?_
      refine q_iconst dX12_size_17 (by decide) ?_
      intro v41 h42
      refine q_bipush dX12_size_18 (by decide +kernel) ?_
      intro v43 h44
      refine q_callSi hE (M' := mX12_in) (as := [_, _, _]) dX12_size_20 lk12_149 inX12_in myX12_in ⟨by decide, by decide⟩ rfl (Nat.le_of_ble_eq_true rfl) rfl rfl (by decide) (by decide) (k_X12_in hS35.1 ) ?_
      rintro v49 cn' K' N' I45 R46 L47 ⟨rfl, rfl, rfl, rfl, rfl, rfl, h50, p51, p52, -⟩
      refine q_if_ne 28 dX12_size_23 (by decide) (fun h53 => ?_) (fun h53 => ?_)
      · skip
        refine tr_aload_n dX12_size_28 rfl ?_
        refine tr_getR dX12_size_29 fl12_385 (kR15 hS35.1 ta0) d2 ?_
        refine tr_ifnonnull 37 dX12_size_32 (by decide) ?_
        refine tr_iload_n dX12_size_37 rfl ?_
        by_cases h54 : x1.toInt = 0
        · skip
          refine tr_tabIn (off := 58) 96 dX12_size_38 (by omega) (by omega) (by rw [h54]; decide +kernel) (by decide) ?_
          refine tr_aload_n dX12_size_96 rfl ?_
          refine tr_getR dX12_size_97 fl12_385 (kR15 hS35.1 ta0) d2 ?_
          obtain ⟨v55, c56⟩ : ∃ v, I0 a1 0 = v := ⟨_, rfl⟩
          have b57 := hW0.2.2.2.2.2.1 a0 ta0 _ d2
          rw [c56] at b57
          have b58 := iv14_0 hW0 ta1 c56
          refine q_getI dX12_size_100 fl12_192 (kR14 hS35.1 ta1) ((hS35.cell ta1 (by decide +kernel)).trans c56) ?_
          exact tr_iret hZ dX12_size_103 rfl (by decide) (by decide) ⟨v55, rfl, rfl, rfl, rfl, rfl, rfl, hS35, trivial⟩
        · skip
          by_cases h59 : x1.toInt = 1
          · skip
            refine tr_tabIn (off := 66) 104 dX12_size_38 (by omega) (by omega) (by rw [h59]; decide +kernel) (by decide) ?_
            refine tr_aload_n dX12_size_104 rfl ?_
            refine tr_getR dX12_size_105 fl12_385 (kR15 hS35.1 ta0) d2 ?_
            obtain ⟨v60, c61⟩ : ∃ v, I0 a1 1 = v := ⟨_, rfl⟩
            have b62 := iv14_1 hW0 ta1 c61
            refine q_getI dX12_size_108 fl12_263 (kR14 hS35.1 ta1) ((hS35.cell ta1 (by decide +kernel)).trans c61) ?_
            exact tr_iret hZ dX12_size_111 rfl (by decide) (by decide) ⟨v60, rfl, rfl, rfl, rfl, rfl, rfl, hS35, trivial⟩
          · skip
            by_cases h63 : x1.toInt = 2
            · skip
              refine tr_tabIn (off := 74) 112 dX12_size_38 (by omega) (by omega) (by rw [h63]; decide +kernel) (by decide) ?_
              refine tr_aload_n dX12_size_112 rfl ?_
              refine tr_getR dX12_size_113 fl12_385 (kR15 hS35.1 ta0) d2 ?_
              obtain ⟨v64, c65⟩ : ∃ v, I0 a1 2 = v := ⟨_, rfl⟩
              have b66 := iv14_2 hW0 ta1 c65
              refine q_getI dX12_size_116 fl12_265 (kR14 hS35.1 ta1) ((hS35.cell ta1 (by decide +kernel)).trans c65) ?_
              exact tr_iret hZ dX12_size_119 rfl (by decide) (by decide) ⟨v64, rfl, rfl, rfl, rfl, rfl, rfl, hS35, trivial⟩
            · skip
              by_cases h67 : x1.toInt = 3
              · skip
                refine tr_tabIn (off := 82) 120 dX12_size_38 (by omega) (by omega) (by rw [h67]; decide +kernel) (by decide) ?_
                refine tr_aload_n dX12_size_120 rfl ?_
                obtain ⟨a68, d69, ta68⟩ := rf15_16 hW0 ta0
                refine tr_getR dX12_size_121 fl12_17 (kR15 hS35.1 ta0) d69 ?_
                refine q_iconst dX12_size_124 (by decide) ?_
                intro v70 h71
                obtain ⟨v72, c73⟩ : ∃ v, I0 a68 1 = v := ⟨_, rfl⟩
                have b74 := iv77_1 hW0 ta68 (by decide) c73
                refine q_iald dX12_size_125 (kR77 hS35.1 ta68) (ti_in (nR77 hS35.1 ta68) (by omega) (by omega)) ?_
                intro v75 c76
                rw [show v70.toNatClampNeg = 1 from ti_cl (by omega)] at c76
                obtain rfl : v72 = v75 := (((hS35.cell ta68 (by decide +kernel)).trans c73)).symm.trans c76
                exact tr_iret hZ dX12_size_126 rfl (by decide) (by decide) ⟨v72, rfl, rfl, rfl, rfl, rfl, rfl, hS35, trivial⟩
              · skip
                by_cases h77 : x1.toInt = 4
                · skip
                  refine tr_tabIn (off := 89) 127 dX12_size_38 (by omega) (by omega) (by rw [h77]; decide +kernel) (by decide) ?_
                  refine tr_aload_n dX12_size_127 rfl ?_
                  refine tr_getR dX12_size_128 fl12_385 (kR15 hS35.1 ta0) d2 ?_
                  obtain ⟨v78, c79⟩ : ∃ v, I0 a1 3 = v := ⟨_, rfl⟩
                  have b80 := iv14_3 hW0 ta1 c79
                  refine q_getI dX12_size_131 fl12_224 (kR14 hS35.1 ta1) ((hS35.cell ta1 (by decide +kernel)).trans c79) ?_
                  exact tr_iret hZ dX12_size_134 rfl (by decide) (by decide) ⟨v78, rfl, rfl, rfl, rfl, rfl, rfl, hS35, trivial⟩
                · skip
                  by_cases h81 : x1.toInt = 5
                  · skip
                    refine tr_tabIn (off := 97) 135 dX12_size_38 (by omega) (by omega) (by rw [h81]; decide +kernel) (by decide) ?_
                    refine tr_aload_n dX12_size_135 rfl ?_
                    refine tr_getR dX12_size_136 fl12_385 (kR15 hS35.1 ta0) d2 ?_
                    obtain ⟨v82, c83⟩ : ∃ v, I0 a1 4 = v := ⟨_, rfl⟩
                    have b84 := iv14_4 hW0 ta1 c83
                    refine q_getI dX12_size_139 fl12_315 (kR14 hS35.1 ta1) ((hS35.cell ta1 (by decide +kernel)).trans c83) ?_
                    exact tr_iret hZ dX12_size_142 rfl (by decide) (by decide) ⟨v82, rfl, rfl, rfl, rfl, rfl, rfl, hS35, trivial⟩
                  · skip
                    by_cases h85 : x1.toInt = 6
                    · skip
                      refine tr_tabIn (off := 105) 143 dX12_size_38 (by omega) (by omega) (by rw [h85]; decide +kernel) (by decide) ?_
                      refine tr_aload_n dX12_size_143 rfl ?_
                      refine tr_getR dX12_size_144 fl12_385 (kR15 hS35.1 ta0) d2 ?_
                      obtain ⟨v86, c87⟩ : ∃ v, I0 a1 5 = v := ⟨_, rfl⟩
                      have b88 := iv14_5 hW0 ta1 c87
                      refine q_getI dX12_size_147 fl12_349 (kR14 hS35.1 ta1) ((hS35.cell ta1 (by decide +kernel)).trans c87) ?_
                      exact tr_iret hZ dX12_size_150 rfl (by decide) (by decide) ⟨v86, rfl, rfl, rfl, rfl, rfl, rfl, hS35, trivial⟩
                    · skip
                      by_cases h89 : x1.toInt = 7
                      · skip
                        refine tr_tabIn (off := 113) 151 dX12_size_38 (by omega) (by omega) (by rw [h89]; decide +kernel) (by decide) ?_
                        refine tr_aload_n dX12_size_151 rfl ?_
                        refine tr_getR dX12_size_152 fl12_385 (kR15 hS35.1 ta0) d2 ?_
                        obtain ⟨v90, c91⟩ : ∃ v, I0 a1 6 = v := ⟨_, rfl⟩
                        have b92 := iv14_6 hW0 ta1 c91
                        refine q_getI dX12_size_155 fl12_370 (kR14 hS35.1 ta1) ((hS35.cell ta1 (by decide +kernel)).trans c91) ?_
                        exact tr_iret hZ dX12_size_158 rfl (by decide) (by decide) ⟨v90, rfl, rfl, rfl, rfl, rfl, rfl, hS35, trivial⟩
                      · skip
                        by_cases h93 : x1.toInt = 8
                        · skip
                          refine tr_tabIn (off := 121) 159 dX12_size_38 (by omega) (by omega) (by rw [h93]; decide +kernel) (by decide) ?_
                          refine tr_aload_n dX12_size_159 rfl ?_
                          refine tr_getR dX12_size_160 fl12_385 (kR15 hS35.1 ta0) d2 ?_
                          obtain ⟨v94, c95⟩ : ∃ v, I0 a1 8 = v := ⟨_, rfl⟩
                          have b96 := iv14_8 hW0 ta1 c95
                          refine q_getI dX12_size_163 fl12_312 (kR14 hS35.1 ta1) ((hS35.cell ta1 (by decide +kernel)).trans c95) ?_
                          exact tr_iret hZ dX12_size_166 rfl (by decide) (by decide) ⟨v94, rfl, rfl, rfl, rfl, rfl, rfl, hS35, trivial⟩
                        · skip
                          by_cases h97 : x1.toInt = 9
                          · skip
                            refine tr_tabIn (off := 129) 167 dX12_size_38 (by omega) (by omega) (by rw [h97]; decide +kernel) (by decide) ?_
                            refine tr_aload_n dX12_size_167 rfl ?_
                            obtain ⟨a98, d99, ta98⟩ := rf15_16 hW0 ta0
                            refine tr_getR dX12_size_168 fl12_17 (kR15 hS35.1 ta0) d99 ?_
                            refine q_iconst dX12_size_171 (by decide) ?_
                            intro v100 h101
                            obtain ⟨v102, c103⟩ : ∃ v, I0 a98 2 = v := ⟨_, rfl⟩
                            have b104 := iv77_2 hW0 ta98 (by decide) c103
                            refine q_iald dX12_size_172 (kR77 hS35.1 ta98) (ti_in (nR77 hS35.1 ta98) (by omega) (by omega)) ?_
                            intro v105 c106
                            rw [show v100.toNatClampNeg = 2 from ti_cl (by omega)] at c106
                            obtain rfl : v102 = v105 := (((hS35.cell ta98 (by decide +kernel)).trans c103)).symm.trans c106
                            exact tr_iret hZ dX12_size_173 rfl (by decide) (by decide) ⟨v102, rfl, rfl, rfl, rfl, rfl, rfl, hS35, trivial⟩
                          · skip
                            by_cases h107 : x1.toInt = 10
                            · skip
                              refine tr_tabIn (off := 136) 174 dX12_size_38 (by omega) (by omega) (by rw [h107]; decide +kernel) (by decide) ?_
                              refine tr_aload_n dX12_size_174 rfl ?_
                              obtain ⟨v108, c109⟩ : ∃ v, I0 a0 19 = v := ⟨_, rfl⟩
                              have b110 := iv15_19 hW0 ta0 c109
                              refine q_getI dX12_size_175 fl12_387 (kR15 hS35.1 ta0) ((hS35.cell ta0 (by decide +kernel)).trans c109) ?_
                              exact tr_iret hZ dX12_size_178 rfl (by decide) (by decide) ⟨v108, rfl, rfl, rfl, rfl, rfl, rfl, hS35, trivial⟩
                            · skip
                              refine tr_tabOut 179 dX12_size_38 (by omega) (by decide) ?_
                              refine tr_aload_n dX12_size_179 rfl ?_
                              obtain ⟨v111, c112⟩ : ∃ v, I0 a0 20 = v := ⟨_, rfl⟩
                              have b113 := iv15_20 hW0 ta0 c112
                              refine q_getI dX12_size_180 fl12_390 (kR15 hS35.1 ta0) ((hS35.cell ta0 (by decide +kernel)).trans c112) ?_
                              exact tr_iret hZ dX12_size_183 rfl (by decide) (by decide) ⟨v111, rfl, rfl, rfl, rfl, rfl, rfl, hS35, trivial⟩
      · skip
        refine q_iconst dX12_size_26 (by decide) ?_
        intro v114 h115
        exact tr_iret hZ dX12_size_27 rfl (by decide) (by decide) ⟨v114, rfl, rfl, rfl, rfl, rfl, rfl, hS35, trivial⟩
    · skip
      refine tr_aload_n dX12_size_11 rfl ?_
      obtain ⟨v116, c117⟩ : ∃ v, I0 a0 6 = v := ⟨_, rfl⟩
      have b118 := iv15_6 hW0 ta0 c117
      refine q_getI dX12_size_12 fl12_378 (kR15 hS35.1 ta0) ((hS35.cell ta0 (by decide +kernel)).trans c117) ?_
      exact tr_iret hZ dX12_size_15 rfl (by decide) (by decide) ⟨v116, rfl, rfl, rfl, rfl, rfl, rfl, hS35, trivial⟩
def wi_X12_trouble : List Nat := [960]
def wr_X12_trouble : List Nat := []
set_option maxHeartbeats 4000000 in
theorem k_X12_trouble {l : Launch} {T : Nat → Nat} {cn : Nat} {K N : Nat → Nat} {I0 : cz_I} {R0 : cz_R} {L0 : cz_L} {d : Int} (hW0 : Wf T cn K N I0 R0 d) {a0 : Nat} (ta0 : T a0 = 15) : ConE l mX12_trouble [.ref a0] cn K N I0 R0 L0 (ca_i (fun v cn' K' N' I' R' L' => cn = cn' ∧ K = K' ∧ N = N' ∧ R0 = R' ∧ L0 = L' ∧ St T cn K N d wi_X12_trouble wr_X12_trouble I0 R0 I' R0 ∧ True)) := by
  refine ConE.of (by decide +kernel) rfl (Nat.le_of_ble_eq_true rfl) rfl (fun X hX hZ hE => ?_)
  subst hX
  have hS0 : St T cn K N d wi_X12_trouble wr_X12_trouble I0 R0 I0 R0 := St.rf0 hW0
  refine tr_aload_n dX12_trouble_0 rfl ?_
  refine q_iconst dX12_trouble_1 (by decide) ?_
  intro v1 h2
  refine q_putI dX12_trouble_2 fl12_70 (kR15 hS0.1 ta0) (Or.inl rfl) hS0 ta0 (iokF rfl) rfl (by decide +kernel) ?_
  intro I3 hS4 e5 f6
  refine tr_aload_n dX12_trouble_5 rfl ?_
  obtain ⟨v7, c8⟩ : ∃ v, I0 a0 1 = v := ⟨_, rfl⟩
  refine q_getI dX12_trouble_6 fl12_73 (kR15 hS4.1 ta0) ((hS4.cell ta0 (by decide +kernel)).trans c8) ?_
  exact tr_iret hZ dX12_trouble_9 rfl (by decide) (by decide) ⟨v7, rfl, rfl, rfl, rfl, rfl, rfl, hS4, trivial⟩
def wi_X12_led : List Nat := [960, 5247, 5311, 5375, 5439, 5503, 5567, 5631, 5695, 5759, 5823, 5887, 5951, 6015]
def wr_X12_led : List Nat := []
set_option maxHeartbeats 4000000 in
theorem k_X12_led {l : Launch} {T : Nat → Nat} {cn : Nat} {K N : Nat → Nat} {I0 : cz_I} {R0 : cz_R} {L0 : cz_L} {d : Int} (hW0 : Wf T cn K N I0 R0 d) {a0 : Nat} (ta0 : T a0 = 15) {x1 : Int32} : ConE l mX12_led [.ref a0, .int x1] cn K N I0 R0 L0 (ca_i (fun v cn' K' N' I' R' L' => cn = cn' ∧ K = K' ∧ N = N' ∧ R0 = R' ∧ L0 = L' ∧ St T cn K N d wi_X12_led wr_X12_led I0 R0 I' R0 ∧ True)) := by
  refine ConE.of (by decide +kernel) rfl (Nat.le_of_ble_eq_true rfl) rfl (fun X hX hZ hE => ?_)
  subst hX
  have hS0 : St T cn K N d wi_X12_led wr_X12_led I0 R0 I0 R0 := St.rf0 hW0
  rcases rf15_3 hW0 ta0 with d2 | ⟨a1, d2, ta1⟩
  · skip
    refine tr_aload_n dX12_led_0 rfl ?_
    refine q_iconst dX12_led_1 (by decide) ?_
    intro v3 h4
    refine q_putI dX12_led_2 fl12_70 (kR15 hS0.1 ta0) (Or.inl rfl) hS0 ta0 (iokF rfl) rfl (by decide +kernel) ?_
    intro I5 hS6 e7 f8
    refine q_iconst dX12_led_5 (by decide) ?_
    intro v9 h10
    refine tr_istore_n dX12_led_6 (by decide) (by decide) ?_
    refine tr_aload_n dX12_led_7 rfl ?_
    refine tr_getN dX12_led_8 fl12_385 (kR15 hS6.1 ta0) d2 ?_
    refine tr_ifnullN 19 dX12_led_11 (by decide) ?_
    refine q_iconst dX12_led_19 (by decide) ?_
    intro v11 h12
    refine tr_istore_n dX12_led_20 (by decide) (by decide) ?_
    have lp22 : ∀ (fu : Nat) (ls : Nat → Option Value) (v13 : Int32) (v14 : Int32) (I19 : cz_I), ls 0 = some (.ref a0) → ls 1 = some (.int x1) → ls 2 = some (.int v13) → ls 3 = some (.int v14) → St T cn K N d wi_X12_led wr_X12_led I0 R0 I19 R0 → 0 ≤ v14.toInt → (-v14.toInt + 2147483647).toNat < fu → Tr X mX12_led 21 ls [] cn K N I19 R0 L0 0 0 := by
      intro fu
      induction fu with
      | zero => intros; rename_i hz; exact absurd hz (Nat.not_lt_zero _)
      | succ fu ih22 =>
        intro ls v13 v14 I19 hl15 hl16 hl17 hl18 hS20 g21 hm22
        refine tr_aload_n dX12_led_21 hl15 ?_
        refine tr_getN dX12_led_22 fl12_385 (kR15 hS20.1 ta0) d2 ?_
        refine tr_ifnullN 67 dX12_led_25 (by decide) ?_
        refine tr_aload_n dX12_led_67 hl15 ?_
        refine q_iconst dX12_led_68 (by decide) ?_
        intro v24 h25
        refine q_putI dX12_led_69 fl12_70 (kR15 hS20.1 ta0) (Or.inl rfl) hS20 ta0 (iokF rfl) rfl (by decide +kernel) ?_
        intro I26 hS27 e28 f29
        refine q_iconst dX12_led_72 (by decide) ?_
        intro v30 h31
        exact tr_iret hZ dX12_led_73 rfl (by decide) (by decide) ⟨v30, rfl, rfl, rfl, rfl, rfl, rfl, hS27, trivial⟩
    exact lp22 _ _ v9 v11 I5 rfl rfl rfl rfl hS6 (by omega) (Nat.lt_succ_self _)
  · skip
    refine tr_aload_n dX12_led_0 rfl ?_
    refine q_iconst dX12_led_1 (by decide) ?_
    intro v32 h33
    refine q_putI dX12_led_2 fl12_70 (kR15 hS0.1 ta0) (Or.inl rfl) hS0 ta0 (iokF rfl) rfl (by decide +kernel) ?_
    intro I34 hS35 e36 f37
    refine q_iconst dX12_led_5 (by decide) ?_
    intro v38 h39
    refine tr_istore_n dX12_led_6 (by decide) (by decide) ?_
    refine tr_aload_n dX12_led_7 rfl ?_
    refine tr_getR dX12_led_8 fl12_385 (kR15 hS35.1 ta0) d2 ?_
    refine tr_ifnull dX12_led_11 ?_
    refine tr_aload_n dX12_led_14 rfl ?_
    refine q_callVi hE (M' := mX12_tonight) (as := []) dX12_led_15 lk12_455 inX12_tonight seX12_tonight myX12_tonight (by decide) ⟨by decide, by decide⟩ rfl (kR15 hS35.1 ta0) (Nat.le_of_ble_eq_true rfl) rfl rfl (by decide) (by decide) (k_X12_tonight hS35.1 ta0 ⟨_, d2⟩) ?_
    rintro v44 cn' K' N' I40 R41 L42 ⟨rfl, rfl, rfl, rfl, rfl, g43, -⟩
    have hS45 := hS35.tr g43 (by decide +kernel) (by decide +kernel)
    have c46 : I40 a0 0 = v32 := (g43.cell ta0 (by decide +kernel)).trans e36
    refine tr_pop dX12_led_18 rfl ?_
    refine q_iconst dX12_led_19 (by decide) ?_
    intro v47 h48
    refine tr_istore_n dX12_led_20 (by decide) (by decide) ?_
    have lp58 : ∀ (fu : Nat) (ls : Nat → Option Value) (v49 : Int32) (v50 : Int32) (I55 : cz_I), ls 0 = some (.ref a0) → ls 1 = some (.int x1) → ls 2 = some (.int v49) → ls 3 = some (.int v50) → St T cn K N d wi_X12_led wr_X12_led I0 R0 I55 R0 → 0 ≤ v50.toInt → (-v50.toInt + 2147483647).toNat < fu → Tr X mX12_led 21 ls [] cn K N I55 R0 L0 0 0 := by
      intro fu
      induction fu with
      | zero => intros; rename_i hz; exact absurd hz (Nat.not_lt_zero _)
      | succ fu ih58 =>
        intro ls v49 v50 I55 hl51 hl52 hl53 hl54 hS56 g57 hm58
        refine tr_aload_n dX12_led_21 hl51 ?_
        refine tr_getR dX12_led_22 fl12_385 (kR15 hS56.1 ta0) d2 ?_
        refine tr_ifnull dX12_led_25 ?_
        refine tr_iload_n dX12_led_28 hl54 ?_
        refine tr_aload_n dX12_led_29 hl51 ?_
        refine tr_getR dX12_led_30 fl12_385 (kR15 hS56.1 ta0) d2 ?_
        obtain ⟨v60, c61⟩ : ∃ v, I0 a1 3 = v := ⟨_, rfl⟩
        have b62 := iv14_3 hW0 ta1 c61
        refine q_getI dX12_led_33 fl12_224 (kR14 hS56.1 ta1) ((hS56.cell ta1 (by decide +kernel)).trans c61) ?_
        refine q_icmp_ge 67 dX12_led_36 (by decide) (fun h63 => ?_) (fun h63 => ?_)
        · skip
          refine tr_aload_n dX12_led_67 hl51 ?_
          refine q_iconst dX12_led_68 (by decide) ?_
          intro v64 h65
          refine q_putI dX12_led_69 fl12_70 (kR15 hS56.1 ta0) (Or.inl rfl) hS56 ta0 (iokF rfl) rfl (by decide +kernel) ?_
          intro I66 hS67 e68 f69
          refine q_iconst dX12_led_72 (by decide) ?_
          intro v70 h71
          exact tr_iret hZ dX12_led_73 rfl (by decide) (by decide) ⟨v70, rfl, rfl, rfl, rfl, rfl, rfl, hS67, trivial⟩
        · skip
          refine tr_aload_n dX12_led_39 hl51 ?_
          obtain ⟨a72, d73, ta72⟩ := rf15_30 hW0 ta0
          refine tr_getR dX12_led_40 fl12_55 (kR15 hS56.1 ta0) d73 ?_
          refine tr_iload_n dX12_led_43 hl54 ?_
          refine q_iald dX12_led_44 (kR90 hS56.1 ta72) (ti_in (nR90 hS56.1 ta72) (by omega) (by omega)) ?_
          intro v74 c75
          refine q_if_ne 51 dX12_led_45 (by decide) (fun h76 => ?_) (fun h76 => ?_)
          · skip
            refine tr_iload_n dX12_led_51 hl53 ?_
            refine tr_iload_n dX12_led_52 hl52 ?_
            refine q_icmp_ne 58 dX12_led_53 (by decide) (fun h77 => ?_) (fun h77 => ?_)
            · skip
              refine q_iinc dX12_led_58 hl53 (by decide) ?_
              intro v78
              refine q_iincE dX12_led_61 hl54 (by decide) (by decide) (by intros; omega) ?_
              intro v79 h80
              refine tr_goto 21 dX12_led_64 (by decide) ?_
              exact ih58 _ v78 v79 I55 hl51 hl52 rfl rfl hS56 (by omega) (by omega)
            · skip
              refine tr_iload_n dX12_led_56 hl54 ?_
              exact tr_iret hZ dX12_led_57 rfl (by decide) (by decide) ⟨v50, rfl, rfl, rfl, rfl, rfl, rfl, hS56, trivial⟩
          · skip
            refine tr_goto 61 dX12_led_48 (by decide) ?_
            refine q_iincE dX12_led_61 hl54 (by decide) (by decide) (by intros; omega) ?_
            intro v81 h82
            refine tr_goto 21 dX12_led_64 (by decide) ?_
            exact ih58 _ v49 v81 I55 hl51 hl52 hl53 rfl hS56 (by omega) (by omega)
    exact lp58 _ _ v38 v47 I40 rfl rfl rfl rfl hS45 (by omega) (Nat.lt_succ_self _)
/-! ===== how far the reference has read ===== -/
def RdI (a : Nat) (I I' : cz_I) : Prop := ((I a 9).toInt = 5 → (I' a 9).toInt = 5) ∧ (I a 8).toInt ≤ (I' a 8).toInt ∧ (2 ≤ (I' a 9).toInt ∧ (I' a 9).toInt ≤ 4 → (I a 8).toInt + 1 ≤ (I' a 8).toInt) ∧ (((I a 9).toInt = 5 → 1 ≤ (I a 13).toInt) → ((I' a 9).toInt = 5 → 1 ≤ (I' a 13).toInt)) ∧ ((I a 9).toInt = 5 → (I' a 13).toInt = (I a 13).toInt ∧ (I' a 14).toInt = (I a 14).toInt)
def EwI (a : Nat) (I I' : cz_I) : Prop := (I' a 9 = I a 9 ∧ I' a 8 = I a 8 ∧ I' a 13 = I a 13 ∧ I' a 14 = I a 14) ∨ RdI a I I'
def Gd (s : Int32) (p : Prop) : Prop := s.toInt ≠ 5 → p
section CzRd
variable {a : Nat} {I J K : cz_I}
theorem EwI.rf (a : Nat) (I : cz_I) : EwI a I I := Or.inl ⟨rfl, rfl, rfl, rfl⟩
theorem RdI.rd (h : RdI a I J) (h2 : RdI a J K) : RdI a I K := by
  obtain ⟨a1, a2, a3, a4, a5⟩ := h
  obtain ⟨b1, b2, b3, b4, b5⟩ := h2
  exact ⟨fun z => b1 (a1 z), by omega, fun z => by have := b3 z; omega, fun z y => b4 (a4 z) y, fun z => ⟨(b5 (a1 z)).1.trans (a5 z).1, (b5 (a1 z)).2.trans (a5 z).2⟩⟩
theorem EwI.rd (h : EwI a I J) (h2 : RdI a J K) : RdI a I K := by
  rcases h with ⟨e1, e2, e3, e4⟩ | h
  · unfold RdI at h2 ⊢; rw [e1, e2, e3, e4] at h2; exact h2
  · exact h.rd h2
theorem RdI.ew (h : RdI a I J) (h2 : EwI a J K) : RdI a I K := by
  rcases h2 with ⟨e1, e2, e3, e4⟩ | h2
  · unfold RdI at h ⊢; rw [e1, e2, e3, e4]; exact h
  · exact h.rd h2
theorem EwI.ew (h : EwI a I J) (h2 : EwI a J K) : EwI a I K := by
  rcases h with ⟨e1, e2, e3, e4⟩ | h
  · rcases h2 with ⟨f1, f2, f3, f4⟩ | h2
    · exact Or.inl ⟨f1.trans e1, f2.trans e2, f3.trans e3, f4.trans e4⟩
    · exact Or.inr (EwI.rd (Or.inl ⟨e1, e2, e3, e4⟩) h2)
  · exact Or.inr (h.ew h2)
theorem RdI.keep (h : RdI a I J) (e9 : K a 9 = J a 9) (e8 : K a 8 = J a 8) (e13 : K a 13 = J a 13) (e14 : K a 14 = J a 14) : RdI a I K := by
  unfold RdI at h ⊢; rw [e9, e8, e13, e14]; exact h
theorem EwI.keep (h : EwI a I J) (e9 : K a 9 = J a 9) (e8 : K a 8 = J a 8) (e13 : K a 13 = J a 13) (e14 : K a 14 = J a 14) : EwI a I K := by
  rcases h with ⟨x, y, z, w⟩ | h
  · exact Or.inl ⟨e9.trans x, e8.trans y, e13.trans z, e14.trans w⟩
  · exact Or.inr (h.keep e9 e8 e13 e14)
theorem RdI.stick (h : RdI a I J) : (I a 9).toInt = 5 → (J a 9).toInt = 5 := h.1
theorem EwI.stick (h : EwI a I J) : (I a 9).toInt = 5 → (J a 9).toInt = 5 := by
  rcases h with ⟨x, -, -, -⟩ | h
  · rw [x]; exact id
  · exact h.1
theorem RdI.over (h : RdI a I J) (h5 : (I a 9).toInt = 5) : (J a 9).toInt = 5 ∧ (J a 13).toInt = (I a 13).toInt ∧ (J a 14).toInt = (I a 14).toInt := ⟨h.1 h5, h.2.2.2.2 h5⟩
theorem EwI.over (h : EwI a I J) (h5 : (I a 9).toInt = 5) : (J a 9).toInt = 5 ∧ (J a 13).toInt = (I a 13).toInt ∧ (J a 14).toInt = (I a 14).toInt := by
  rcases h with ⟨x, -, y, z⟩ | h
  · rw [x, y, z]; exact ⟨h5, rfl, rfl⟩
  · exact h.over h5
theorem EwI.mono (h : EwI a I J) : (I a 8).toInt ≤ (J a 8).toInt := by
  rcases h with ⟨-, x, -⟩ | h
  · rw [x]; exact Int.le_refl _
  · exact h.2.1
theorem RdI.f4 (h : RdI a I J) : ((I a 9).toInt = 5 → 1 ≤ (I a 13).toInt) → ((J a 9).toInt = 5 → 1 ≤ (J a 13).toInt) := h.2.2.2.1
theorem EwI.f4 (h : EwI a I J) : ((I a 9).toInt = 5 → 1 ≤ (I a 13).toInt) → ((J a 9).toInt = 5 → 1 ≤ (J a 13).toInt) := by
  rcases h with ⟨x, -, z, -⟩ | h
  · rw [x, z]; exact id
  · exact h.2.2.2.1
theorem Gd.keep {s t : Int32} {p : Prop} (h : Gd s p) (e : t = s) : Gd t p := e ▸ h
theorem Gd.go {s t : Int32} {p : Prop} (h : Gd s p) (f : s.toInt = 5 → t.toInt = 5) : Gd t p := fun z => h (fun e => z (f e))
end CzRd
def wi_X12_flaw : List Nat := [969, 973, 974]
def wr_X12_flaw : List Nat := []
set_option maxHeartbeats 4000000 in
theorem k_X12_flaw {l : Launch} {T : Nat → Nat} {cn : Nat} {K N : Nat → Nat} {I0 : cz_I} {R0 : cz_R} {L0 : cz_L} {d : Int} (hW0 : Wf T cn K N I0 R0 d) {a0 : Nat} (ta0 : T a0 = 15) {x1 : Int32} (hx1 : 1 ≤ x1.toInt ∧ x1.toInt ≤ 6) : ConE l mX12_flaw [.ref a0, .int x1] cn K N I0 R0 L0 (ca_v (fun cn' K' N' I' R' L' => cn = cn' ∧ K = K' ∧ N = N' ∧ R0 = R' ∧ L0 = L' ∧ St T cn K N d wi_X12_flaw wr_X12_flaw I0 R0 I' R0 ∧ ((I' a0 9).toInt = 5) ∧ ((I' a0 8).toInt = (I0 a0 8).toInt) ∧ RdI a0 I0 I' ∧ True)) := by
  refine ConE.of (by decide +kernel) rfl (Nat.le_of_ble_eq_true rfl) rfl (fun X hX hZ hE => ?_)
  subst hX
  have hS0 : St T cn K N d wi_X12_flaw wr_X12_flaw I0 R0 I0 R0 := St.rf0 hW0
  obtain ⟨v1, c2⟩ : ∃ v, I0 a0 8 = v := ⟨_, rfl⟩
  have b3 := iv15_8 hW0 ta0 c2
  obtain ⟨v4, c5⟩ : ∃ v, I0 a0 9 = v := ⟨_, rfl⟩
  have b6 := iv15_9 hS0.1 ta0 c5
  obtain ⟨v7, c8⟩ : ∃ v, I0 a0 13 = v := ⟨_, rfl⟩
  obtain ⟨v9, c10⟩ : ∃ v, I0 a0 14 = v := ⟨_, rfl⟩
  refine tr_aload_n dX12_flaw_0 rfl ?_
  refine q_getI dX12_flaw_1 fl12_99 (kR15 hS0.1 ta0) c5 ?_
  refine q_iconst dX12_flaw_4 (by decide) ?_
  intro v11 h12
  refine q_icmp_ne 9 dX12_flaw_5 (by decide) (fun h13 => ?_) (fun h13 => ?_)
  · skip
    refine tr_aload_n dX12_flaw_9 rfl ?_
    refine tr_iload_n dX12_flaw_10 rfl ?_
    refine q_putI dX12_flaw_11 fl12_128 (kR15 hS0.1 ta0) (Or.inl rfl) hS0 ta0 (iokF rfl) rfl (by decide +kernel) ?_
    intro I14 hS15 e16 f17
    have c18 : I14 a0 9 = v4 := (f17 _ _ (fun q => absurd q.2 (by decide))).trans c5
    have c19 : I14 a0 14 = v9 := (f17 _ _ (fun q => absurd q.2 (by decide))).trans c10
    refine tr_aload_n dX12_flaw_14 rfl ?_
    refine tr_aload_n dX12_flaw_15 rfl ?_
    obtain ⟨v20, c21⟩ : ∃ v, I0 a0 10 = v := ⟨_, rfl⟩
    have b22 := iv15_10 hW0 ta0 c21
    refine q_getI dX12_flaw_16 fl12_108 (kR15 hS15.1 ta0) ((hS15.cell ta0 (by decide +kernel)).trans c21) ?_
    refine q_putI dX12_flaw_19 fl12_131 (kR15 hS15.1 ta0) (Or.inl rfl) hS15 ta0 (iokF rfl) rfl (by decide +kernel) ?_
    intro I23 hS24 e25 f26
    have c27 : I23 a0 9 = v4 := (f26 _ _ (fun q => absurd q.2 (by decide))).trans c18
    have c28 : I23 a0 13 = x1 := (f26 _ _ (fun q => absurd q.2 (by decide))).trans e16
    refine tr_aload_n dX12_flaw_22 rfl ?_
    refine q_iconst dX12_flaw_23 (by decide) ?_
    intro v29 h30
    refine q_putI dX12_flaw_24 fl12_99 (kR15 hS24.1 ta0) (Or.inl rfl) hS24 ta0 (by show (0 : Int) ≤ v29.toInt ∧ v29.toInt ≤ (5 : Int); omega) rfl (by decide +kernel) ?_
    intro I31 hS32 e33 f34
    have c35 : I31 a0 13 = x1 := (f34 _ _ (fun q => absurd q.2 (by decide))).trans c28
    have c36 : I31 a0 14 = v20 := (f34 _ _ (fun q => absurd q.2 (by decide))).trans e25
    exact tr_vret hZ dX12_flaw_27 rfl (by decide) (by decide) ⟨rfl, rfl, rfl, rfl, rfl, rfl, hS32, (by (try rw [e33]); (try omega)), (by (try rw [((hS32.cell ta0 (by decide +kernel)).trans c2)]); (try rw [c2]); (try omega)), (by unfold RdI; (try rw [c5]); (try rw [e33]); (try rw [c2]); (try rw [((hS32.cell ta0 (by decide +kernel)).trans c2)]); (try rw [c8]); (try rw [c35]); (try rw [c10]); (try rw [c36]); omega), trivial⟩
  · skip
    exact tr_vret hZ dX12_flaw_8 rfl (by decide) (by decide) ⟨rfl, rfl, rfl, rfl, rfl, rfl, hS0, (by (try rw [c5]); (try omega)), (by (try rw [c2]); (try omega)), (by unfold RdI; (try rw [c5]); (try rw [c2]); (try rw [c8]); (try rw [c10]); omega), trivial⟩
set_option maxHeartbeats 4000000 in
theorem k_X12_isWord {l : Launch} {T : Nat → Nat} {cn : Nat} {K N : Nat → Nat} {I0 : cz_I} {R0 : cz_R} {L0 : cz_L} {d : Int} (hW0 : Wf T cn K N I0 R0 d) {a0 : Nat} (ta0 : T a0 = 15) {u1 : UInt32} (hu1 : u1.toNat < cz_NS) : ConE l mX12_isWord [.ref a0, .float u1] cn K N I0 R0 L0 (ca_i (fun v cn' K' N' I' R' L' => cn = cn' ∧ K = K' ∧ N = N' ∧ I0 = I' ∧ R0 = R' ∧ L0 = L' ∧ (0 ≤ v.toInt ∧ v.toInt ≤ 1) ∧ ((v.toInt = 1 → (I0 a0 9).toInt = 2)) ∧ True)) := by
  refine ConE.of (by decide +kernel) rfl (Nat.le_of_ble_eq_true rfl) rfl (fun X hX hZ hE => ?_)
  subst hX
  obtain ⟨v1, c2⟩ : ∃ v, I0 a0 9 = v := ⟨_, rfl⟩
  have b3 := iv15_9 hW0 ta0 c2
  refine tr_aload_n dX12_isWord_0 rfl ?_
  refine q_getI dX12_isWord_1 fl12_99 (kR15 hW0 ta0) c2 ?_
  refine q_iconst dX12_isWord_4 (by decide) ?_
  intro v4 h5
  refine q_icmp_ne 24 dX12_isWord_5 (by decide) (fun h6 => ?_) (fun h6 => ?_)
  · skip
    refine q_iconst dX12_isWord_24 (by decide) ?_
    intro v7 h8
    exact tr_zret hZ dX12_isWord_25 rfl (ti_b01 (by omega) (by omega)) (by decide) (by decide) ⟨v7, rfl, rfl, rfl, rfl, rfl, rfl, rfl, (by omega), (by (try rw [c2]); (try omega)), trivial⟩
  · skip
    refine tr_aload_n dX12_isWord_8 rfl ?_
    refine q_getL dX12_isWord_9 fl12_118 (kR15 hW0 ta0) ?_
    intro y9
    refine tr_aload_nS dX12_isWord_12 rfl ?_
    refine q_callSl hE (M' := mX12_wordOf) (as := [_]) dX12_isWord_13 lk12_134 inX12_wordOf myX12_wordOf ⟨by decide, by decide⟩ rfl (Nat.le_of_ble_eq_true rfl) rfl rfl (by decide) (by decide) (k_X12_wordOf hW0 hu1) ?_
    rintro y14 cn' K' N' I10 R11 L12 ⟨rfl, rfl, rfl, rfl, rfl, rfl, -⟩
    refine q_lcmp dX12_isWord_16 ?_
    intro v15
    refine q_if_ne 24 dX12_isWord_17 (by decide) (fun h16 => ?_) (fun h16 => ?_)
    · skip
      refine q_iconst dX12_isWord_24 (by decide) ?_
      intro v17 h18
      exact tr_zret hZ dX12_isWord_25 rfl (ti_b01 (by omega) (by omega)) (by decide) (by decide) ⟨v17, rfl, rfl, rfl, rfl, rfl, rfl, rfl, (by omega), (by (try rw [c2]); (try omega)), trivial⟩
    · skip
      refine q_iconst dX12_isWord_20 (by decide) ?_
      intro v19 h20
      refine tr_goto 25 dX12_isWord_21 (by decide) ?_
      exact tr_zret hZ dX12_isWord_25 rfl (ti_b01 (by omega) (by omega)) (by decide) (by decide) ⟨v19, rfl, rfl, rfl, rfl, rfl, rfl, rfl, (by omega), (by (try rw [c2]); (try omega)), trivial⟩
set_option maxHeartbeats 4000000 in
theorem k_X12_byteAt {l : Launch} {T : Nat → Nat} {cn : Nat} {K N : Nat → Nat} {I0 : cz_I} {R0 : cz_R} {L0 : cz_L} {d : Int} (hW0 : Wf T cn K N I0 R0 d) {a0 : Nat} (ta0 : T a0 = 15) {x1 : Int32} (hx1 : 0 ≤ x1.toInt ∧ x1.toInt ≤ 900) : ConE l mX12_byteAt [.ref a0, .int x1] cn K N I0 R0 L0 (ca_i (fun v cn' K' N' I' R' L' => cn = cn' ∧ K = K' ∧ N = N' ∧ I0 = I' ∧ R0 = R' ∧ L0 = L' ∧ (((I0 a0 7).toInt ≤ x1.toInt → v.toInt = -1)) ∧ v = m_by I0 R0 a0 x1 ∧ True)) := by
  refine ConE.of (by decide +kernel) rfl (Nat.le_of_ble_eq_true rfl) rfl (fun X hX hZ hE => ?_)
  subst hX
  obtain ⟨v1, c2⟩ : ∃ v, I0 a0 7 = v := ⟨_, rfl⟩
  have b3 := iv15_7 hW0 ta0 c2
  refine tr_iload_n dX12_byteAt_0 rfl ?_
  refine tr_aload_n dX12_byteAt_1 rfl ?_
  refine q_getI dX12_byteAt_2 fl12_84 (kR15 hW0 ta0) c2 ?_
  refine q_icmp_ge 21 dX12_byteAt_5 (by decide) (fun h4 => ?_) (fun h4 => ?_)
  · skip
    refine q_iconst dX12_byteAt_21 (by decide) ?_
    intro v5 h6
    exact tr_iret hZ dX12_byteAt_22 rfl (by decide) (by decide) ⟨v5, rfl, rfl, rfl, rfl, rfl, rfl, rfl, (by (try rw [c2]); (try omega)), (by rw [m_by, c2, if_neg (by omega)]; exact Int32.toInt_inj.mp (show v5.toInt = (-1 : Int32).toInt from h6.trans rfl)), trivial⟩
  · skip
    refine tr_aload_n dX12_byteAt_8 rfl ?_
    obtain ⟨a7, d8, ta7⟩ := rf15_5 hW0 ta0
    refine tr_getR dX12_byteAt_9 fl12_13 (kR15 hW0 ta0) d8 ?_
    refine tr_iload_n dX12_byteAt_12 rfl ?_
    refine q_bald dX12_byteAt_13 (kR76 hW0 ta7) (ti_in (nR76 hW0 ta7) (by omega) (by omega)) ?_
    intro v9 c10
    have b11 := iv76 hW0 ta7 c10
    refine q_sipush dX12_byteAt_14 (by decide +kernel) ?_
    intro v12 h13
    refine q_iandE dX12_byteAt_17 ?_
    intro v14 h15
    refine tr_goto 22 dX12_byteAt_18 (by decide) ?_
    exact tr_iret hZ dX12_byteAt_22 rfl (by decide) (by decide) ⟨v14, rfl, rfl, rfl, rfl, rfl, rfl, rfl, (by (try rw [c2]); (try omega)), (by rw [m_by, c2, if_pos (by omega), rg_s d8, c10, h15, Int32.toInt_inj.mp (show v12.toInt = (255 : Int32).toInt from h13.trans rfl)]), trivial⟩
set_option maxHeartbeats 4000000 in
theorem k_X12_isLetter {l : Launch} {T : Nat → Nat} {cn : Nat} {K N : Nat → Nat} {I0 : cz_I} {R0 : cz_R} {L0 : cz_L} {d : Int} (hW0 : Wf T cn K N I0 R0 d) {x0 : Int32} : ConE l mX12_isLetter [.int x0] cn K N I0 R0 L0 (ca_i (fun v cn' K' N' I' R' L' => cn = cn' ∧ K = K' ∧ N = N' ∧ I0 = I' ∧ R0 = R' ∧ L0 = L' ∧ (0 ≤ v.toInt ∧ v.toInt ≤ 1) ∧ ((v.toInt = 1 → (97 ≤ x0.toInt ∧ x0.toInt ≤ 122))) ∧ ((v.toInt = 0 → (x0.toInt < 97 ∨ x0.toInt > 122))) ∧ True)) := by
  refine ConE.of (by decide +kernel) rfl (Nat.le_of_ble_eq_true rfl) rfl (fun X hX hZ hE => ?_)
  subst hX
  refine tr_iload_n dX12_isLetter_0 rfl ?_
  refine q_bipush dX12_isLetter_1 (by decide +kernel) ?_
  intro v1 h2
  refine q_icmp_lt 16 dX12_isLetter_3 (by decide) (fun h3 => ?_) (fun h3 => ?_)
  · skip
    refine q_iconst dX12_isLetter_16 (by decide) ?_
    intro v4 h5
    exact tr_zret hZ dX12_isLetter_17 rfl (ti_b01 (by omega) (by omega)) (by decide) (by decide) ⟨v4, rfl, rfl, rfl, rfl, rfl, rfl, rfl, (by omega), (by omega), (by omega), trivial⟩
  · skip
    refine tr_iload_n dX12_isLetter_6 rfl ?_
    refine q_bipush dX12_isLetter_7 (by decide +kernel) ?_
    intro v6 h7
    refine q_icmp_gt 16 dX12_isLetter_9 (by decide) (fun h8 => ?_) (fun h8 => ?_)
    · skip
      refine q_iconst dX12_isLetter_16 (by decide) ?_
      intro v9 h10
      exact tr_zret hZ dX12_isLetter_17 rfl (ti_b01 (by omega) (by omega)) (by decide) (by decide) ⟨v9, rfl, rfl, rfl, rfl, rfl, rfl, rfl, (by omega), (by omega), (by omega), trivial⟩
    · skip
      refine q_iconst dX12_isLetter_12 (by decide) ?_
      intro v11 h12
      refine tr_goto 17 dX12_isLetter_13 (by decide) ?_
      exact tr_zret hZ dX12_isLetter_17 rfl (ti_b01 (by omega) (by omega)) (by decide) (by decide) ⟨v11, rfl, rfl, rfl, rfl, rfl, rfl, rfl, (by omega), (by omega), (by omega), trivial⟩
set_option maxHeartbeats 4000000 in
theorem k_X12_isDigit {l : Launch} {T : Nat → Nat} {cn : Nat} {K N : Nat → Nat} {I0 : cz_I} {R0 : cz_R} {L0 : cz_L} {d : Int} (hW0 : Wf T cn K N I0 R0 d) {x0 : Int32} : ConE l mX12_isDigit [.int x0] cn K N I0 R0 L0 (ca_i (fun v cn' K' N' I' R' L' => cn = cn' ∧ K = K' ∧ N = N' ∧ I0 = I' ∧ R0 = R' ∧ L0 = L' ∧ (0 ≤ v.toInt ∧ v.toInt ≤ 1) ∧ ((v.toInt = 1 → (48 ≤ x0.toInt ∧ x0.toInt ≤ 57))) ∧ ((v.toInt = 0 → (x0.toInt < 48 ∨ x0.toInt > 57))) ∧ True)) := by
  refine ConE.of (by decide +kernel) rfl (Nat.le_of_ble_eq_true rfl) rfl (fun X hX hZ hE => ?_)
  subst hX
  refine tr_iload_n dX12_isDigit_0 rfl ?_
  refine q_bipush dX12_isDigit_1 (by decide +kernel) ?_
  intro v1 h2
  refine q_icmp_lt 16 dX12_isDigit_3 (by decide) (fun h3 => ?_) (fun h3 => ?_)
  · skip
    refine q_iconst dX12_isDigit_16 (by decide) ?_
    intro v4 h5
    exact tr_zret hZ dX12_isDigit_17 rfl (ti_b01 (by omega) (by omega)) (by decide) (by decide) ⟨v4, rfl, rfl, rfl, rfl, rfl, rfl, rfl, (by omega), (by omega), (by omega), trivial⟩
  · skip
    refine tr_iload_n dX12_isDigit_6 rfl ?_
    refine q_bipush dX12_isDigit_7 (by decide +kernel) ?_
    intro v6 h7
    refine q_icmp_gt 16 dX12_isDigit_9 (by decide) (fun h8 => ?_) (fun h8 => ?_)
    · skip
      refine q_iconst dX12_isDigit_16 (by decide) ?_
      intro v9 h10
      exact tr_zret hZ dX12_isDigit_17 rfl (ti_b01 (by omega) (by omega)) (by decide) (by decide) ⟨v9, rfl, rfl, rfl, rfl, rfl, rfl, rfl, (by omega), (by omega), (by omega), trivial⟩
    · skip
      refine q_iconst dX12_isDigit_12 (by decide) ?_
      intro v11 h12
      refine tr_goto 17 dX12_isDigit_13 (by decide) ?_
      exact tr_zret hZ dX12_isDigit_17 rfl (ti_b01 (by omega) (by omega)) (by decide) (by decide) ⟨v11, rfl, rfl, rfl, rfl, rfl, rfl, rfl, (by omega), (by omega), (by omega), trivial⟩
def wi_X12_goesOn : List Nat := [968, 969, 970, 971, 972]
def wr_X12_goesOn : List Nat := []
set_option maxHeartbeats 4000000 in
theorem k_X12_goesOn {l : Launch} {T : Nat → Nat} {cn : Nat} {K N : Nat → Nat} {I0 : cz_I} {R0 : cz_R} {L0 : cz_L} {d : Int} (hW0 : Wf T cn K N I0 R0 d) {a0 : Nat} (ta0 : T a0 = 15) : ConE l mX12_goesOn [.ref a0] cn K N I0 R0 L0 (ca_v (fun cn' K' N' I' R' L' => cn = cn' ∧ K = K' ∧ N = N' ∧ R0 = R' ∧ St T cn K N d wi_X12_goesOn wr_X12_goesOn I0 R0 I' R0 ∧ (((I0 a0 9).toInt ≠ 5 → (I' a0 9).toInt ≠ 5)) ∧ (((I0 a0 9).toInt = 5 → (I' a0 9).toInt = 5)) ∧ (((I' a0 8).toInt ≥ (I0 a0 8).toInt ∧ (I' a0 13).toInt = (I0 a0 13).toInt)) ∧ RdI a0 I0 I' ∧ True)) := by
  refine ConE.of (by decide +kernel) rfl (Nat.le_of_ble_eq_true rfl) rfl (fun X hX hZ hE => ?_)
  subst hX
  have hS0 : St T cn K N d wi_X12_goesOn wr_X12_goesOn I0 R0 I0 R0 := St.rf0 hW0
  obtain ⟨v1, c2⟩ : ∃ v, I0 a0 9 = v := ⟨_, rfl⟩
  have b3 := iv15_9 hS0.1 ta0 c2
  obtain ⟨v4, c5⟩ : ∃ v, I0 a0 8 = v := ⟨_, rfl⟩
  have b6 := iv15_8 hS0.1 ta0 c5
  obtain ⟨v7, c8⟩ : ∃ v, I0 a0 13 = v := ⟨_, rfl⟩
  obtain ⟨v9, c10⟩ : ∃ v, I0 a0 14 = v := ⟨_, rfl⟩
  refine tr_aload_n dX12_goesOn_0 rfl ?_
  refine q_getI dX12_goesOn_1 fl12_99 (kR15 hS0.1 ta0) c2 ?_
  refine q_iconst dX12_goesOn_4 (by decide) ?_
  intro v11 h12
  refine q_icmp_ne 9 dX12_goesOn_5 (by decide) (fun h13 => ?_) (fun h13 => ?_)
  · skip
    have lp21 : ∀ (fu : Nat) (ls : Nat → Option Value) (I15 : cz_I) (L16 : cz_L) (v18 : Int32), ls 0 = some (.ref a0) → St T cn K N d wi_X12_goesOn wr_X12_goesOn I0 R0 I15 R0 → I15 a0 8 = v18 → v18.toInt ≥ v4.toInt → (-v18.toInt + 900).toNat < fu → Tr X mX12_goesOn 9 ls [] cn K N I15 R0 L16 0 0 := by
      intro fu
      induction fu with
      | zero => intros; rename_i hz; exact absurd hz (Nat.not_lt_zero _)
      | succ fu ih21 =>
        intro ls I15 L16 v18 hl14 hS17 c19 g20 hm21
        have b23 := iv15_8 hS17.1 ta0 c19
        refine tr_aload_n dX12_goesOn_9 hl14 ?_
        refine tr_aload_n dX12_goesOn_10 hl14 ?_
        refine q_getI dX12_goesOn_11 fl12_102 (kR15 hS17.1 ta0) c19 ?_
        obtain ⟨v24, c25⟩ : ∃ v, I0 a0 7 = v := ⟨_, rfl⟩
        have b26 := iv15_7 hW0 ta0 c25
        refine q_callVi hE (M' := mX12_byteAt) (as := [_]) dX12_goesOn_14 lk12_105 inX12_byteAt seX12_byteAt myX12_byteAt (by decide) ⟨by decide, by decide⟩ rfl (kR15 hS17.1 ta0) (Nat.le_of_ble_eq_true rfl) rfl rfl (by decide) (by decide) (k_X12_byteAt hS17.1 ta0 (by omega)) ?_
        rintro v31 cn' K' N' I27 R28 L29 ⟨rfl, rfl, rfl, rfl, rfl, rfl, p32, r33, -⟩
        rw [((hS17.cell ta0 (by decide +kernel)).trans c25)] at p32
        refine q_bipush dX12_goesOn_17 (by decide +kernel) ?_
        intro v34 h35
        refine q_icmp_ne 35 dX12_goesOn_19 (by decide) (fun h36 => ?_) (fun h36 => ?_)
        · skip
          refine tr_aload_n dX12_goesOn_35 hl14 ?_
          refine tr_aload_n dX12_goesOn_36 hl14 ?_
          refine q_getI dX12_goesOn_37 fl12_102 (kR15 hS17.1 ta0) c19 ?_
          refine q_putI dX12_goesOn_40 fl12_108 (kR15 hS17.1 ta0) (Or.inl rfl) hS17 ta0 (by show (0 : Int) ≤ v18.toInt ∧ v18.toInt ≤ (900 : Int); omega) rfl (by decide +kernel) ?_
          intro I37 hS38 e39 f40
          have c41 : I37 a0 8 = v18 := (f40 _ _ (fun q => absurd q.2 (by decide))).trans c19
          obtain ⟨a42, d43, ta42⟩ := rf15_5 hW0 ta0
          have r44 : v31 = m_by I37 R0 a0 v18 := r33.trans (m_by_kp d43 (f40 _ _ (fun q => absurd q.2 (by decide))) (fun i => f40 _ _ (fun q => by have z := ta42; rw [q.1, ta0] at z; exact absurd z (by decide))))
          refine tr_aload_n dX12_goesOn_43 hl14 ?_
          refine q_iconst dX12_goesOn_44 (by decide) ?_
          intro v45 h46
          refine q_putI dX12_goesOn_45 fl12_99 (kR15 hS38.1 ta0) (Or.inl rfl) hS38 ta0 (by show (0 : Int) ≤ v45.toInt ∧ v45.toInt ≤ (5 : Int); omega) rfl (by decide +kernel) ?_
          intro I47 hS48 e49 f50
          have c51 : I47 a0 8 = v18 := (f50 _ _ (fun q => absurd q.2 (by decide))).trans c41
          have c52 : I47 a0 10 = v18 := (f50 _ _ (fun q => absurd q.2 (by decide))).trans e39
          have r53 : v31 = m_by I47 R0 a0 v18 := r44.trans (m_by_kp d43 (f50 _ _ (fun q => absurd q.2 (by decide))) (fun i => f50 _ _ (fun q => by have z := ta42; rw [q.1, ta0] at z; exact absurd z (by decide))))
          refine tr_aload_n dX12_goesOn_48 hl14 ?_
          refine q_iconst dX12_goesOn_49 (by decide) ?_
          intro v54 h55
          refine q_putI dX12_goesOn_50 fl12_111 (kR15 hS48.1 ta0) (Or.inl rfl) hS48 ta0 (iokF rfl) rfl (by decide +kernel) ?_
          intro I56 hS57 e58 f59
          have c60 : I56 a0 8 = v18 := (f59 _ _ (fun q => absurd q.2 (by decide))).trans c51
          have c61 : I56 a0 10 = v18 := (f59 _ _ (fun q => absurd q.2 (by decide))).trans c52
          have c62 : I56 a0 9 = v45 := (f59 _ _ (fun q => absurd q.2 (by decide))).trans e49
          have r63 : v31 = m_by I56 R0 a0 v18 := r53.trans (m_by_kp d43 (f59 _ _ (fun q => absurd q.2 (by decide))) (fun i => f59 _ _ (fun q => by have z := ta42; rw [q.1, ta0] at z; exact absurd z (by decide))))
          refine tr_aload_n dX12_goesOn_53 hl14 ?_
          refine tr_aload_n dX12_goesOn_54 hl14 ?_
          refine q_getI dX12_goesOn_55 fl12_102 (kR15 hS57.1 ta0) c60 ?_
          refine q_callVi hE (M' := mX12_byteAt) (as := [_]) dX12_goesOn_58 lk12_105 inX12_byteAt seX12_byteAt myX12_byteAt (by decide) ⟨by decide, by decide⟩ rfl (kR15 hS57.1 ta0) (Nat.le_of_ble_eq_true rfl) rfl rfl (by decide) (by decide) (k_X12_byteAt hS57.1 ta0 (by omega)) ?_
          rintro v68 cn' K' N' I64 R65 L66 ⟨rfl, rfl, rfl, rfl, rfl, rfl, p69, r70, -⟩
          obtain rfl : v31 = v68 := r63.trans r70.symm
          rw [((hS57.cell ta0 (by decide +kernel)).trans c25)] at p69
          refine tr_istore_n dX12_goesOn_61 (by decide) (by decide) ?_
          refine q_iconst dX12_goesOn_62 (by decide) ?_
          intro v71 h72
          refine tr_istore_n dX12_goesOn_63 (by decide) (by decide) ?_
          refine tr_iload_n dX12_goesOn_64 rfl ?_
          refine q_iconst dX12_goesOn_65 (by decide) ?_
          intro v73 h74
          refine q_icmp_ne 77 dX12_goesOn_66 (by decide) (fun h75 => ?_) (fun h75 => ?_)
          · skip
            refine tr_iload_n dX12_goesOn_77 rfl ?_
            refine q_callSi hE (M' := mX12_isLetter) (as := [_]) dX12_goesOn_78 lk12_114 inX12_isLetter myX12_isLetter ⟨by decide, by decide⟩ rfl (Nat.le_of_ble_eq_true rfl) rfl rfl (by decide) (by decide) (k_X12_isLetter hS57.1 ) ?_
            rintro v80 cn' K' N' I76 R77 L78 ⟨rfl, rfl, rfl, rfl, rfl, rfl, h81, p82, p83, -⟩
            refine q_if_eq 166 dX12_goesOn_81 (by decide) (fun h84 => ?_) (fun h84 => ?_)
            · skip
              refine tr_iload_n dX12_goesOn_166 rfl ?_
              refine q_callSi hE (M' := mX12_isDigit) (as := [_]) dX12_goesOn_167 lk12_122 inX12_isDigit myX12_isDigit ⟨by decide, by decide⟩ rfl (Nat.le_of_ble_eq_true rfl) rfl rfl (by decide) (by decide) (k_X12_isDigit hS57.1 ) ?_
              rintro v89 cn' K' N' I85 R86 L87 ⟨rfl, rfl, rfl, rfl, rfl, rfl, h90, p91, p92, -⟩
              refine q_if_eq 249 dX12_goesOn_170 (by decide) (fun h93 => ?_) (fun h93 => ?_)
              · skip
                refine tr_iload_n dX12_goesOn_249 rfl ?_
                refine q_bipush dX12_goesOn_250 (by decide +kernel) ?_
                intro v94 h95
                refine q_icmp_eq 261 dX12_goesOn_252 (by decide) (fun h96 => ?_) (fun h96 => ?_)
                · skip
                  refine tr_aload_n dX12_goesOn_261 hl14 ?_
                  refine q_iconst dX12_goesOn_262 (by decide) ?_
                  intro v97 h98
                  refine q_putI dX12_goesOn_263 fl12_99 (kR15 hS57.1 ta0) (Or.inl rfl) hS57 ta0 (by show (0 : Int) ≤ v97.toInt ∧ v97.toInt ≤ (5 : Int); omega) rfl (by decide +kernel) ?_
                  intro I99 hS100 e101 f102
                  have c103 : I99 a0 8 = v18 := (f102 _ _ (fun q => absurd q.2 (by decide))).trans c60
                  have c104 : I99 a0 10 = v18 := (f102 _ _ (fun q => absurd q.2 (by decide))).trans c61
                  have c105 : I99 a0 11 = v54 := (f102 _ _ (fun q => absurd q.2 (by decide))).trans e58
                  have r106 : v31 = m_by I99 R0 a0 v18 := r63.trans (m_by_kp d43 (f102 _ _ (fun q => absurd q.2 (by decide))) (fun i => f102 _ _ (fun q => by have z := ta42; rw [q.1, ta0] at z; exact absurd z (by decide))))
                  refine tr_aload_n dX12_goesOn_266 hl14 ?_
                  refine tr_iload_n dX12_goesOn_267 rfl ?_
                  refine q_putI dX12_goesOn_268 fl12_111 (kR15 hS100.1 ta0) (Or.inl rfl) hS100 ta0 (iokF rfl) rfl (by decide +kernel) ?_
                  intro I107 hS108 e109 f110
                  have c111 : I107 a0 8 = v18 := (f110 _ _ (fun q => absurd q.2 (by decide))).trans c103
                  have c112 : I107 a0 10 = v18 := (f110 _ _ (fun q => absurd q.2 (by decide))).trans c104
                  have c113 : I107 a0 9 = v97 := (f110 _ _ (fun q => absurd q.2 (by decide))).trans e101
                  have r114 : v31 = m_by I107 R0 a0 v18 := r106.trans (m_by_kp d43 (f110 _ _ (fun q => absurd q.2 (by decide))) (fun i => f110 _ _ (fun q => by have z := ta42; rw [q.1, ta0] at z; exact absurd z (by decide))))
                  refine tr_aload_n dX12_goesOn_271 hl14 ?_
                  refine tr_dup dX12_goesOn_272 rfl ?_
                  refine q_getI dX12_goesOn_273 fl12_102 (kR15 hS108.1 ta0) c111 ?_
                  refine q_iconst dX12_goesOn_276 (by decide) ?_
                  intro v115 h116
                  refine q_iaddE dX12_goesOn_277 (by intros; omega) ?_
                  intro v117 h118
                  refine q_putI dX12_goesOn_278 fl12_102 (kR15 hS108.1 ta0) (Or.inl rfl) hS108 ta0 (by show (0 : Int) ≤ v117.toInt ∧ v117.toInt ≤ (900 : Int); omega) rfl (by decide +kernel) ?_
                  intro I119 hS120 e121 f122
                  have c123 : I119 a0 10 = v18 := (f122 _ _ (fun q => absurd q.2 (by decide))).trans c112
                  have c124 : I119 a0 9 = v97 := (f122 _ _ (fun q => absurd q.2 (by decide))).trans c113
                  have c125 : I119 a0 11 = v31 := (f122 _ _ (fun q => absurd q.2 (by decide))).trans e109
                  have r126 : v31 = m_by I119 R0 a0 v18 := r114.trans (m_by_kp d43 (f122 _ _ (fun q => absurd q.2 (by decide))) (fun i => f122 _ _ (fun q => by have z := ta42; rw [q.1, ta0] at z; exact absurd z (by decide))))
                  exact tr_vret hZ dX12_goesOn_281 rfl (by decide) (by decide) ⟨rfl, rfl, rfl, rfl, rfl, hS120, (by (try rw [c2]); (try rw [c124]); (try omega)), (by (try rw [c2]); (try rw [c124]); (try omega)), (by (try rw [e121]); (try rw [c5]); (try rw [((hS120.cell ta0 (by decide +kernel)).trans c8)]); (try rw [c8]); (try omega)), (by unfold RdI; (try rw [c2]); (try rw [c124]); (try rw [c5]); (try rw [e121]); (try rw [c8]); (try rw [((hS120.cell ta0 (by decide +kernel)).trans c8)]); (try rw [c10]); (try rw [((hS120.cell ta0 (by decide +kernel)).trans c10)]); omega), trivial⟩
                · skip
                  refine tr_iload_n dX12_goesOn_255 rfl ?_
                  refine q_bipush dX12_goesOn_256 (by decide +kernel) ?_
                  intro v127 h128
                  refine q_icmp_ne 281 dX12_goesOn_258 (by decide) (fun h129 => ?_) (fun h129 => ?_)
                  · skip
                    exact tr_vret hZ dX12_goesOn_281 rfl (by decide) (by decide) ⟨rfl, rfl, rfl, rfl, rfl, hS57, (by (try rw [c2]); (try rw [c62]); (try omega)), (by (try rw [c2]); (try rw [c62]); (try omega)), (by (try rw [c60]); (try rw [c5]); (try rw [((hS57.cell ta0 (by decide +kernel)).trans c8)]); (try rw [c8]); (try omega)), (by unfold RdI; (try rw [c2]); (try rw [c62]); (try rw [c5]); (try rw [c60]); (try rw [c8]); (try rw [((hS57.cell ta0 (by decide +kernel)).trans c8)]); (try rw [c10]); (try rw [((hS57.cell ta0 (by decide +kernel)).trans c10)]); omega), trivial⟩
                  · skip
                    refine tr_aload_n dX12_goesOn_261 hl14 ?_
                    refine q_iconst dX12_goesOn_262 (by decide) ?_
                    intro v130 h131
                    refine q_putI dX12_goesOn_263 fl12_99 (kR15 hS57.1 ta0) (Or.inl rfl) hS57 ta0 (by show (0 : Int) ≤ v130.toInt ∧ v130.toInt ≤ (5 : Int); omega) rfl (by decide +kernel) ?_
                    intro I132 hS133 e134 f135
                    have c136 : I132 a0 8 = v18 := (f135 _ _ (fun q => absurd q.2 (by decide))).trans c60
                    have c137 : I132 a0 10 = v18 := (f135 _ _ (fun q => absurd q.2 (by decide))).trans c61
                    have c138 : I132 a0 11 = v54 := (f135 _ _ (fun q => absurd q.2 (by decide))).trans e58
                    have r139 : v31 = m_by I132 R0 a0 v18 := r63.trans (m_by_kp d43 (f135 _ _ (fun q => absurd q.2 (by decide))) (fun i => f135 _ _ (fun q => by have z := ta42; rw [q.1, ta0] at z; exact absurd z (by decide))))
                    refine tr_aload_n dX12_goesOn_266 hl14 ?_
                    refine tr_iload_n dX12_goesOn_267 rfl ?_
                    refine q_putI dX12_goesOn_268 fl12_111 (kR15 hS133.1 ta0) (Or.inl rfl) hS133 ta0 (iokF rfl) rfl (by decide +kernel) ?_
                    intro I140 hS141 e142 f143
                    have c144 : I140 a0 8 = v18 := (f143 _ _ (fun q => absurd q.2 (by decide))).trans c136
                    have c145 : I140 a0 10 = v18 := (f143 _ _ (fun q => absurd q.2 (by decide))).trans c137
                    have c146 : I140 a0 9 = v130 := (f143 _ _ (fun q => absurd q.2 (by decide))).trans e134
                    have r147 : v31 = m_by I140 R0 a0 v18 := r139.trans (m_by_kp d43 (f143 _ _ (fun q => absurd q.2 (by decide))) (fun i => f143 _ _ (fun q => by have z := ta42; rw [q.1, ta0] at z; exact absurd z (by decide))))
                    refine tr_aload_n dX12_goesOn_271 hl14 ?_
                    refine tr_dup dX12_goesOn_272 rfl ?_
                    refine q_getI dX12_goesOn_273 fl12_102 (kR15 hS141.1 ta0) c144 ?_
                    refine q_iconst dX12_goesOn_276 (by decide) ?_
                    intro v148 h149
                    refine q_iaddE dX12_goesOn_277 (by intros; omega) ?_
                    intro v150 h151
                    refine q_putI dX12_goesOn_278 fl12_102 (kR15 hS141.1 ta0) (Or.inl rfl) hS141 ta0 (by show (0 : Int) ≤ v150.toInt ∧ v150.toInt ≤ (900 : Int); omega) rfl (by decide +kernel) ?_
                    intro I152 hS153 e154 f155
                    have c156 : I152 a0 10 = v18 := (f155 _ _ (fun q => absurd q.2 (by decide))).trans c145
                    have c157 : I152 a0 9 = v130 := (f155 _ _ (fun q => absurd q.2 (by decide))).trans c146
                    have c158 : I152 a0 11 = v31 := (f155 _ _ (fun q => absurd q.2 (by decide))).trans e142
                    have r159 : v31 = m_by I152 R0 a0 v18 := r147.trans (m_by_kp d43 (f155 _ _ (fun q => absurd q.2 (by decide))) (fun i => f155 _ _ (fun q => by have z := ta42; rw [q.1, ta0] at z; exact absurd z (by decide))))
                    exact tr_vret hZ dX12_goesOn_281 rfl (by decide) (by decide) ⟨rfl, rfl, rfl, rfl, rfl, hS153, (by (try rw [c2]); (try rw [c157]); (try omega)), (by (try rw [c2]); (try rw [c157]); (try omega)), (by (try rw [e154]); (try rw [c5]); (try rw [((hS153.cell ta0 (by decide +kernel)).trans c8)]); (try rw [c8]); (try omega)), (by unfold RdI; (try rw [c2]); (try rw [c157]); (try rw [c5]); (try rw [e154]); (try rw [c8]); (try rw [((hS153.cell ta0 (by decide +kernel)).trans c8)]); (try rw [c10]); (try rw [((hS153.cell ta0 (by decide +kernel)).trans c10)]); omega), trivial⟩
              · skip
                refine tr_aload_n dX12_goesOn_173 hl14 ?_
                refine q_iconst dX12_goesOn_174 (by decide) ?_
                intro v160 h161
                refine q_putI dX12_goesOn_175 fl12_125 (kR15 hS57.1 ta0) (Or.inl rfl) hS57 ta0 (iokF rfl) rfl (by decide +kernel) ?_
                intro I162 hS163 e164 f165
                have c166 : I162 a0 8 = v18 := (f165 _ _ (fun q => absurd q.2 (by decide))).trans c60
                have c167 : I162 a0 10 = v18 := (f165 _ _ (fun q => absurd q.2 (by decide))).trans c61
                have c168 : I162 a0 9 = v45 := (f165 _ _ (fun q => absurd q.2 (by decide))).trans c62
                have c169 : I162 a0 11 = v54 := (f165 _ _ (fun q => absurd q.2 (by decide))).trans e58
                have r170 : v31 = m_by I162 R0 a0 v18 := r63.trans (m_by_kp d43 (f165 _ _ (fun q => absurd q.2 (by decide))) (fun i => f165 _ _ (fun q => by have z := ta42; rw [q.1, ta0] at z; exact absurd z (by decide))))
                refine tr_aload_n dX12_goesOn_178 hl14 ?_
                refine tr_aload_n dX12_goesOn_179 hl14 ?_
                refine q_getI dX12_goesOn_180 fl12_102 (kR15 hS163.1 ta0) c166 ?_
                refine q_callVi hE (M' := mX12_byteAt) (as := [_]) dX12_goesOn_183 lk12_105 inX12_byteAt seX12_byteAt myX12_byteAt (by decide) ⟨by decide, by decide⟩ rfl (kR15 hS163.1 ta0) (Nat.le_of_ble_eq_true rfl) rfl rfl (by decide) (by decide) (k_X12_byteAt hS163.1 ta0 (by omega)) ?_
                rintro v175 cn' K' N' I171 R172 L173 ⟨rfl, rfl, rfl, rfl, rfl, rfl, p176, r177, -⟩
                obtain rfl : v31 = v175 := r170.trans r177.symm
                rw [((hS163.cell ta0 (by decide +kernel)).trans c25)] at p176
                refine q_callSi hE (M' := mX12_isDigit) (as := [_]) dX12_goesOn_186 lk12_122 inX12_isDigit myX12_isDigit ⟨by decide, by decide⟩ rfl (Nat.le_of_ble_eq_true rfl) rfl rfl (by decide) (by decide) (k_X12_isDigit hS163.1 ) ?_
                rintro v182 cn' K' N' I178 R179 L180 ⟨rfl, rfl, rfl, rfl, rfl, rfl, h183, p184, p185, -⟩
                refine q_if_eq 236 dX12_goesOn_189 (by decide) (fun h186 => ?_) (fun h186 => ?_)
                · skip
                  exfalso; omega
                · skip
                  refine tr_iload_n dX12_goesOn_192 rfl ?_
                  refine q_iconst dX12_goesOn_193 (by decide) ?_
                  intro v187 h188
                  refine q_icmp_ge 220 dX12_goesOn_194 (by decide) (fun h189 => ?_) (fun h189 => ?_)
                  · skip
                    exfalso; omega
                  · skip
                    refine tr_aload_n dX12_goesOn_197 hl14 ?_
                    refine q_bipush dX12_goesOn_198 (by decide +kernel) ?_
                    intro v190 h191
                    refine tr_aload_n dX12_goesOn_200 hl14 ?_
                    refine q_getI dX12_goesOn_201 fl12_125 (kR15 hS163.1 ta0) e164 ?_
                    refine q_imulE (c := 10) dX12_goesOn_204 (by omega) (by omega) ?_
                    intro v192 h193
                    refine tr_aload_n dX12_goesOn_205 hl14 ?_
                    refine tr_aload_n dX12_goesOn_206 hl14 ?_
                    refine q_getI dX12_goesOn_207 fl12_102 (kR15 hS163.1 ta0) c166 ?_
                    refine q_callVi hE (M' := mX12_byteAt) (as := [_]) dX12_goesOn_210 lk12_105 inX12_byteAt seX12_byteAt myX12_byteAt (by decide) ⟨by decide, by decide⟩ rfl (kR15 hS163.1 ta0) (Nat.le_of_ble_eq_true rfl) rfl rfl (by decide) (by decide) (k_X12_byteAt hS163.1 ta0 (by omega)) ?_
                    rintro v198 cn' K' N' I194 R195 L196 ⟨rfl, rfl, rfl, rfl, rfl, rfl, p199, r200, -⟩
                    obtain rfl : v31 = v198 := r170.trans r200.symm
                    rw [((hS163.cell ta0 (by decide +kernel)).trans c25)] at p199
                    refine q_iaddE dX12_goesOn_213 (by intros; omega) ?_
                    intro v201 h202
                    refine q_bipush dX12_goesOn_214 (by decide +kernel) ?_
                    intro v203 h204
                    refine q_isubE dX12_goesOn_216 (by intros; omega) ?_
                    intro v205 h206
                    refine q_putI dX12_goesOn_217 fl12_125 (kR15 hS163.1 ta0) (Or.inl rfl) hS163 ta0 (iokF rfl) rfl (by decide +kernel) ?_
                    intro I207 hS208 e209 f210
                    have c211 : I207 a0 8 = v18 := (f210 _ _ (fun q => absurd q.2 (by decide))).trans c166
                    have c212 : I207 a0 10 = v18 := (f210 _ _ (fun q => absurd q.2 (by decide))).trans c167
                    have c213 : I207 a0 9 = v45 := (f210 _ _ (fun q => absurd q.2 (by decide))).trans c168
                    have c214 : I207 a0 11 = v54 := (f210 _ _ (fun q => absurd q.2 (by decide))).trans c169
                    have r215 : v31 = m_by I207 R0 a0 v18 := r170.trans (m_by_kp d43 (f210 _ _ (fun q => absurd q.2 (by decide))) (fun i => f210 _ _ (fun q => by have z := ta42; rw [q.1, ta0] at z; exact absurd z (by decide))))
                    refine q_iincE dX12_goesOn_220 rfl (by decide) (by decide) (by intros; omega) ?_
                    intro v216 h217
                    refine tr_aload_n dX12_goesOn_223 hl14 ?_
                    refine tr_dup dX12_goesOn_224 rfl ?_
                    refine q_getI dX12_goesOn_225 fl12_102 (kR15 hS208.1 ta0) c211 ?_
                    refine q_iconst dX12_goesOn_228 (by decide) ?_
                    intro v218 h219
                    refine q_iaddE dX12_goesOn_229 (by intros; omega) ?_
                    intro v220 h221
                    refine q_putI dX12_goesOn_230 fl12_102 (kR15 hS208.1 ta0) (Or.inl rfl) hS208 ta0 (by show (0 : Int) ≤ v220.toInt ∧ v220.toInt ≤ (900 : Int); omega) rfl (by decide +kernel) ?_
                    intro I222 hS223 e224 f225
                    have c226 : I222 a0 10 = v18 := (f225 _ _ (fun q => absurd q.2 (by decide))).trans c212
                    have c227 : I222 a0 9 = v45 := (f225 _ _ (fun q => absurd q.2 (by decide))).trans c213
                    have c228 : I222 a0 11 = v54 := (f225 _ _ (fun q => absurd q.2 (by decide))).trans c214
                    have c229 : I222 a0 12 = v205 := (f225 _ _ (fun q => absurd q.2 (by decide))).trans e209
                    have r230 : v31 = m_by I222 R0 a0 v18 := r215.trans (m_by_kp d43 (f225 _ _ (fun q => absurd q.2 (by decide))) (fun i => f225 _ _ (fun q => by have z := ta42; rw [q.1, ta0] at z; exact absurd z (by decide))))
                    refine tr_goto 178 dX12_goesOn_233 (by decide) ?_
                    have lp244 : ∀ (fu : Nat) (ls : Nat → Option Value) (v231 : Int32) (I235 : cz_I) (L236 : cz_L) (v238 : Int32) (v240 : Int32), ls 0 = some (.ref a0) → ls 1 = some (.int v31) → ls 2 = some (.int v231) → St T cn K N d wi_X12_goesOn wr_X12_goesOn I0 R0 I235 R0 → I235 a0 8 = v238 → I235 a0 9 = v240 → v240.toInt = 0 → v238.toInt ≥ v4.toInt + 1 → (-v238.toInt + 900).toNat < fu → Tr X mX12_goesOn 178 ls [] cn K N I235 R0 L236 0 0 := by
                      intro fu
                      induction fu with
                      | zero => intros; rename_i hz; exact absurd hz (Nat.not_lt_zero _)
                      | succ fu ih244 =>
                        intro ls v231 I235 L236 v238 v240 hl232 hl233 hl234 hS237 c239 c241 g242 g243 hm244
                        have b246 := iv15_8 hS237.1 ta0 c239
                        have b247 := iv15_9 hS237.1 ta0 c241
                        refine tr_aload_n dX12_goesOn_178 hl232 ?_
                        refine tr_aload_n dX12_goesOn_179 hl232 ?_
                        refine q_getI dX12_goesOn_180 fl12_102 (kR15 hS237.1 ta0) c239 ?_
                        refine q_callVi hE (M' := mX12_byteAt) (as := [_]) dX12_goesOn_183 lk12_105 inX12_byteAt seX12_byteAt myX12_byteAt (by decide) ⟨by decide, by decide⟩ rfl (kR15 hS237.1 ta0) (Nat.le_of_ble_eq_true rfl) rfl rfl (by decide) (by decide) (k_X12_byteAt hS237.1 ta0 (by omega)) ?_
                        rintro v252 cn' K' N' I248 R249 L250 ⟨rfl, rfl, rfl, rfl, rfl, rfl, p253, r254, -⟩
                        rw [((hS237.cell ta0 (by decide +kernel)).trans c25)] at p253
                        refine q_callSi hE (M' := mX12_isDigit) (as := [_]) dX12_goesOn_186 lk12_122 inX12_isDigit myX12_isDigit ⟨by decide, by decide⟩ rfl (Nat.le_of_ble_eq_true rfl) rfl rfl (by decide) (by decide) (k_X12_isDigit hS237.1 ) ?_
                        rintro v259 cn' K' N' I255 R256 L257 ⟨rfl, rfl, rfl, rfl, rfl, rfl, h260, p261, p262, -⟩
                        refine q_if_eq 236 dX12_goesOn_189 (by decide) (fun h263 => ?_) (fun h263 => ?_)
                        · skip
                          refine tr_iload_n dX12_goesOn_236 hl234 ?_
                          refine q_iconst dX12_goesOn_237 (by decide) ?_
                          intro v264 h265
                          refine q_icmp_gt 281 dX12_goesOn_238 (by decide) (fun h266 => ?_) (fun h266 => ?_)
                          · skip
                            exact tr_vret hZ dX12_goesOn_281 rfl (by decide) (by decide) ⟨rfl, rfl, rfl, rfl, rfl, hS237, (by (try rw [c2]); (try rw [c241]); (try omega)), (by (try rw [c2]); (try rw [c241]); (try omega)), (by (try rw [c239]); (try rw [c5]); (try rw [((hS237.cell ta0 (by decide +kernel)).trans c8)]); (try rw [c8]); (try omega)), (by unfold RdI; (try rw [c2]); (try rw [c241]); (try rw [c5]); (try rw [c239]); (try rw [c8]); (try rw [((hS237.cell ta0 (by decide +kernel)).trans c8)]); (try rw [c10]); (try rw [((hS237.cell ta0 (by decide +kernel)).trans c10)]); omega), trivial⟩
                          · skip
                            refine tr_aload_n dX12_goesOn_241 hl232 ?_
                            refine q_iconst dX12_goesOn_242 (by decide) ?_
                            intro v267 h268
                            refine q_putI dX12_goesOn_243 fl12_99 (kR15 hS237.1 ta0) (Or.inl rfl) hS237 ta0 (by show (0 : Int) ≤ v267.toInt ∧ v267.toInt ≤ (5 : Int); omega) rfl (by decide +kernel) ?_
                            intro I269 hS270 e271 f272
                            have c273 : I269 a0 8 = v238 := (f272 _ _ (fun q => absurd q.2 (by decide))).trans c239
                            have r274 : v252 = m_by I269 R0 a0 v238 := r254.trans (m_by_kp d43 (f272 _ _ (fun q => absurd q.2 (by decide))) (fun i => f272 _ _ (fun q => by have z := ta42; rw [q.1, ta0] at z; exact absurd z (by decide))))
                            refine tr_goto 281 dX12_goesOn_246 (by decide) ?_
                            exact tr_vret hZ dX12_goesOn_281 rfl (by decide) (by decide) ⟨rfl, rfl, rfl, rfl, rfl, hS270, (by (try rw [c2]); (try rw [e271]); (try omega)), (by (try rw [c2]); (try rw [e271]); (try omega)), (by (try rw [c273]); (try rw [c5]); (try rw [((hS270.cell ta0 (by decide +kernel)).trans c8)]); (try rw [c8]); (try omega)), (by unfold RdI; (try rw [c2]); (try rw [e271]); (try rw [c5]); (try rw [c273]); (try rw [c8]); (try rw [((hS270.cell ta0 (by decide +kernel)).trans c8)]); (try rw [c10]); (try rw [((hS270.cell ta0 (by decide +kernel)).trans c10)]); omega), trivial⟩
                        · skip
                          refine tr_iload_n dX12_goesOn_192 hl234 ?_
                          refine q_iconst dX12_goesOn_193 (by decide) ?_
                          intro v275 h276
                          refine q_icmp_ge 220 dX12_goesOn_194 (by decide) (fun h277 => ?_) (fun h277 => ?_)
                          · skip
                            refine q_iinc dX12_goesOn_220 hl234 (by decide) ?_
                            intro v278
                            refine tr_aload_n dX12_goesOn_223 hl232 ?_
                            refine tr_dup dX12_goesOn_224 rfl ?_
                            refine q_getI dX12_goesOn_225 fl12_102 (kR15 hS237.1 ta0) c239 ?_
                            refine q_iconst dX12_goesOn_228 (by decide) ?_
                            intro v279 h280
                            refine q_iaddE dX12_goesOn_229 (by intros; omega) ?_
                            intro v281 h282
                            refine q_putI dX12_goesOn_230 fl12_102 (kR15 hS237.1 ta0) (Or.inl rfl) hS237 ta0 (by show (0 : Int) ≤ v281.toInt ∧ v281.toInt ≤ (900 : Int); omega) rfl (by decide +kernel) ?_
                            intro I283 hS284 e285 f286
                            have c287 : I283 a0 9 = v240 := (f286 _ _ (fun q => absurd q.2 (by decide))).trans c241
                            have r288 : v252 = m_by I283 R0 a0 v238 := r254.trans (m_by_kp d43 (f286 _ _ (fun q => absurd q.2 (by decide))) (fun i => f286 _ _ (fun q => by have z := ta42; rw [q.1, ta0] at z; exact absurd z (by decide))))
                            refine tr_goto 178 dX12_goesOn_233 (by decide) ?_
                            exact ih244 _ v278 I283 L236 v281 v240 hl232 hl233 rfl hS284 e285 c287 (by omega) (by omega) (by omega)
                          · skip
                            refine tr_aload_n dX12_goesOn_197 hl232 ?_
                            refine q_bipush dX12_goesOn_198 (by decide +kernel) ?_
                            intro v289 h290
                            refine tr_aload_n dX12_goesOn_200 hl232 ?_
                            obtain ⟨v291, c292⟩ : ∃ v, I235 a0 12 = v := ⟨_, rfl⟩
                            refine q_getI dX12_goesOn_201 fl12_125 (kR15 hS237.1 ta0) c292 ?_
                            refine q_imul dX12_goesOn_204 ?_
                            intro v293
                            refine tr_aload_n dX12_goesOn_205 hl232 ?_
                            refine tr_aload_n dX12_goesOn_206 hl232 ?_
                            refine q_getI dX12_goesOn_207 fl12_102 (kR15 hS237.1 ta0) c239 ?_
                            refine q_callVi hE (M' := mX12_byteAt) (as := [_]) dX12_goesOn_210 lk12_105 inX12_byteAt seX12_byteAt myX12_byteAt (by decide) ⟨by decide, by decide⟩ rfl (kR15 hS237.1 ta0) (Nat.le_of_ble_eq_true rfl) rfl rfl (by decide) (by decide) (k_X12_byteAt hS237.1 ta0 (by omega)) ?_
                            rintro v298 cn' K' N' I294 R295 L296 ⟨rfl, rfl, rfl, rfl, rfl, rfl, p299, r300, -⟩
                            obtain rfl : v252 = v298 := r254.trans r300.symm
                            rw [((hS237.cell ta0 (by decide +kernel)).trans c25)] at p299
                            refine q_iadd dX12_goesOn_213 ?_
                            intro v301
                            refine q_bipush dX12_goesOn_214 (by decide +kernel) ?_
                            intro v302 h303
                            refine q_isub dX12_goesOn_216 ?_
                            intro v304
                            refine q_putI dX12_goesOn_217 fl12_125 (kR15 hS237.1 ta0) (Or.inl rfl) hS237 ta0 (iokF rfl) rfl (by decide +kernel) ?_
                            intro I305 hS306 e307 f308
                            have c309 : I305 a0 8 = v238 := (f308 _ _ (fun q => absurd q.2 (by decide))).trans c239
                            have c310 : I305 a0 9 = v240 := (f308 _ _ (fun q => absurd q.2 (by decide))).trans c241
                            have r311 : v252 = m_by I305 R0 a0 v238 := r254.trans (m_by_kp d43 (f308 _ _ (fun q => absurd q.2 (by decide))) (fun i => f308 _ _ (fun q => by have z := ta42; rw [q.1, ta0] at z; exact absurd z (by decide))))
                            refine q_iincE dX12_goesOn_220 hl234 (by decide) (by decide) (by intros; omega) ?_
                            intro v312 h313
                            refine tr_aload_n dX12_goesOn_223 hl232 ?_
                            refine tr_dup dX12_goesOn_224 rfl ?_
                            refine q_getI dX12_goesOn_225 fl12_102 (kR15 hS306.1 ta0) c309 ?_
                            refine q_iconst dX12_goesOn_228 (by decide) ?_
                            intro v314 h315
                            refine q_iaddE dX12_goesOn_229 (by intros; omega) ?_
                            intro v316 h317
                            refine q_putI dX12_goesOn_230 fl12_102 (kR15 hS306.1 ta0) (Or.inl rfl) hS306 ta0 (by show (0 : Int) ≤ v316.toInt ∧ v316.toInt ≤ (900 : Int); omega) rfl (by decide +kernel) ?_
                            intro I318 hS319 e320 f321
                            have c322 : I318 a0 9 = v240 := (f321 _ _ (fun q => absurd q.2 (by decide))).trans c310
                            have c323 : I318 a0 12 = v304 := (f321 _ _ (fun q => absurd q.2 (by decide))).trans e307
                            have r324 : v252 = m_by I318 R0 a0 v238 := r311.trans (m_by_kp d43 (f321 _ _ (fun q => absurd q.2 (by decide))) (fun i => f321 _ _ (fun q => by have z := ta42; rw [q.1, ta0] at z; exact absurd z (by decide))))
                            refine tr_goto 178 dX12_goesOn_233 (by decide) ?_
                            exact ih244 _ v312 I318 L236 v316 v240 hl232 hl233 rfl hS319 e320 c322 (by omega) (by omega) (by omega)
                    exact lp244 _ _ v216 I222 L16 v220 v45 hl14 rfl rfl hS223 e224 c227 (by omega) (by omega) (Nat.lt_succ_self _)
            · skip
              refine tr_aload_n dX12_goesOn_84 hl14 ?_
              refine q_lconst dX12_goesOn_85 ?_
              intro y325
              refine q_putL dX12_goesOn_86 fl12_118 (kR15 hS57.1 ta0) (Or.inl rfl) ?_
              intro L326
              refine tr_aload_n dX12_goesOn_89 hl14 ?_
              refine tr_aload_n dX12_goesOn_90 hl14 ?_
              refine q_getI dX12_goesOn_91 fl12_102 (kR15 hS57.1 ta0) c60 ?_
              refine q_callVi hE (M' := mX12_byteAt) (as := [_]) dX12_goesOn_94 lk12_105 inX12_byteAt seX12_byteAt myX12_byteAt (by decide) ⟨by decide, by decide⟩ rfl (kR15 hS57.1 ta0) (Nat.le_of_ble_eq_true rfl) rfl rfl (by decide) (by decide) (k_X12_byteAt hS57.1 ta0 (by omega)) ?_
              rintro v331 cn' K' N' I327 R328 L329 ⟨rfl, rfl, rfl, rfl, rfl, rfl, p332, r333, -⟩
              obtain rfl : v31 = v331 := r63.trans r333.symm
              rw [((hS57.cell ta0 (by decide +kernel)).trans c25)] at p332
              refine q_callSi hE (M' := mX12_isLetter) (as := [_]) dX12_goesOn_97 lk12_114 inX12_isLetter myX12_isLetter ⟨by decide, by decide⟩ rfl (Nat.le_of_ble_eq_true rfl) rfl rfl (by decide) (by decide) (k_X12_isLetter hS57.1 ) ?_
              rintro v338 cn' K' N' I334 R335 L336 ⟨rfl, rfl, rfl, rfl, rfl, rfl, h339, p340, p341, -⟩
              refine q_if_eq 152 dX12_goesOn_100 (by decide) (fun h342 => ?_) (fun h342 => ?_)
              · skip
                exfalso; omega
              · skip
                refine tr_iload_n dX12_goesOn_103 rfl ?_
                refine q_bipush dX12_goesOn_104 (by decide +kernel) ?_
                intro v343 h344
                refine q_icmp_ge 136 dX12_goesOn_106 (by decide) (fun h345 => ?_) (fun h345 => ?_)
                · skip
                  exfalso; omega
                · skip
                  refine tr_aload_n dX12_goesOn_109 hl14 ?_
                  refine q_ldc2 dX12_goesOn_110 ld12_93 ?_
                  intro y346
                  refine tr_aload_n dX12_goesOn_113 hl14 ?_
                  refine q_getL dX12_goesOn_114 fl12_118 (kR15 hS57.1 ta0) ?_
                  intro y347
                  refine q_lmul dX12_goesOn_117 ?_
                  intro y348
                  refine tr_aload_n dX12_goesOn_118 hl14 ?_
                  refine tr_aload_n dX12_goesOn_119 hl14 ?_
                  refine q_getI dX12_goesOn_120 fl12_102 (kR15 hS57.1 ta0) c60 ?_
                  refine q_callVi hE (M' := mX12_byteAt) (as := [_]) dX12_goesOn_123 lk12_105 inX12_byteAt seX12_byteAt myX12_byteAt (by decide) ⟨by decide, by decide⟩ rfl (kR15 hS57.1 ta0) (Nat.le_of_ble_eq_true rfl) rfl rfl (by decide) (by decide) (k_X12_byteAt hS57.1 ta0 (by omega)) ?_
                  rintro v353 cn' K' N' I349 R350 L351 ⟨rfl, rfl, rfl, rfl, rfl, rfl, p354, r355, -⟩
                  obtain rfl : v31 = v353 := r63.trans r355.symm
                  rw [((hS57.cell ta0 (by decide +kernel)).trans c25)] at p354
                  refine q_bipush dX12_goesOn_126 (by decide +kernel) ?_
                  intro v356 h357
                  refine q_isubE dX12_goesOn_128 (by intros; omega) ?_
                  intro v358 h359
                  refine q_iconst dX12_goesOn_129 (by decide) ?_
                  intro v360 h361
                  refine q_iaddE dX12_goesOn_130 (by intros; omega) ?_
                  intro v362 h363
                  refine q_i2l dX12_goesOn_131 ?_
                  intro y364
                  refine q_ladd dX12_goesOn_132 ?_
                  intro y365
                  refine q_putL dX12_goesOn_133 fl12_118 (kR15 hS57.1 ta0) (Or.inl rfl) ?_
                  intro L366
                  refine q_iincE dX12_goesOn_136 rfl (by decide) (by decide) (by intros; omega) ?_
                  intro v367 h368
                  refine tr_aload_n dX12_goesOn_139 hl14 ?_
                  refine tr_dup dX12_goesOn_140 rfl ?_
                  refine q_getI dX12_goesOn_141 fl12_102 (kR15 hS57.1 ta0) c60 ?_
                  refine q_iconst dX12_goesOn_144 (by decide) ?_
                  intro v369 h370
                  refine q_iaddE dX12_goesOn_145 (by intros; omega) ?_
                  intro v371 h372
                  refine q_putI dX12_goesOn_146 fl12_102 (kR15 hS57.1 ta0) (Or.inl rfl) hS57 ta0 (by show (0 : Int) ≤ v371.toInt ∧ v371.toInt ≤ (900 : Int); omega) rfl (by decide +kernel) ?_
                  intro I373 hS374 e375 f376
                  have c377 : I373 a0 10 = v18 := (f376 _ _ (fun q => absurd q.2 (by decide))).trans c61
                  have c378 : I373 a0 9 = v45 := (f376 _ _ (fun q => absurd q.2 (by decide))).trans c62
                  have c379 : I373 a0 11 = v54 := (f376 _ _ (fun q => absurd q.2 (by decide))).trans e58
                  have r380 : v31 = m_by I373 R0 a0 v18 := r63.trans (m_by_kp d43 (f376 _ _ (fun q => absurd q.2 (by decide))) (fun i => f376 _ _ (fun q => by have z := ta42; rw [q.1, ta0] at z; exact absurd z (by decide))))
                  refine tr_goto 89 dX12_goesOn_149 (by decide) ?_
                  have lp394 : ∀ (fu : Nat) (ls : Nat → Option Value) (v381 : Int32) (I385 : cz_I) (L386 : cz_L) (v388 : Int32) (v390 : Int32), ls 0 = some (.ref a0) → ls 1 = some (.int v31) → ls 2 = some (.int v381) → St T cn K N d wi_X12_goesOn wr_X12_goesOn I0 R0 I385 R0 → I385 a0 8 = v388 → I385 a0 9 = v390 → v390.toInt = 0 → v388.toInt ≥ v4.toInt + 1 → (-v388.toInt + 900).toNat < fu → Tr X mX12_goesOn 89 ls [] cn K N I385 R0 L386 0 0 := by
                    intro fu
                    induction fu with
                    | zero => intros; rename_i hz; exact absurd hz (Nat.not_lt_zero _)
                    | succ fu ih394 =>
                      intro ls v381 I385 L386 v388 v390 hl382 hl383 hl384 hS387 c389 c391 g392 g393 hm394
                      have b396 := iv15_8 hS387.1 ta0 c389
                      have b397 := iv15_9 hS387.1 ta0 c391
                      refine tr_aload_n dX12_goesOn_89 hl382 ?_
                      refine tr_aload_n dX12_goesOn_90 hl382 ?_
                      refine q_getI dX12_goesOn_91 fl12_102 (kR15 hS387.1 ta0) c389 ?_
                      refine q_callVi hE (M' := mX12_byteAt) (as := [_]) dX12_goesOn_94 lk12_105 inX12_byteAt seX12_byteAt myX12_byteAt (by decide) ⟨by decide, by decide⟩ rfl (kR15 hS387.1 ta0) (Nat.le_of_ble_eq_true rfl) rfl rfl (by decide) (by decide) (k_X12_byteAt hS387.1 ta0 (by omega)) ?_
                      rintro v402 cn' K' N' I398 R399 L400 ⟨rfl, rfl, rfl, rfl, rfl, rfl, p403, r404, -⟩
                      rw [((hS387.cell ta0 (by decide +kernel)).trans c25)] at p403
                      refine q_callSi hE (M' := mX12_isLetter) (as := [_]) dX12_goesOn_97 lk12_114 inX12_isLetter myX12_isLetter ⟨by decide, by decide⟩ rfl (Nat.le_of_ble_eq_true rfl) rfl rfl (by decide) (by decide) (k_X12_isLetter hS387.1 ) ?_
                      rintro v409 cn' K' N' I405 R406 L407 ⟨rfl, rfl, rfl, rfl, rfl, rfl, h410, p411, p412, -⟩
                      refine q_if_eq 152 dX12_goesOn_100 (by decide) (fun h413 => ?_) (fun h413 => ?_)
                      · skip
                        refine tr_iload_n dX12_goesOn_152 hl384 ?_
                        refine q_bipush dX12_goesOn_153 (by decide +kernel) ?_
                        intro v414 h415
                        refine q_icmp_gt 281 dX12_goesOn_155 (by decide) (fun h416 => ?_) (fun h416 => ?_)
                        · skip
                          exact tr_vret hZ dX12_goesOn_281 rfl (by decide) (by decide) ⟨rfl, rfl, rfl, rfl, rfl, hS387, (by (try rw [c2]); (try rw [c391]); (try omega)), (by (try rw [c2]); (try rw [c391]); (try omega)), (by (try rw [c389]); (try rw [c5]); (try rw [((hS387.cell ta0 (by decide +kernel)).trans c8)]); (try rw [c8]); (try omega)), (by unfold RdI; (try rw [c2]); (try rw [c391]); (try rw [c5]); (try rw [c389]); (try rw [c8]); (try rw [((hS387.cell ta0 (by decide +kernel)).trans c8)]); (try rw [c10]); (try rw [((hS387.cell ta0 (by decide +kernel)).trans c10)]); omega), trivial⟩
                        · skip
                          refine tr_aload_n dX12_goesOn_158 hl382 ?_
                          refine q_iconst dX12_goesOn_159 (by decide) ?_
                          intro v417 h418
                          refine q_putI dX12_goesOn_160 fl12_99 (kR15 hS387.1 ta0) (Or.inl rfl) hS387 ta0 (by show (0 : Int) ≤ v417.toInt ∧ v417.toInt ≤ (5 : Int); omega) rfl (by decide +kernel) ?_
                          intro I419 hS420 e421 f422
                          have c423 : I419 a0 8 = v388 := (f422 _ _ (fun q => absurd q.2 (by decide))).trans c389
                          have r424 : v402 = m_by I419 R0 a0 v388 := r404.trans (m_by_kp d43 (f422 _ _ (fun q => absurd q.2 (by decide))) (fun i => f422 _ _ (fun q => by have z := ta42; rw [q.1, ta0] at z; exact absurd z (by decide))))
                          refine tr_goto 281 dX12_goesOn_163 (by decide) ?_
                          exact tr_vret hZ dX12_goesOn_281 rfl (by decide) (by decide) ⟨rfl, rfl, rfl, rfl, rfl, hS420, (by (try rw [c2]); (try rw [e421]); (try omega)), (by (try rw [c2]); (try rw [e421]); (try omega)), (by (try rw [c423]); (try rw [c5]); (try rw [((hS420.cell ta0 (by decide +kernel)).trans c8)]); (try rw [c8]); (try omega)), (by unfold RdI; (try rw [c2]); (try rw [e421]); (try rw [c5]); (try rw [c423]); (try rw [c8]); (try rw [((hS420.cell ta0 (by decide +kernel)).trans c8)]); (try rw [c10]); (try rw [((hS420.cell ta0 (by decide +kernel)).trans c10)]); omega), trivial⟩
                      · skip
                        refine tr_iload_n dX12_goesOn_103 hl384 ?_
                        refine q_bipush dX12_goesOn_104 (by decide +kernel) ?_
                        intro v425 h426
                        refine q_icmp_ge 136 dX12_goesOn_106 (by decide) (fun h427 => ?_) (fun h427 => ?_)
                        · skip
                          refine q_iinc dX12_goesOn_136 hl384 (by decide) ?_
                          intro v428
                          refine tr_aload_n dX12_goesOn_139 hl382 ?_
                          refine tr_dup dX12_goesOn_140 rfl ?_
                          refine q_getI dX12_goesOn_141 fl12_102 (kR15 hS387.1 ta0) c389 ?_
                          refine q_iconst dX12_goesOn_144 (by decide) ?_
                          intro v429 h430
                          refine q_iaddE dX12_goesOn_145 (by intros; omega) ?_
                          intro v431 h432
                          refine q_putI dX12_goesOn_146 fl12_102 (kR15 hS387.1 ta0) (Or.inl rfl) hS387 ta0 (by show (0 : Int) ≤ v431.toInt ∧ v431.toInt ≤ (900 : Int); omega) rfl (by decide +kernel) ?_
                          intro I433 hS434 e435 f436
                          have c437 : I433 a0 9 = v390 := (f436 _ _ (fun q => absurd q.2 (by decide))).trans c391
                          have r438 : v402 = m_by I433 R0 a0 v388 := r404.trans (m_by_kp d43 (f436 _ _ (fun q => absurd q.2 (by decide))) (fun i => f436 _ _ (fun q => by have z := ta42; rw [q.1, ta0] at z; exact absurd z (by decide))))
                          refine tr_goto 89 dX12_goesOn_149 (by decide) ?_
                          exact ih394 _ v428 I433 L386 v431 v390 hl382 hl383 rfl hS434 e435 c437 (by omega) (by omega) (by omega)
                        · skip
                          refine tr_aload_n dX12_goesOn_109 hl382 ?_
                          refine q_ldc2 dX12_goesOn_110 ld12_93 ?_
                          intro y439
                          refine tr_aload_n dX12_goesOn_113 hl382 ?_
                          refine q_getL dX12_goesOn_114 fl12_118 (kR15 hS387.1 ta0) ?_
                          intro y440
                          refine q_lmul dX12_goesOn_117 ?_
                          intro y441
                          refine tr_aload_n dX12_goesOn_118 hl382 ?_
                          refine tr_aload_n dX12_goesOn_119 hl382 ?_
                          refine q_getI dX12_goesOn_120 fl12_102 (kR15 hS387.1 ta0) c389 ?_
                          refine q_callVi hE (M' := mX12_byteAt) (as := [_]) dX12_goesOn_123 lk12_105 inX12_byteAt seX12_byteAt myX12_byteAt (by decide) ⟨by decide, by decide⟩ rfl (kR15 hS387.1 ta0) (Nat.le_of_ble_eq_true rfl) rfl rfl (by decide) (by decide) (k_X12_byteAt hS387.1 ta0 (by omega)) ?_
                          rintro v446 cn' K' N' I442 R443 L444 ⟨rfl, rfl, rfl, rfl, rfl, rfl, p447, r448, -⟩
                          obtain rfl : v402 = v446 := r404.trans r448.symm
                          rw [((hS387.cell ta0 (by decide +kernel)).trans c25)] at p447
                          refine q_bipush dX12_goesOn_126 (by decide +kernel) ?_
                          intro v449 h450
                          refine q_isubE dX12_goesOn_128 (by intros; omega) ?_
                          intro v451 h452
                          refine q_iconst dX12_goesOn_129 (by decide) ?_
                          intro v453 h454
                          refine q_iaddE dX12_goesOn_130 (by intros; omega) ?_
                          intro v455 h456
                          refine q_i2l dX12_goesOn_131 ?_
                          intro y457
                          refine q_ladd dX12_goesOn_132 ?_
                          intro y458
                          refine q_putL dX12_goesOn_133 fl12_118 (kR15 hS387.1 ta0) (Or.inl rfl) ?_
                          intro L459
                          refine q_iincE dX12_goesOn_136 hl384 (by decide) (by decide) (by intros; omega) ?_
                          intro v460 h461
                          refine tr_aload_n dX12_goesOn_139 hl382 ?_
                          refine tr_dup dX12_goesOn_140 rfl ?_
                          refine q_getI dX12_goesOn_141 fl12_102 (kR15 hS387.1 ta0) c389 ?_
                          refine q_iconst dX12_goesOn_144 (by decide) ?_
                          intro v462 h463
                          refine q_iaddE dX12_goesOn_145 (by intros; omega) ?_
                          intro v464 h465
                          refine q_putI dX12_goesOn_146 fl12_102 (kR15 hS387.1 ta0) (Or.inl rfl) hS387 ta0 (by show (0 : Int) ≤ v464.toInt ∧ v464.toInt ≤ (900 : Int); omega) rfl (by decide +kernel) ?_
                          intro I466 hS467 e468 f469
                          have c470 : I466 a0 9 = v390 := (f469 _ _ (fun q => absurd q.2 (by decide))).trans c391
                          have r471 : v402 = m_by I466 R0 a0 v388 := r404.trans (m_by_kp d43 (f469 _ _ (fun q => absurd q.2 (by decide))) (fun i => f469 _ _ (fun q => by have z := ta42; rw [q.1, ta0] at z; exact absurd z (by decide))))
                          refine tr_goto 89 dX12_goesOn_149 (by decide) ?_
                          exact ih394 _ v460 I466 L459 v464 v390 hl382 hl383 rfl hS467 e468 c470 (by omega) (by omega) (by omega)
                  exact lp394 _ _ v367 I373 L366 v371 v45 hl14 rfl rfl hS374 e375 c378 (by omega) (by omega) (Nat.lt_succ_self _)
          · skip
            refine tr_aload_n dX12_goesOn_69 hl14 ?_
            refine q_iconst dX12_goesOn_70 (by decide) ?_
            intro v472 h473
            refine q_putI dX12_goesOn_71 fl12_99 (kR15 hS57.1 ta0) (Or.inl rfl) hS57 ta0 (by show (0 : Int) ≤ v472.toInt ∧ v472.toInt ≤ (5 : Int); omega) rfl (by decide +kernel) ?_
            intro I474 hS475 e476 f477
            have c478 : I474 a0 8 = v18 := (f477 _ _ (fun q => absurd q.2 (by decide))).trans c60
            have c479 : I474 a0 10 = v18 := (f477 _ _ (fun q => absurd q.2 (by decide))).trans c61
            have c480 : I474 a0 11 = v54 := (f477 _ _ (fun q => absurd q.2 (by decide))).trans e58
            have r481 : v31 = m_by I474 R0 a0 v18 := r63.trans (m_by_kp d43 (f477 _ _ (fun q => absurd q.2 (by decide))) (fun i => f477 _ _ (fun q => by have z := ta42; rw [q.1, ta0] at z; exact absurd z (by decide))))
            refine tr_goto 281 dX12_goesOn_74 (by decide) ?_
            exact tr_vret hZ dX12_goesOn_281 rfl (by decide) (by decide) ⟨rfl, rfl, rfl, rfl, rfl, hS475, (by (try rw [c2]); (try rw [e476]); (try omega)), (by (try rw [c2]); (try rw [e476]); (try omega)), (by (try rw [c478]); (try rw [c5]); (try rw [((hS475.cell ta0 (by decide +kernel)).trans c8)]); (try rw [c8]); (try omega)), (by unfold RdI; (try rw [c2]); (try rw [e476]); (try rw [c5]); (try rw [c478]); (try rw [c8]); (try rw [((hS475.cell ta0 (by decide +kernel)).trans c8)]); (try rw [c10]); (try rw [((hS475.cell ta0 (by decide +kernel)).trans c10)]); omega), trivial⟩
        · skip
          refine tr_aload_n dX12_goesOn_22 hl14 ?_
          refine tr_dup dX12_goesOn_23 rfl ?_
          refine q_getI dX12_goesOn_24 fl12_102 (kR15 hS17.1 ta0) c19 ?_
          refine q_iconst dX12_goesOn_27 (by decide) ?_
          intro v482 h483
          refine q_iaddE dX12_goesOn_28 (by intros; omega) ?_
          intro v484 h485
          refine q_putI dX12_goesOn_29 fl12_102 (kR15 hS17.1 ta0) (Or.inl rfl) hS17 ta0 (by show (0 : Int) ≤ v484.toInt ∧ v484.toInt ≤ (900 : Int); omega) rfl (by decide +kernel) ?_
          intro I486 hS487 e488 f489
          obtain ⟨a490, d491, ta490⟩ := rf15_5 hW0 ta0
          have r492 : v31 = m_by I486 R0 a0 v18 := r33.trans (m_by_kp d491 (f489 _ _ (fun q => absurd q.2 (by decide))) (fun i => f489 _ _ (fun q => by have z := ta490; rw [q.1, ta0] at z; exact absurd z (by decide))))
          refine tr_goto 9 dX12_goesOn_32 (by decide) ?_
          exact ih21 _ I486 L16 v484 hl14 hS487 e488 (by omega) (by omega)
    exact lp21 _ _ I0 L0 v4 rfl hS0 c5 (by omega) (Nat.lt_succ_self _)
  · skip
    exact tr_vret hZ dX12_goesOn_8 rfl (by decide) (by decide) ⟨rfl, rfl, rfl, rfl, rfl, hS0, (by (try rw [c2]); (try omega)), (by (try rw [c2]); (try omega)), (by (try rw [c5]); (try rw [c8]); (try omega)), (by unfold RdI; (try rw [c2]); (try rw [c5]); (try rw [c8]); (try rw [c10]); omega), trivial⟩
def wi_X12_begins : List Nat := [968, 969, 970, 971, 972, 973, 974]
def wr_X12_begins : List Nat := []
set_option maxHeartbeats 4000000 in
theorem k_X12_begins {l : Launch} {T : Nat → Nat} {cn : Nat} {K N : Nat → Nat} {I0 : cz_I} {R0 : cz_R} {L0 : cz_L} {d : Int} (hW0 : Wf T cn K N I0 R0 d) {a0 : Nat} (ta0 : T a0 = 15) {x1 : Int32} {x2 : Int32} (nn4 : ∃ b, R0 a0 4 = some b) : ConE l mX12_begins [.ref a0, .int x1, .int x2] cn K N I0 R0 L0 (ca_v (fun cn' K' N' I' R' L' => cn = cn' ∧ K = K' ∧ N = N' ∧ R0 = R' ∧ St T cn K N d wi_X12_begins wr_X12_begins I0 R0 I' R0 ∧ (((I' a0 9).toInt ≠ 5 → x1.toInt ≠ x2.toInt)) ∧ RdI a0 I0 I' ∧ True)) := by
  refine ConE.of (by decide +kernel) rfl (Nat.le_of_ble_eq_true rfl) rfl (fun X hX hZ hE => ?_)
  subst hX
  have hS0 : St T cn K N d wi_X12_begins wr_X12_begins I0 R0 I0 R0 := St.rf0 hW0
  obtain ⟨a1, d2⟩ := nn4
  have ta1 : T a1 = 14 := hW0.rsN ta0 rfl d2
  refine tr_iload_n dX12_begins_0 rfl ?_
  refine tr_iload_n dX12_begins_1 rfl ?_
  refine q_icmp_ne 10 dX12_begins_2 (by decide) (fun h3 => ?_) (fun h3 => ?_)
  · skip
    refine tr_aload_n dX12_begins_10 rfl ?_
    refine tr_getR dX12_begins_11 fl12_188 (kR15 hS0.1 ta0) d2 ?_
    obtain ⟨v4, c5⟩ : ∃ v, I0 a1 0 = v := ⟨_, rfl⟩
    have b6 := iv14_0 hW0 ta1 c5
    refine q_getI dX12_begins_14 fl12_192 (kR14 hS0.1 ta1) c5 ?_
    refine q_if_ne 26 dX12_begins_17 (by decide) (fun h7 => ?_) (fun h7 => ?_)
    · skip
      refine tr_aload_n dX12_begins_26 rfl ?_
      obtain ⟨v8, c9⟩ : ∃ v, I0 a0 9 = v := ⟨_, rfl⟩
      have b10 := iv15_9 hS0.1 ta0 c9
      obtain ⟨v11, c12⟩ : ∃ v, I0 a0 8 = v := ⟨_, rfl⟩
      have b13 := iv15_8 hS0.1 ta0 c12
      obtain ⟨v14, c15⟩ : ∃ v, I0 a0 13 = v := ⟨_, rfl⟩
      refine q_callVv hE (M' := mX12_goesOn) (as := []) dX12_begins_27 lk12_142 inX12_goesOn seX12_goesOn myX12_goesOn (by decide) ⟨by decide, by decide⟩ rfl (kR15 hS0.1 ta0) (Nat.le_of_ble_eq_true rfl) rfl rfl (by decide) (by decide) (k_X12_goesOn hS0.1 ta0) ?_
      rintro cn' K' N' I16 R17 L18 ⟨rfl, rfl, rfl, rfl, g19, p21, p22, p23, w24, -⟩
      have hS25 := hS0.tr g19 (by decide +kernel) (by decide +kernel)
      have c26 : I16 a0 13 = v14 := (g19.cell ta0 (by decide +kernel)).trans c15
      have w27 : RdI a0 I0 I16 := (EwI.rf a0 I0).rd w24
      obtain ⟨v28, c29⟩ : ∃ v, I16 a0 9 = v := ⟨_, rfl⟩
      have b30 := iv15_9 hS25.1 ta0 c29
      rw [c9] at p21
      rw [c29] at p21
      rw [c9] at p22
      rw [c29] at p22
      obtain ⟨v31, c32⟩ : ∃ v, I16 a0 8 = v := ⟨_, rfl⟩
      have b33 := iv15_8 hS25.1 ta0 c32
      rw [c32] at p23
      rw [c12] at p23
      rw [c26] at p23
      rw [c15] at p23
      exact tr_vret hZ dX12_begins_30 rfl (by decide) (by decide) ⟨rfl, rfl, rfl, rfl, rfl, hS25, (by (try rw [c29]); (try omega)), w27, trivial⟩
    · skip
      refine tr_aload_n dX12_begins_20 rfl ?_
      refine q_bipush dX12_begins_21 (by decide +kernel) ?_
      intro v34 h35
      obtain ⟨v36, c37⟩ : ∃ v, I0 a0 8 = v := ⟨_, rfl⟩
      have b38 := iv15_8 hS0.1 ta0 c37
      refine q_callVv hE (M' := mX12_flaw) (as := [_]) dX12_begins_23 lk12_145 inX12_flaw seX12_flaw myX12_flaw (by decide) ⟨by decide, by decide⟩ rfl (kR15 hS0.1 ta0) (Nat.le_of_ble_eq_true rfl) rfl rfl (by decide) (by decide) (k_X12_flaw hS0.1 ta0 (by omega)) ?_
      rintro cn' K' N' I39 R40 L41 ⟨rfl, rfl, rfl, rfl, rfl, g42, p44, p45, w46, -⟩
      have hS47 := hS0.tr g42 (by decide +kernel) (by decide +kernel)
      have c48 : I39 a0 8 = v36 := (g42.cell ta0 (by decide +kernel)).trans c37
      have w49 : RdI a0 I0 I39 := (EwI.rf a0 I0).rd w46
      obtain ⟨v50, c51⟩ : ∃ v, I39 a0 9 = v := ⟨_, rfl⟩
      have b52 := iv15_9 hS47.1 ta0 c51
      rw [c51] at p44
      rw [c48] at p45
      rw [c37] at p45
      refine tr_aload_n dX12_begins_26 rfl ?_
      obtain ⟨v53, c54⟩ : ∃ v, I39 a0 13 = v := ⟨_, rfl⟩
      refine q_callVv hE (M' := mX12_goesOn) (as := []) dX12_begins_27 lk12_142 inX12_goesOn seX12_goesOn myX12_goesOn (by decide) ⟨by decide, by decide⟩ rfl (kR15 hS47.1 ta0) (Nat.le_of_ble_eq_true rfl) rfl rfl (by decide) (by decide) (k_X12_goesOn hS47.1 ta0) ?_
      rintro cn' K' N' I55 R56 L57 ⟨rfl, rfl, rfl, rfl, g58, p60, p61, p62, w63, -⟩
      have hS64 := hS47.tr g58 (by decide +kernel) (by decide +kernel)
      have c65 : I55 a0 13 = v53 := (g58.cell ta0 (by decide +kernel)).trans c54
      have w66 : RdI a0 I0 I55 := w49.rd w63
      obtain ⟨v67, c68⟩ : ∃ v, I55 a0 9 = v := ⟨_, rfl⟩
      have b69 := iv15_9 hS64.1 ta0 c68
      rw [c51] at p60
      rw [c68] at p60
      rw [c51] at p61
      rw [c68] at p61
      obtain ⟨v70, c71⟩ : ∃ v, I55 a0 8 = v := ⟨_, rfl⟩
      have b72 := iv15_8 hS64.1 ta0 c71
      rw [c71] at p62
      rw [c48] at p62
      rw [c65] at p62
      rw [c54] at p62
      exact tr_vret hZ dX12_begins_30 rfl (by decide) (by decide) ⟨rfl, rfl, rfl, rfl, rfl, hS64, (by (try rw [c68]); (try omega)), w66, trivial⟩
  · skip
    refine tr_aload_n dX12_begins_5 rfl ?_
    refine q_iconst dX12_begins_6 (by decide) ?_
    intro v73 h74
    obtain ⟨v75, c76⟩ : ∃ v, I0 a0 8 = v := ⟨_, rfl⟩
    have b77 := iv15_8 hS0.1 ta0 c76
    refine q_callVv hE (M' := mX12_flaw) (as := [_]) dX12_begins_7 lk12_145 inX12_flaw seX12_flaw myX12_flaw (by decide) ⟨by decide, by decide⟩ rfl (kR15 hS0.1 ta0) (Nat.le_of_ble_eq_true rfl) rfl rfl (by decide) (by decide) (k_X12_flaw hS0.1 ta0 (by omega)) ?_
    rintro cn' K' N' I78 R79 L80 ⟨rfl, rfl, rfl, rfl, rfl, g81, p83, p84, w85, -⟩
    have hS86 := hS0.tr g81 (by decide +kernel) (by decide +kernel)
    have c87 : I78 a0 8 = v75 := (g81.cell ta0 (by decide +kernel)).trans c76
    have w88 : RdI a0 I0 I78 := (EwI.rf a0 I0).rd w85
    obtain ⟨v89, c90⟩ : ∃ v, I78 a0 9 = v := ⟨_, rfl⟩
    have b91 := iv15_9 hS86.1 ta0 c90
    rw [c90] at p83
    rw [c87] at p84
    rw [c76] at p84
    refine tr_aload_n dX12_begins_10 rfl ?_
    refine tr_getR dX12_begins_11 fl12_188 (kR15 hS86.1 ta0) d2 ?_
    obtain ⟨v92, c93⟩ : ∃ v, I0 a1 0 = v := ⟨_, rfl⟩
    have b94 := iv14_0 hW0 ta1 c93
    refine q_getI dX12_begins_14 fl12_192 (kR14 hS86.1 ta1) ((hS86.cell ta1 (by decide +kernel)).trans c93) ?_
    refine q_if_ne 26 dX12_begins_17 (by decide) (fun h95 => ?_) (fun h95 => ?_)
    · skip
      refine tr_aload_n dX12_begins_26 rfl ?_
      obtain ⟨v96, c97⟩ : ∃ v, I78 a0 13 = v := ⟨_, rfl⟩
      refine q_callVv hE (M' := mX12_goesOn) (as := []) dX12_begins_27 lk12_142 inX12_goesOn seX12_goesOn myX12_goesOn (by decide) ⟨by decide, by decide⟩ rfl (kR15 hS86.1 ta0) (Nat.le_of_ble_eq_true rfl) rfl rfl (by decide) (by decide) (k_X12_goesOn hS86.1 ta0) ?_
      rintro cn' K' N' I98 R99 L100 ⟨rfl, rfl, rfl, rfl, g101, p103, p104, p105, w106, -⟩
      have hS107 := hS86.tr g101 (by decide +kernel) (by decide +kernel)
      have c108 : I98 a0 13 = v96 := (g101.cell ta0 (by decide +kernel)).trans c97
      have w109 : RdI a0 I0 I98 := w88.rd w106
      obtain ⟨v110, c111⟩ : ∃ v, I98 a0 9 = v := ⟨_, rfl⟩
      have b112 := iv15_9 hS107.1 ta0 c111
      rw [c90] at p103
      rw [c111] at p103
      rw [c90] at p104
      rw [c111] at p104
      obtain ⟨v113, c114⟩ : ∃ v, I98 a0 8 = v := ⟨_, rfl⟩
      have b115 := iv15_8 hS107.1 ta0 c114
      rw [c114] at p105
      rw [c87] at p105
      rw [c108] at p105
      rw [c97] at p105
      exact tr_vret hZ dX12_begins_30 rfl (by decide) (by decide) ⟨rfl, rfl, rfl, rfl, rfl, hS107, (by (try rw [c111]); (try omega)), w109, trivial⟩
    · skip
      refine tr_aload_n dX12_begins_20 rfl ?_
      refine q_bipush dX12_begins_21 (by decide +kernel) ?_
      intro v116 h117
      refine q_callVv hE (M' := mX12_flaw) (as := [_]) dX12_begins_23 lk12_145 inX12_flaw seX12_flaw myX12_flaw (by decide) ⟨by decide, by decide⟩ rfl (kR15 hS86.1 ta0) (Nat.le_of_ble_eq_true rfl) rfl rfl (by decide) (by decide) (k_X12_flaw hS86.1 ta0 (by omega)) ?_
      rintro cn' K' N' I118 R119 L120 ⟨rfl, rfl, rfl, rfl, rfl, g121, p123, p124, w125, -⟩
      have hS126 := hS86.tr g121 (by decide +kernel) (by decide +kernel)
      have c127 : I118 a0 8 = v75 := (g121.cell ta0 (by decide +kernel)).trans c87
      have w128 : RdI a0 I0 I118 := w88.rd w125
      obtain ⟨v129, c130⟩ : ∃ v, I118 a0 9 = v := ⟨_, rfl⟩
      have b131 := iv15_9 hS126.1 ta0 c130
      rw [c130] at p123
      rw [c127] at p124
      rw [c87] at p124
      refine tr_aload_n dX12_begins_26 rfl ?_
      obtain ⟨v132, c133⟩ : ∃ v, I118 a0 13 = v := ⟨_, rfl⟩
      refine q_callVv hE (M' := mX12_goesOn) (as := []) dX12_begins_27 lk12_142 inX12_goesOn seX12_goesOn myX12_goesOn (by decide) ⟨by decide, by decide⟩ rfl (kR15 hS126.1 ta0) (Nat.le_of_ble_eq_true rfl) rfl rfl (by decide) (by decide) (k_X12_goesOn hS126.1 ta0) ?_
      rintro cn' K' N' I134 R135 L136 ⟨rfl, rfl, rfl, rfl, g137, p139, p140, p141, w142, -⟩
      have hS143 := hS126.tr g137 (by decide +kernel) (by decide +kernel)
      have c144 : I134 a0 13 = v132 := (g137.cell ta0 (by decide +kernel)).trans c133
      have w145 : RdI a0 I0 I134 := w128.rd w142
      obtain ⟨v146, c147⟩ : ∃ v, I134 a0 9 = v := ⟨_, rfl⟩
      have b148 := iv15_9 hS143.1 ta0 c147
      rw [c130] at p139
      rw [c147] at p139
      rw [c130] at p140
      rw [c147] at p140
      obtain ⟨v149, c150⟩ : ∃ v, I134 a0 8 = v := ⟨_, rfl⟩
      have b151 := iv15_8 hS143.1 ta0 c150
      rw [c150] at p141
      rw [c127] at p141
      rw [c144] at p141
      rw [c133] at p141
      exact tr_vret hZ dX12_begins_30 rfl (by decide) (by decide) ⟨rfl, rfl, rfl, rfl, rfl, hS143, (by (try rw [c147]); (try omega)), w145, trivial⟩
