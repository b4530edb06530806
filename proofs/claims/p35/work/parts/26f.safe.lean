def wi_X12_bounded : List Nat := [969, 973, 974]
def wr_X12_bounded : List Nat := []
set_option maxHeartbeats 4000000 in
theorem k_X12_bounded {l : Launch} {T : Nat → Nat} {cn : Nat} {K N : Nat → Nat} {I0 : cz_I} {R0 : cz_R} {L0 : cz_L} {d : Int} (hW0 : Wf T cn K N I0 R0 d) {a0 : Nat} (ta0 : T a0 = 15) {x1 : Int32} {x2 : Int32} : ConE l mX12_bounded [.ref a0, .int x1, .int x2] cn K N I0 R0 L0 (ca_i (fun v cn' K' N' I' R' L' => cn = cn' ∧ K = K' ∧ N = N' ∧ R0 = R' ∧ L0 = L' ∧ St T cn K N d wi_X12_bounded wr_X12_bounded I0 R0 I' R0 ∧ ((v.toInt = x1.toInt ∨ (x1.toInt ≤ v.toInt ∧ v.toInt ≤ x2.toInt))) ∧ (((I' a0 9).toInt ≠ 5 → (x1.toInt ≤ v.toInt ∧ v.toInt ≤ x2.toInt))) ∧ EwI a0 I0 I' ∧ True)) := by
  refine ConE.of (by decide +kernel) rfl (Nat.le_of_ble_eq_true rfl) rfl (fun X hX hZ hE => ?_)
  subst hX
  have hS0 : St T cn K N d wi_X12_bounded wr_X12_bounded I0 R0 I0 R0 := St.rf0 hW0
  refine tr_aload_n dX12_bounded_0 rfl ?_
  obtain ⟨v1, c2⟩ : ∃ v, I0 a0 9 = v := ⟨_, rfl⟩
  have b3 := iv15_9 hS0.1 ta0 c2
  refine q_getI dX12_bounded_1 fl12_99 (kR15 hS0.1 ta0) c2 ?_
  refine q_iconst dX12_bounded_4 (by decide) ?_
  intro v4 h5
  refine q_icmp_eq 16 dX12_bounded_5 (by decide) (fun h6 => ?_) (fun h6 => ?_)
  · skip
    refine tr_aload_n dX12_bounded_16 rfl ?_
    obtain ⟨v7, c8⟩ : ∃ v, I0 a0 12 = v := ⟨_, rfl⟩
    refine q_getI dX12_bounded_17 fl12_125 (kR15 hS0.1 ta0) c8 ?_
    refine tr_iload_n dX12_bounded_20 rfl ?_
    refine tr_iload_n dX12_bounded_21 rfl ?_
    refine q_callSi hE (M' := mX12_in) (as := [_, _, _]) dX12_bounded_22 lk12_149 inX12_in myX12_in ⟨by decide, by decide⟩ rfl (Nat.le_of_ble_eq_true rfl) rfl rfl (by decide) (by decide) (k_X12_in hS0.1 ) ?_
    rintro v13 cn' K' N' I9 R10 L11 ⟨rfl, rfl, rfl, rfl, rfl, rfl, h14, p15, p16, -⟩
    refine q_if_ne 33 dX12_bounded_25 (by decide) (fun h17 => ?_) (fun h17 => ?_)
    · skip
      refine tr_aload_n dX12_bounded_33 rfl ?_
      refine q_getI dX12_bounded_34 fl12_99 (kR15 hS0.1 ta0) c2 ?_
      refine q_iconst dX12_bounded_37 (by decide) ?_
      intro v18 h19
      refine q_icmp_ne 45 dX12_bounded_38 (by decide) (fun h20 => ?_) (fun h20 => ?_)
      · skip
        refine tr_aload_n dX12_bounded_45 rfl ?_
        refine q_getI dX12_bounded_46 fl12_125 (kR15 hS0.1 ta0) c8 ?_
        exact tr_iret hZ dX12_bounded_49 rfl (by decide) (by decide) ⟨v7, rfl, rfl, rfl, rfl, rfl, rfl, hS0, (by exact om_592d0568 h5 h6 h14.2 h14.1 p15 p16 h17 h19 h20), (by (try rw [c2]); (try exact om_434626ec h5 h6 h14.2 h14.1 p15 p16 h17 h19 h20)), (EwI.rf a0 I0), trivial⟩
      · skip
        exfalso; exact om_356469de h5 h6 h19 h20
    · skip
      refine tr_aload_n dX12_bounded_28 rfl ?_
      refine q_iconst dX12_bounded_29 (by decide) ?_
      intro v21 h22
      obtain ⟨v23, c24⟩ : ∃ v, I0 a0 8 = v := ⟨_, rfl⟩
      have b25 := iv15_8 hW0 ta0 c24
      refine q_callVv hE (M' := mX12_flaw) (as := [_]) dX12_bounded_30 lk12_145 inX12_flaw seX12_flaw myX12_flaw (by decide) ⟨by decide, by decide⟩ rfl (kR15 hS0.1 ta0) (Nat.le_of_ble_eq_true rfl) rfl rfl (by decide) (by decide) (k_X12_flaw hS0.1 ta0 (by exact om_fcf2b558 h22)) ?_
      rintro cn' K' N' I26 R27 L28 ⟨rfl, rfl, rfl, rfl, rfl, g29, p31, p32, w33, -⟩
      have hS34 := hS0.tr g29 (by decide +kernel) (by decide +kernel)
      have w35 : RdI a0 I0 I26 := (EwI.rf a0 I0).rd w33
      obtain ⟨v36, c37⟩ : ∃ v, I26 a0 9 = v := ⟨_, rfl⟩
      have b38 := iv15_9 hS34.1 ta0 c37
      rw [c37] at p31
      rw [((hS34.cell ta0 (by decide +kernel)).trans c24)] at p32
      rw [c24] at p32
      refine tr_aload_n dX12_bounded_33 rfl ?_
      refine q_getI dX12_bounded_34 fl12_99 (kR15 hS34.1 ta0) c37 ?_
      refine q_iconst dX12_bounded_37 (by decide) ?_
      intro v39 h40
      refine q_icmp_ne 45 dX12_bounded_38 (by decide) (fun h41 => ?_) (fun h41 => ?_)
      · skip
        exfalso; exact om_1fa3e129 p31 h40 h41
      · skip
        refine tr_iload_n dX12_bounded_41 rfl ?_
        refine tr_goto 49 dX12_bounded_42 (by decide) ?_
        exact tr_iret hZ dX12_bounded_49 rfl (by decide) (by decide) ⟨x1, rfl, rfl, rfl, rfl, rfl, rfl, hS34, (by exact om_bdb73b2f), (by (try rw [c37]); (try exact om_9f68f885 p31)), (Or.inr w35), trivial⟩
  · skip
    refine tr_aload_n dX12_bounded_8 rfl ?_
    refine q_iconst dX12_bounded_9 (by decide) ?_
    intro v42 h43
    obtain ⟨v44, c45⟩ : ∃ v, I0 a0 8 = v := ⟨_, rfl⟩
    have b46 := iv15_8 hW0 ta0 c45
    refine q_callVv hE (M' := mX12_flaw) (as := [_]) dX12_bounded_10 lk12_145 inX12_flaw seX12_flaw myX12_flaw (by decide) ⟨by decide, by decide⟩ rfl (kR15 hS0.1 ta0) (Nat.le_of_ble_eq_true rfl) rfl rfl (by decide) (by decide) (k_X12_flaw hS0.1 ta0 (by exact om_95922198 h43)) ?_
    rintro cn' K' N' I47 R48 L49 ⟨rfl, rfl, rfl, rfl, rfl, g50, p52, p53, w54, -⟩
    have hS55 := hS0.tr g50 (by decide +kernel) (by decide +kernel)
    have w56 : RdI a0 I0 I47 := (EwI.rf a0 I0).rd w54
    obtain ⟨v57, c58⟩ : ∃ v, I47 a0 9 = v := ⟨_, rfl⟩
    have b59 := iv15_9 hS55.1 ta0 c58
    rw [c58] at p52
    rw [((hS55.cell ta0 (by decide +kernel)).trans c45)] at p53
    rw [c45] at p53
    refine tr_goto 33 dX12_bounded_13 (by decide) ?_
    refine tr_aload_n dX12_bounded_33 rfl ?_
    refine q_getI dX12_bounded_34 fl12_99 (kR15 hS55.1 ta0) c58 ?_
    refine q_iconst dX12_bounded_37 (by decide) ?_
    intro v60 h61
    refine q_icmp_ne 45 dX12_bounded_38 (by decide) (fun h62 => ?_) (fun h62 => ?_)
    · skip
      exfalso; exact om_1fa3e129 p52 h61 h62
    · skip
      refine tr_iload_n dX12_bounded_41 rfl ?_
      refine tr_goto 49 dX12_bounded_42 (by decide) ?_
      exact tr_iret hZ dX12_bounded_49 rfl (by decide) (by decide) ⟨x1, rfl, rfl, rfl, rfl, rfl, rfl, hS55, (by exact om_bdb73b2f), (by (try rw [c58]); (try exact om_9f68f885 p52)), (Or.inr w56), trivial⟩
def wi_X12_eatsSign : List Nat := [968, 969, 970, 971, 972]
def wr_X12_eatsSign : List Nat := []
set_option maxHeartbeats 4000000 in
theorem k_X12_eatsSign {l : Launch} {T : Nat → Nat} {cn : Nat} {K N : Nat → Nat} {I0 : cz_I} {R0 : cz_R} {L0 : cz_L} {d : Int} (hW0 : Wf T cn K N I0 R0 d) {a0 : Nat} (ta0 : T a0 = 15) {x1 : Int32} : ConE l mX12_eatsSign [.ref a0, .int x1] cn K N I0 R0 L0 (ca_i (fun v cn' K' N' I' R' L' => cn = cn' ∧ K = K' ∧ N = N' ∧ R0 = R' ∧ St T cn K N d wi_X12_eatsSign wr_X12_eatsSign I0 R0 I' R0 ∧ (0 ≤ v.toInt ∧ v.toInt ≤ 1) ∧ ((v.toInt = 1 → (I0 a0 9).toInt = 4)) ∧ ((I' a0 8).toInt ≥ (I0 a0 8).toInt) ∧ EwI a0 I0 I' ∧ True)) := by
  refine ConE.of (by decide +kernel) rfl (Nat.le_of_ble_eq_true rfl) rfl (fun X hX hZ hE => ?_)
  subst hX
  have hS0 : St T cn K N d wi_X12_eatsSign wr_X12_eatsSign I0 R0 I0 R0 := St.rf0 hW0
  obtain ⟨v1, c2⟩ : ∃ v, I0 a0 9 = v := ⟨_, rfl⟩
  have b3 := iv15_9 hS0.1 ta0 c2
  obtain ⟨v4, c5⟩ : ∃ v, I0 a0 8 = v := ⟨_, rfl⟩
  have b6 := iv15_8 hS0.1 ta0 c5
  refine tr_aload_n dX12_eatsSign_0 rfl ?_
  refine q_getI dX12_eatsSign_1 fl12_99 (kR15 hS0.1 ta0) c2 ?_
  refine q_iconst dX12_eatsSign_4 (by decide) ?_
  intro v7 h8
  refine q_icmp_ne 20 dX12_eatsSign_5 (by decide) (fun h9 => ?_) (fun h9 => ?_)
  · skip
    refine q_iconst dX12_eatsSign_20 (by decide) ?_
    intro v10 h11
    refine tr_istore_n dX12_eatsSign_21 (by decide) (by decide) ?_
    refine tr_iload_n dX12_eatsSign_22 rfl ?_
    refine q_if_eq 30 dX12_eatsSign_23 (by decide) (fun h12 => ?_) (fun h12 => ?_)
    · skip
      refine tr_iload_n dX12_eatsSign_30 rfl ?_
      exact tr_zret hZ dX12_eatsSign_31 rfl (ti_b01 (by exact om_d99fa9e4 h11) (by exact om_d3de7ec9 h11)) (by decide) (by decide) ⟨v10, rfl, rfl, rfl, rfl, rfl, hS0, (by exact om_3b50ecb9 h11), (by (try rw [c2]); (try exact om_a19e3b92 h11)), (by (try rw [c5]); (try exact om_4a4c3493)), (EwI.rf a0 I0), trivial⟩
    · skip
      exfalso; exact om_3a97d4a5 h11 h12
  · skip
    refine tr_aload_n dX12_eatsSign_8 rfl ?_
    obtain ⟨v13, c14⟩ : ∃ v, I0 a0 11 = v := ⟨_, rfl⟩
    refine q_getI dX12_eatsSign_9 fl12_111 (kR15 hS0.1 ta0) c14 ?_
    refine tr_iload_n dX12_eatsSign_12 rfl ?_
    refine q_icmp_ne 20 dX12_eatsSign_13 (by decide) (fun h15 => ?_) (fun h15 => ?_)
    · skip
      refine q_iconst dX12_eatsSign_20 (by decide) ?_
      intro v16 h17
      refine tr_istore_n dX12_eatsSign_21 (by decide) (by decide) ?_
      refine tr_iload_n dX12_eatsSign_22 rfl ?_
      refine q_if_eq 30 dX12_eatsSign_23 (by decide) (fun h18 => ?_) (fun h18 => ?_)
      · skip
        refine tr_iload_n dX12_eatsSign_30 rfl ?_
        exact tr_zret hZ dX12_eatsSign_31 rfl (ti_b01 (by exact om_d99fa9e4 h17) (by exact om_d3de7ec9 h17)) (by decide) (by decide) ⟨v16, rfl, rfl, rfl, rfl, rfl, hS0, (by exact om_3b50ecb9 h17), (by (try rw [c2]); (try exact om_a19e3b92 h17)), (by (try rw [c5]); (try exact om_4a4c3493)), (EwI.rf a0 I0), trivial⟩
      · skip
        exfalso; exact om_3a97d4a5 h17 h18
    · skip
      refine q_iconst dX12_eatsSign_16 (by decide) ?_
      intro v19 h20
      refine tr_goto 21 dX12_eatsSign_17 (by decide) ?_
      refine tr_istore_n dX12_eatsSign_21 (by decide) (by decide) ?_
      refine tr_iload_n dX12_eatsSign_22 rfl ?_
      refine q_if_eq 30 dX12_eatsSign_23 (by decide) (fun h21 => ?_) (fun h21 => ?_)
      · skip
        exfalso; exact om_3624102b h20 h21
      · skip
        refine tr_aload_n dX12_eatsSign_26 rfl ?_
        obtain ⟨v22, c23⟩ : ∃ v, I0 a0 13 = v := ⟨_, rfl⟩
        refine q_callVv hE (M' := mX12_goesOn) (as := []) dX12_eatsSign_27 lk12_142 inX12_goesOn seX12_goesOn myX12_goesOn (by decide) ⟨by decide, by decide⟩ rfl (kR15 hS0.1 ta0) (Nat.le_of_ble_eq_true rfl) rfl rfl (by decide) (by decide) (k_X12_goesOn hS0.1 ta0) ?_
        rintro cn' K' N' I24 R25 L26 ⟨rfl, rfl, rfl, rfl, g27, p29, p30, p31, w32, -⟩
        have hS33 := hS0.tr g27 (by decide +kernel) (by decide +kernel)
        have w34 : RdI a0 I0 I24 := (EwI.rf a0 I0).rd w32
        obtain ⟨v35, c36⟩ : ∃ v, I24 a0 9 = v := ⟨_, rfl⟩
        have b37 := iv15_9 hS33.1 ta0 c36
        rw [c2] at p29
        rw [c36] at p29
        rw [c2] at p30
        rw [c36] at p30
        obtain ⟨v38, c39⟩ : ∃ v, I24 a0 8 = v := ⟨_, rfl⟩
        have b40 := iv15_8 hS33.1 ta0 c39
        rw [c39] at p31
        rw [c5] at p31
        rw [((hS33.cell ta0 (by decide +kernel)).trans c23)] at p31
        rw [c23] at p31
        refine tr_iload_n dX12_eatsSign_30 rfl ?_
        exact tr_zret hZ dX12_eatsSign_31 rfl (ti_b01 (by exact om_f9079521 h20) (by exact om_e6632817 h20)) (by decide) (by decide) ⟨v19, rfl, rfl, rfl, rfl, rfl, hS33, (by exact om_d753bc65 h20), (by (try rw [c2]); (try exact om_6e139f59 h8 h9)), (by (try rw [c39]); (try rw [c5]); (try exact om_138fb411 p31.1)), (Or.inr w34), trivial⟩
def wi_X12_readRising : List Nat := [968, 969, 970, 971, 972, 973, 974, 3967]
def wr_X12_readRising : List Nat := []
set_option maxHeartbeats 4000000 in
theorem k_X12_readRising {l : Launch} {T : Nat → Nat} {cn : Nat} {K N : Nat → Nat} {I0 : cz_I} {R0 : cz_R} {L0 : cz_L} {d : Int} (hW0 : Wf T cn K N I0 R0 d) {a0 : Nat} (ta0 : T a0 = 15) {a1 : Nat} (ta1 : T a1 = 61) {x2 : Int32} (hx2 : 0 ≤ x2.toInt ∧ x2.toInt ≤ 32) {x3 : Int32} (hx3 : 8 ≤ x3.toInt ∧ x3.toInt ≤ 8) (pre0 : ((I0 a0 9).toInt ≠ 5 → x2.toInt ≤ 24)) (nn4 : ∃ b, R0 a0 4 = some b) : ConE l mX12_readRising [.ref a0, .ref a1, .int x2, .int x3] cn K N I0 R0 L0 (ca_i (fun v cn' K' N' I' R' L' => cn = cn' ∧ K = K' ∧ N = N' ∧ R0 = R' ∧ St T cn K N d wi_X12_readRising wr_X12_readRising I0 R0 I' R0 ∧ (0 ≤ v.toInt ∧ v.toInt ≤ 8) ∧ EwI a0 I0 I' ∧ True)) := by
  refine ConE.of (by decide +kernel) rfl (Nat.le_of_ble_eq_true rfl) rfl (fun X hX hZ hE => ?_)
  subst hX
  have hS0 : St T cn K N d wi_X12_readRising wr_X12_readRising I0 R0 I0 R0 := St.rf0 hW0
  obtain ⟨a11, d12⟩ := nn4
  have ta11 : T a11 = 14 := hW0.rsN ta0 rfl d12
  have gd13 : Gd (I0 a0 9) (x2.toInt ≤ 24) := pre0
  refine q_iconst dX12_readRising_0 (by decide) ?_
  intro v14 h15
  refine tr_istore dX12_readRising_1 (by decide) (by decide) ?_
  refine q_iconst dX12_readRising_3 (by decide) ?_
  intro v16 h17
  refine tr_istore dX12_readRising_4 (by decide) (by decide) ?_
  refine q_iconst dX12_readRising_6 (by decide) ?_
  intro v18 h19
  refine tr_istore dX12_readRising_7 (by decide) (by decide) ?_
  have lp41 : ∀ (fu : Nat) (ls : Nat → Option Value) (v20 : Int32) (v21 : Int32) (v22 : Int32) (I30 : cz_I) (L31 : cz_L), ls 0 = some (.ref a0) → ls 1 = some (.ref a1) → ls 2 = some (.int x2) → ls 3 = some (.int x3) → ls 4 = some (.int v20) → ls 5 = some (.int v21) → ls 6 = some (.int v22) → St T cn K N d wi_X12_readRising wr_X12_readRising I0 R0 I30 R0 → EwI a0 I0 I30 → Gd (I30 a0 9) (x2.toInt ≤ 24) → 0 ≤ v20.toInt → v20.toInt ≤ 8 → 0 ≤ v21.toInt → v21.toInt ≤ 240 → 0 ≤ v22.toInt → v22.toInt ≤ 1 → (-v20.toInt + 9).toNat < fu → Tr X mX12_readRising 9 ls [] cn K N I30 R0 L31 0 0 := by
    intro fu
    induction fu with
    | zero => intros; rename_i hz; exact absurd hz (Nat.not_lt_zero _)
    | succ fu ih41 =>
      intro ls v20 v21 v22 I30 L31 hl23 hl24 hl25 hl26 hl27 hl28 hl29 hS32 w33 gd34 g35 g36 g37 g38 g39 g40 hm41
      refine tr_iload dX12_readRising_9 hl29 ?_
      refine q_if_eq 92 dX12_readRising_11 (by decide) (fun h43 => ?_) (fun h43 => ?_)
      · skip
        refine tr_iload dX12_readRising_92 hl27 ?_
        exact tr_iret hZ dX12_readRising_94 rfl (by decide) (by decide) ⟨v20, rfl, rfl, rfl, rfl, rfl, hS32, (by exact om_0849edb3 g35 g36), w33, trivial⟩
      · skip
        refine tr_aload_n dX12_readRising_14 hl23 ?_
        obtain ⟨v44, c45⟩ : ∃ v, I30 a0 9 = v := ⟨_, rfl⟩
        have b46 := iv15_9 hS32.1 ta0 c45
        refine q_getI dX12_readRising_15 fl12_99 (kR15 hS32.1 ta0) c45 ?_
        refine q_iconst dX12_readRising_18 (by decide) ?_
        intro v47 h48
        refine q_icmp_eq 92 dX12_readRising_19 (by decide) (fun h49 => ?_) (fun h49 => ?_)
        · skip
          refine tr_iload dX12_readRising_92 hl27 ?_
          exact tr_iret hZ dX12_readRising_94 rfl (by decide) (by decide) ⟨v20, rfl, rfl, rfl, rfl, rfl, hS32, (by exact om_0849edb3 g35 g36), w33, trivial⟩
        · skip
          have p50 := gd34 (by rw [c45]; exact om_a7d61cc2 h48 h49)
          refine tr_aload_n dX12_readRising_22 hl23 ?_
          refine tr_iload dX12_readRising_23 hl28 ?_
          refine tr_aload_n dX12_readRising_25 hl23 ?_
          refine tr_getR dX12_readRising_26 fl12_188 (kR15 hS32.1 ta0) d12 ?_
          obtain ⟨v51, c52⟩ : ∃ v, I0 a11 0 = v := ⟨_, rfl⟩
          have b53 := iv14_0 hW0 ta11 c52
          refine q_getI dX12_readRising_29 fl12_192 (kR14 hS32.1 ta11) ((hS32.cell ta11 (by decide +kernel)).trans c52) ?_
          refine q_iconst dX12_readRising_32 (by decide) ?_
          intro v54 h55
          refine q_isubE dX12_readRising_33 (by intro j1 j2 j3 j4; exact om_c6626f59 b53.2 b53.1 h55) ?_
          intro v56 h57
          refine q_callVi hE (M' := mX12_bounded) (as := [_, _]) dX12_readRising_34 lk12_153 inX12_bounded seX12_bounded myX12_bounded (by decide) ⟨by decide, by decide⟩ rfl (kR15 hS32.1 ta0) (Nat.le_of_ble_eq_true rfl) rfl rfl (by decide) (by decide) (k_X12_bounded hS32.1 ta0) ?_
          rintro v62 cn' K' N' I58 R59 L60 ⟨rfl, rfl, rfl, rfl, rfl, g61, p63, p64, w65, -⟩
          have hS66 := hS32.tr g61 (by decide +kernel) (by decide +kernel)
          have w67 : EwI a0 I0 I58 := w33.ew w65
          have w68 : EwI a0 I30 I58 := (EwI.rf a0 I30).ew w65
          have gd69 := Gd.go gd34 w65.stick
          have b70 : 0 ≤ v62.toInt ∧ v62.toInt ≤ 240 := by exact om_317cd548 g37 g38 b53.2 b53.1 h55 h57 p63 p64
          clear p63
          obtain ⟨v71, c72⟩ : ∃ v, I58 a0 9 = v := ⟨_, rfl⟩
          have b73 := iv15_9 hS66.1 ta0 c72
          have gd74 : Gd (I58 a0 9) ((v21.toInt ≤ v62.toInt ∧ v62.toInt ≤ v56.toInt)) := p64
          clear p64
          refine tr_istore dX12_readRising_37 (by decide) (by decide) ?_
          refine tr_iload dX12_readRising_39 hl27 ?_
          refine tr_iload_n dX12_readRising_41 hl26 ?_
          refine q_icmp_ne 50 dX12_readRising_42 (by decide) (fun h75 => ?_) (fun h75 => ?_)
          · skip
            refine tr_aload_n dX12_readRising_50 hl23 ?_
            obtain ⟨v76, c77⟩ : ∃ v, I58 a0 8 = v := ⟨_, rfl⟩
            have b78 := iv15_8 hS66.1 ta0 c77
            obtain ⟨v79, c80⟩ : ∃ v, I58 a0 13 = v := ⟨_, rfl⟩
            refine q_callVv hE (M' := mX12_goesOn) (as := []) dX12_readRising_51 lk12_142 inX12_goesOn seX12_goesOn myX12_goesOn (by decide) ⟨by decide, by decide⟩ rfl (kR15 hS66.1 ta0) (Nat.le_of_ble_eq_true rfl) rfl rfl (by decide) (by decide) (k_X12_goesOn hS66.1 ta0) ?_
            rintro cn' K' N' I81 R82 L83 ⟨rfl, rfl, rfl, rfl, g84, p86, p87, p88, w89, -⟩
            have hS90 := hS66.tr g84 (by decide +kernel) (by decide +kernel)
            have c91 : I81 a0 13 = v79 := (g84.cell ta0 (by decide +kernel)).trans c80
            have w92 : RdI a0 I0 I81 := w67.rd w89
            have w93 : RdI a0 I30 I81 := w68.rd w89
            have gd94 := Gd.go gd69 w89.stick
            have gd95 := Gd.go gd74 w89.stick
            obtain ⟨v96, c97⟩ : ∃ v, I81 a0 9 = v := ⟨_, rfl⟩
            have b98 := iv15_9 hS90.1 ta0 c97
            rw [c72] at p86
            rw [c97] at p86
            rw [c72] at p87
            rw [c97] at p87
            obtain ⟨v99, c100⟩ : ∃ v, I81 a0 8 = v := ⟨_, rfl⟩
            have b101 := iv15_8 hS90.1 ta0 c100
            rw [c100] at p88
            rw [c77] at p88
            rw [c91] at p88
            rw [c80] at p88
            refine tr_aload_n dX12_readRising_54 hl23 ?_
            refine q_getI dX12_readRising_55 fl12_99 (kR15 hS90.1 ta0) c97 ?_
            refine q_iconst dX12_readRising_58 (by decide) ?_
            intro v102 h103
            refine q_icmp_ne 64 dX12_readRising_59 (by decide) (fun h104 => ?_) (fun h104 => ?_)
            · skip
              have p105 := gd95 (by rw [c97]; exact om_a7d61cc2 h103 h104)
              refine tr_aload_n dX12_readRising_64 hl24 ?_
              refine tr_iload_n dX12_readRising_65 hl25 ?_
              refine tr_iload dX12_readRising_66 hl27 ?_
              refine q_iaddE dX12_readRising_68 (by intro j1 j2 j3 j4; exact om_2089f431 hx2.2 hx2.1 g35 g36 p50) ?_
              intro v106 h107
              refine tr_iload dX12_readRising_69 rfl ?_
              refine q_iast dX12_readRising_71 (kR61 hS90.1 ta1) (ti_in (nR61 hS90.1 ta1) (by exact om_ea855f39 hx2.2 hx2.1 g35 g36 p50 h107) (by exact om_d3b1c174 hx2.2 hx2.1 hx3.2 hx3.1 g35 g36 p50 b73.2 b73.1 h75 p87 p86 b98.2 b98.1 h103 h104 h107)) hS90 ta1 (by show (0 : Int) ≤ v62.toInt ∧ v62.toInt ≤ (239 : Int); exact om_57506b53 b53.2 b53.1 h55 h57 b70.2 b70.1 p105.2) rfl (by rfl) ?_
              intro I108 hS109 e111 f110
              have c112 : I108 a0 13 = v79 := (f110 _ _ (fun q => by have z := ta0; rw [q.1, ta1] at z; exact absurd z (by decide))).trans c91
              have c113 : I108 a0 9 = v96 := (f110 _ _ (fun q => by have z := ta0; rw [q.1, ta1] at z; exact absurd z (by decide))).trans c97
              have c114 : I108 a0 8 = v99 := (f110 _ _ (fun q => by have z := ta0; rw [q.1, ta1] at z; exact absurd z (by decide))).trans c100
              have w115 : RdI a0 I0 I108 := w92.keep (f110 _ _ (fun q => by have z := ta0; rw [q.1, ta1] at z; exact absurd z (by decide))) (f110 _ _ (fun q => by have z := ta0; rw [q.1, ta1] at z; exact absurd z (by decide))) (f110 _ _ (fun q => by have z := ta0; rw [q.1, ta1] at z; exact absurd z (by decide))) (f110 _ _ (fun q => by have z := ta0; rw [q.1, ta1] at z; exact absurd z (by decide)))
              have w116 : RdI a0 I30 I108 := w93.keep (f110 _ _ (fun q => by have z := ta0; rw [q.1, ta1] at z; exact absurd z (by decide))) (f110 _ _ (fun q => by have z := ta0; rw [q.1, ta1] at z; exact absurd z (by decide))) (f110 _ _ (fun q => by have z := ta0; rw [q.1, ta1] at z; exact absurd z (by decide))) (f110 _ _ (fun q => by have z := ta0; rw [q.1, ta1] at z; exact absurd z (by decide)))
              have gd117 := Gd.keep gd94 (f110 _ _ (fun q => by have z := ta0; rw [q.1, ta1] at z; exact absurd z (by decide)))
              have gd118 := Gd.keep gd95 (f110 _ _ (fun q => by have z := ta0; rw [q.1, ta1] at z; exact absurd z (by decide)))
              refine q_iincE dX12_readRising_72 hl27 (by decide) (by decide) (by intro j1 j2; exact om_1111f675 g35 g36) ?_
              intro v119 h120
              refine tr_iload dX12_readRising_75 rfl ?_
              refine q_iconst dX12_readRising_77 (by decide) ?_
              intro v121 h122
              refine q_iaddE dX12_readRising_78 (by intro j1 j2 j3 j4; exact om_0804fc38 b53.2 b53.1 h55 h57 b70.2 b70.1 p105.2 h122) ?_
              intro v123 h124
              refine tr_istore dX12_readRising_79 (by decide) (by decide) ?_
              refine tr_aload_n dX12_readRising_81 hl23 ?_
              refine q_bipush dX12_readRising_82 (by decide +kernel) ?_
              intro v125 h126
              refine q_callVi hE (M' := mX12_eatsSign) (as := [_]) dX12_readRising_84 lk12_221 inX12_eatsSign seX12_eatsSign myX12_eatsSign (by decide) ⟨by decide, by decide⟩ rfl (kR15 hS109.1 ta0) (Nat.le_of_ble_eq_true rfl) rfl rfl (by decide) (by decide) (k_X12_eatsSign hS109.1 ta0) ?_
              rintro v131 cn' K' N' I127 R128 L129 ⟨rfl, rfl, rfl, rfl, g130, h132, p133, p134, w135, -⟩
              have hS136 := hS109.tr g130 (by decide +kernel) (by decide +kernel)
              have c137 : I127 a0 13 = v79 := (g130.cell ta0 (by decide +kernel)).trans c112
              have w138 : RdI a0 I0 I127 := w115.ew w135
              have w139 : RdI a0 I30 I127 := w116.ew w135
              have gd140 := Gd.go gd117 w135.stick
              have gd141 := Gd.go gd118 w135.stick
              rw [c113] at p133
              obtain ⟨v142, c143⟩ : ∃ v, I127 a0 8 = v := ⟨_, rfl⟩
              have b144 := iv15_8 hS136.1 ta0 c143
              rw [c143] at p134
              rw [c114] at p134
              refine tr_istore dX12_readRising_87 (by decide) (by decide) ?_
              refine tr_goto 9 dX12_readRising_89 (by decide) ?_
              exact ih41 _ v119 v123 v131 I127 L129 hl23 hl24 hl25 hl26 rfl rfl rfl hS136 (Or.inr w138) gd140 (by exact om_1d0f06b5 g35 g36 h120) (by exact om_6f6c9f44 hx3.2 hx3.1 g35 g36 b73.2 b73.1 h75 p87 p86 b98.2 b98.1 h103 h104 h120 h132.2 h132.1 p133) (by exact om_9b5dbdcf b70.2 b70.1 h122 h124) (by exact om_b1841dfd b53.2 b53.1 h55 h57 b70.2 b70.1 p105.2 h122 h124) (by exact om_ef03f1ae h132.2 h132.1) (by exact om_51ab244e h132.2 h132.1) (by exact om_db11d509 hx3.2 hx3.1 g35 g36 g39 g40 hm41 h43 b46.2 b46.1 h48 h49 b73.2 b73.1 h75 p87 p86 b98.2 b98.1 h103 h104 h120 h132.2 h132.1 p133)
            · skip
              refine q_iconst dX12_readRising_62 (by decide) ?_
              intro v145 h146
              exact tr_iret hZ dX12_readRising_63 rfl (by decide) (by decide) ⟨v145, rfl, rfl, rfl, rfl, rfl, hS90, (by exact om_7d21acc5 h146), (Or.inr w92), trivial⟩
          · skip
            refine tr_aload_n dX12_readRising_45 hl23 ?_
            refine q_iconst dX12_readRising_46 (by decide) ?_
            intro v147 h148
            obtain ⟨v149, c150⟩ : ∃ v, I58 a0 8 = v := ⟨_, rfl⟩
            have b151 := iv15_8 hS66.1 ta0 c150
            refine q_callVv hE (M' := mX12_flaw) (as := [_]) dX12_readRising_47 lk12_145 inX12_flaw seX12_flaw myX12_flaw (by decide) ⟨by decide, by decide⟩ rfl (kR15 hS66.1 ta0) (Nat.le_of_ble_eq_true rfl) rfl rfl (by decide) (by decide) (k_X12_flaw hS66.1 ta0 (by exact om_054a361c h148)) ?_
            rintro cn' K' N' I152 R153 L154 ⟨rfl, rfl, rfl, rfl, rfl, g155, p157, p158, w159, -⟩
            have hS160 := hS66.tr g155 (by decide +kernel) (by decide +kernel)
            have c161 : I152 a0 8 = v149 := (g155.cell ta0 (by decide +kernel)).trans c150
            have w162 : RdI a0 I0 I152 := w67.rd w159
            have w163 : RdI a0 I30 I152 := w68.rd w159
            have gd164 := Gd.go gd69 w159.stick
            have gd165 := Gd.go gd74 w159.stick
            obtain ⟨v166, c167⟩ : ∃ v, I152 a0 9 = v := ⟨_, rfl⟩
            have b168 := iv15_9 hS160.1 ta0 c167
            rw [c167] at p157
            rw [c161] at p158
            rw [c150] at p158
            refine tr_aload_n dX12_readRising_50 hl23 ?_
            obtain ⟨v169, c170⟩ : ∃ v, I152 a0 13 = v := ⟨_, rfl⟩
            refine q_callVv hE (M' := mX12_goesOn) (as := []) dX12_readRising_51 lk12_142 inX12_goesOn seX12_goesOn myX12_goesOn (by decide) ⟨by decide, by decide⟩ rfl (kR15 hS160.1 ta0) (Nat.le_of_ble_eq_true rfl) rfl rfl (by decide) (by decide) (k_X12_goesOn hS160.1 ta0) ?_
            rintro cn' K' N' I171 R172 L173 ⟨rfl, rfl, rfl, rfl, g174, p176, p177, p178, w179, -⟩
            have hS180 := hS160.tr g174 (by decide +kernel) (by decide +kernel)
            have c181 : I171 a0 13 = v169 := (g174.cell ta0 (by decide +kernel)).trans c170
            have w182 : RdI a0 I0 I171 := w162.rd w179
            have w183 : RdI a0 I30 I171 := w163.rd w179
            have gd184 := Gd.go gd164 w179.stick
            have gd185 := Gd.go gd165 w179.stick
            obtain ⟨v186, c187⟩ : ∃ v, I171 a0 9 = v := ⟨_, rfl⟩
            have b188 := iv15_9 hS180.1 ta0 c187
            rw [c167] at p176
            rw [c187] at p176
            rw [c167] at p177
            rw [c187] at p177
            obtain ⟨v189, c190⟩ : ∃ v, I171 a0 8 = v := ⟨_, rfl⟩
            have b191 := iv15_8 hS180.1 ta0 c190
            rw [c190] at p178
            rw [c161] at p178
            rw [c181] at p178
            rw [c170] at p178
            refine tr_aload_n dX12_readRising_54 hl23 ?_
            refine q_getI dX12_readRising_55 fl12_99 (kR15 hS180.1 ta0) c187 ?_
            refine q_iconst dX12_readRising_58 (by decide) ?_
            intro v192 h193
            refine q_icmp_ne 64 dX12_readRising_59 (by decide) (fun h194 => ?_) (fun h194 => ?_)
            · skip
              exfalso; exact om_cfc9cb89 p157 p177 p176 b188.2 b188.1 h193 h194
            · skip
              refine q_iconst dX12_readRising_62 (by decide) ?_
              intro v195 h196
              exact tr_iret hZ dX12_readRising_63 rfl (by decide) (by decide) ⟨v195, rfl, rfl, rfl, rfl, rfl, hS180, (by exact om_7d21acc5 h196), (Or.inr w182), trivial⟩
  exact lp41 _ _ v14 v16 v18 I0 L0 rfl rfl rfl rfl rfl rfl rfl hS0 (EwI.rf a0 I0) gd13 (by exact om_d99fa9e4 h15) (by exact om_91231c9d h15) (by exact om_d99fa9e4 h17) (by exact om_4c96df26 h17) (by exact om_f9079521 h19) (by exact om_e6632817 h19) (Nat.lt_succ_self _)
set_option maxHeartbeats 4000000 in
theorem k_X12_isName {l : Launch} {T : Nat → Nat} {cn : Nat} {K N : Nat → Nat} {I0 : cz_I} {R0 : cz_R} {L0 : cz_L} {d : Int} (hW0 : Wf T cn K N I0 R0 d) {a0 : Nat} (ta0 : T a0 = 15) : ConE l mX12_isName [.ref a0] cn K N I0 R0 L0 (ca_i (fun v cn' K' N' I' R' L' => cn = cn' ∧ K = K' ∧ N = N' ∧ I0 = I' ∧ R0 = R' ∧ L0 = L' ∧ (0 ≤ v.toInt ∧ v.toInt ≤ 1) ∧ True)) := by
  refine ConE.of (by decide +kernel) rfl (Nat.le_of_ble_eq_true rfl) rfl (fun X hX hZ hE => ?_)
  subst hX
  refine tr_aload_n dX12_isName_0 rfl ?_
  obtain ⟨v1, c2⟩ : ∃ v, I0 a0 9 = v := ⟨_, rfl⟩
  have b3 := iv15_9 hW0 ta0 c2
  refine q_getI dX12_isName_1 fl12_99 (kR15 hW0 ta0) c2 ?_
  refine q_iconst dX12_isName_4 (by decide) ?_
  intro v4 h5
  refine q_icmp_ne 62 dX12_isName_5 (by decide) (fun h6 => ?_) (fun h6 => ?_)
  · skip
    refine q_iconst dX12_isName_62 (by decide) ?_
    intro v7 h8
    exact tr_zret hZ dX12_isName_63 rfl (ti_b01 (by exact om_d99fa9e4 h8) (by exact om_d3de7ec9 h8)) (by decide) (by decide) ⟨v7, rfl, rfl, rfl, rfl, rfl, rfl, rfl, (by exact om_3b50ecb9 h8), trivial⟩
  · skip
    refine tr_aload_n dX12_isName_8 rfl ?_
    refine tr_ldcS dX12_isName_9 ld12_164 ?_
    refine q_callVi hE (M' := mX12_isWord) (as := [_]) dX12_isName_11 lk12_138 inX12_isWord seX12_isWord myX12_isWord (by decide) ⟨by decide, by decide⟩ rfl (kR15 hW0 ta0) (Nat.le_of_ble_eq_true rfl) rfl rfl (by decide) (by decide) (k_X12_isWord hW0 ta0 (by decide)) ?_
    rintro v13 cn' K' N' I9 R10 L11 ⟨rfl, rfl, rfl, rfl, rfl, rfl, h14, p15, -⟩
    rw [c2] at p15
    refine q_if_ne 62 dX12_isName_14 (by decide) (fun h16 => ?_) (fun h16 => ?_)
    · skip
      refine q_iconst dX12_isName_62 (by decide) ?_
      intro v17 h18
      exact tr_zret hZ dX12_isName_63 rfl (ti_b01 (by exact om_d99fa9e4 h18) (by exact om_d3de7ec9 h18)) (by decide) (by decide) ⟨v17, rfl, rfl, rfl, rfl, rfl, rfl, rfl, (by exact om_3b50ecb9 h18), trivial⟩
    · skip
      refine tr_aload_n dX12_isName_17 rfl ?_
      refine tr_ldcS dX12_isName_18 ld12_166 ?_
      refine q_callVi hE (M' := mX12_isWord) (as := [_]) dX12_isName_20 lk12_138 inX12_isWord seX12_isWord myX12_isWord (by decide) ⟨by decide, by decide⟩ rfl (kR15 hW0 ta0) (Nat.le_of_ble_eq_true rfl) rfl rfl (by decide) (by decide) (k_X12_isWord hW0 ta0 (by decide)) ?_
      rintro v23 cn' K' N' I19 R20 L21 ⟨rfl, rfl, rfl, rfl, rfl, rfl, h24, p25, -⟩
      rw [c2] at p25
      refine q_if_ne 62 dX12_isName_23 (by decide) (fun h26 => ?_) (fun h26 => ?_)
      · skip
        refine q_iconst dX12_isName_62 (by decide) ?_
        intro v27 h28
        exact tr_zret hZ dX12_isName_63 rfl (ti_b01 (by exact om_d99fa9e4 h28) (by exact om_d3de7ec9 h28)) (by decide) (by decide) ⟨v27, rfl, rfl, rfl, rfl, rfl, rfl, rfl, (by exact om_3b50ecb9 h28), trivial⟩
      · skip
        refine tr_aload_n dX12_isName_26 rfl ?_
        refine tr_ldcS dX12_isName_27 ld12_168 ?_
        refine q_callVi hE (M' := mX12_isWord) (as := [_]) dX12_isName_29 lk12_138 inX12_isWord seX12_isWord myX12_isWord (by decide) ⟨by decide, by decide⟩ rfl (kR15 hW0 ta0) (Nat.le_of_ble_eq_true rfl) rfl rfl (by decide) (by decide) (k_X12_isWord hW0 ta0 (by decide)) ?_
        rintro v33 cn' K' N' I29 R30 L31 ⟨rfl, rfl, rfl, rfl, rfl, rfl, h34, p35, -⟩
        rw [c2] at p35
        refine q_if_ne 62 dX12_isName_32 (by decide) (fun h36 => ?_) (fun h36 => ?_)
        · skip
          refine q_iconst dX12_isName_62 (by decide) ?_
          intro v37 h38
          exact tr_zret hZ dX12_isName_63 rfl (ti_b01 (by exact om_d99fa9e4 h38) (by exact om_d3de7ec9 h38)) (by decide) (by decide) ⟨v37, rfl, rfl, rfl, rfl, rfl, rfl, rfl, (by exact om_3b50ecb9 h38), trivial⟩
        · skip
          refine tr_aload_n dX12_isName_35 rfl ?_
          refine tr_ldcS dX12_isName_36 ld12_170 ?_
          refine q_callVi hE (M' := mX12_isWord) (as := [_]) dX12_isName_38 lk12_138 inX12_isWord seX12_isWord myX12_isWord (by decide) ⟨by decide, by decide⟩ rfl (kR15 hW0 ta0) (Nat.le_of_ble_eq_true rfl) rfl rfl (by decide) (by decide) (k_X12_isWord hW0 ta0 (by decide)) ?_
          rintro v43 cn' K' N' I39 R40 L41 ⟨rfl, rfl, rfl, rfl, rfl, rfl, h44, p45, -⟩
          rw [c2] at p45
          refine q_if_ne 62 dX12_isName_41 (by decide) (fun h46 => ?_) (fun h46 => ?_)
          · skip
            refine q_iconst dX12_isName_62 (by decide) ?_
            intro v47 h48
            exact tr_zret hZ dX12_isName_63 rfl (ti_b01 (by exact om_d99fa9e4 h48) (by exact om_d3de7ec9 h48)) (by decide) (by decide) ⟨v47, rfl, rfl, rfl, rfl, rfl, rfl, rfl, (by exact om_3b50ecb9 h48), trivial⟩
          · skip
            refine tr_aload_n dX12_isName_44 rfl ?_
            refine tr_ldcS dX12_isName_45 ld12_172 ?_
            refine q_callVi hE (M' := mX12_isWord) (as := [_]) dX12_isName_47 lk12_138 inX12_isWord seX12_isWord myX12_isWord (by decide) ⟨by decide, by decide⟩ rfl (kR15 hW0 ta0) (Nat.le_of_ble_eq_true rfl) rfl rfl (by decide) (by decide) (k_X12_isWord hW0 ta0 (by decide)) ?_
            rintro v53 cn' K' N' I49 R50 L51 ⟨rfl, rfl, rfl, rfl, rfl, rfl, h54, p55, -⟩
            rw [c2] at p55
            refine q_if_ne 62 dX12_isName_50 (by decide) (fun h56 => ?_) (fun h56 => ?_)
            · skip
              refine q_iconst dX12_isName_62 (by decide) ?_
              intro v57 h58
              exact tr_zret hZ dX12_isName_63 rfl (ti_b01 (by exact om_d99fa9e4 h58) (by exact om_d3de7ec9 h58)) (by decide) (by decide) ⟨v57, rfl, rfl, rfl, rfl, rfl, rfl, rfl, (by exact om_3b50ecb9 h58), trivial⟩
            · skip
              refine tr_aload_n dX12_isName_53 rfl ?_
              refine tr_ldcS dX12_isName_54 ld12_174 ?_
              refine q_callVi hE (M' := mX12_isWord) (as := [_]) dX12_isName_56 lk12_138 inX12_isWord seX12_isWord myX12_isWord (by decide) ⟨by decide, by decide⟩ rfl (kR15 hW0 ta0) (Nat.le_of_ble_eq_true rfl) rfl rfl (by decide) (by decide) (k_X12_isWord hW0 ta0 (by decide)) ?_
              rintro v63 cn' K' N' I59 R60 L61 ⟨rfl, rfl, rfl, rfl, rfl, rfl, h64, p65, -⟩
              rw [c2] at p65
              refine q_if_eq 64 dX12_isName_59 (by decide) (fun h66 => ?_) (fun h66 => ?_)
              · skip
                refine tr_aload_n dX12_isName_64 rfl ?_
                refine tr_ldcS dX12_isName_65 ld12_176 ?_
                refine q_callVi hE (M' := mX12_isWord) (as := [_]) dX12_isName_67 lk12_138 inX12_isWord seX12_isWord myX12_isWord (by decide) ⟨by decide, by decide⟩ rfl (kR15 hW0 ta0) (Nat.le_of_ble_eq_true rfl) rfl rfl (by decide) (by decide) (k_X12_isWord hW0 ta0 (by decide)) ?_
                rintro v71 cn' K' N' I67 R68 L69 ⟨rfl, rfl, rfl, rfl, rfl, rfl, h72, p73, -⟩
                rw [c2] at p73
                refine q_if_ne 122 dX12_isName_70 (by decide) (fun h74 => ?_) (fun h74 => ?_)
                · skip
                  refine q_iconst dX12_isName_122 (by decide) ?_
                  intro v75 h76
                  exact tr_zret hZ dX12_isName_123 rfl (ti_b01 (by exact om_d99fa9e4 h76) (by exact om_d3de7ec9 h76)) (by decide) (by decide) ⟨v75, rfl, rfl, rfl, rfl, rfl, rfl, rfl, (by exact om_3b50ecb9 h76), trivial⟩
                · skip
                  refine tr_aload_n dX12_isName_73 rfl ?_
                  refine tr_ldcS dX12_isName_74 ld12_178 ?_
                  refine q_callVi hE (M' := mX12_isWord) (as := [_]) dX12_isName_76 lk12_138 inX12_isWord seX12_isWord myX12_isWord (by decide) ⟨by decide, by decide⟩ rfl (kR15 hW0 ta0) (Nat.le_of_ble_eq_true rfl) rfl rfl (by decide) (by decide) (k_X12_isWord hW0 ta0 (by decide)) ?_
                  rintro v81 cn' K' N' I77 R78 L79 ⟨rfl, rfl, rfl, rfl, rfl, rfl, h82, p83, -⟩
                  rw [c2] at p83
                  refine q_if_ne 122 dX12_isName_79 (by decide) (fun h84 => ?_) (fun h84 => ?_)
                  · skip
                    refine q_iconst dX12_isName_122 (by decide) ?_
                    intro v85 h86
                    exact tr_zret hZ dX12_isName_123 rfl (ti_b01 (by exact om_d99fa9e4 h86) (by exact om_d3de7ec9 h86)) (by decide) (by decide) ⟨v85, rfl, rfl, rfl, rfl, rfl, rfl, rfl, (by exact om_3b50ecb9 h86), trivial⟩
                  · skip
                    refine tr_aload_n dX12_isName_82 rfl ?_
                    refine tr_ldcS dX12_isName_83 ld12_180 ?_
                    refine q_callVi hE (M' := mX12_isWord) (as := [_]) dX12_isName_85 lk12_138 inX12_isWord seX12_isWord myX12_isWord (by decide) ⟨by decide, by decide⟩ rfl (kR15 hW0 ta0) (Nat.le_of_ble_eq_true rfl) rfl rfl (by decide) (by decide) (k_X12_isWord hW0 ta0 (by decide)) ?_
                    rintro v91 cn' K' N' I87 R88 L89 ⟨rfl, rfl, rfl, rfl, rfl, rfl, h92, p93, -⟩
                    rw [c2] at p93
                    refine q_if_ne 122 dX12_isName_88 (by decide) (fun h94 => ?_) (fun h94 => ?_)
                    · skip
                      refine q_iconst dX12_isName_122 (by decide) ?_
                      intro v95 h96
                      exact tr_zret hZ dX12_isName_123 rfl (ti_b01 (by exact om_d99fa9e4 h96) (by exact om_d3de7ec9 h96)) (by decide) (by decide) ⟨v95, rfl, rfl, rfl, rfl, rfl, rfl, rfl, (by exact om_3b50ecb9 h96), trivial⟩
                    · skip
                      refine tr_aload_n dX12_isName_91 rfl ?_
                      refine tr_ldcS dX12_isName_92 ld12_182 ?_
                      refine q_callVi hE (M' := mX12_isWord) (as := [_]) dX12_isName_94 lk12_138 inX12_isWord seX12_isWord myX12_isWord (by decide) ⟨by decide, by decide⟩ rfl (kR15 hW0 ta0) (Nat.le_of_ble_eq_true rfl) rfl rfl (by decide) (by decide) (k_X12_isWord hW0 ta0 (by decide)) ?_
                      rintro v101 cn' K' N' I97 R98 L99 ⟨rfl, rfl, rfl, rfl, rfl, rfl, h102, p103, -⟩
                      rw [c2] at p103
                      refine q_if_ne 122 dX12_isName_97 (by decide) (fun h104 => ?_) (fun h104 => ?_)
                      · skip
                        refine q_iconst dX12_isName_122 (by decide) ?_
                        intro v105 h106
                        exact tr_zret hZ dX12_isName_123 rfl (ti_b01 (by exact om_d99fa9e4 h106) (by exact om_d3de7ec9 h106)) (by decide) (by decide) ⟨v105, rfl, rfl, rfl, rfl, rfl, rfl, rfl, (by exact om_3b50ecb9 h106), trivial⟩
                      · skip
                        refine tr_aload_n dX12_isName_100 rfl ?_
                        refine tr_ldcS dX12_isName_101 ld12_184 ?_
                        refine q_callVi hE (M' := mX12_isWord) (as := [_]) dX12_isName_103 lk12_138 inX12_isWord seX12_isWord myX12_isWord (by decide) ⟨by decide, by decide⟩ rfl (kR15 hW0 ta0) (Nat.le_of_ble_eq_true rfl) rfl rfl (by decide) (by decide) (k_X12_isWord hW0 ta0 (by decide)) ?_
                        rintro v111 cn' K' N' I107 R108 L109 ⟨rfl, rfl, rfl, rfl, rfl, rfl, h112, p113, -⟩
                        rw [c2] at p113
                        refine q_if_ne 122 dX12_isName_106 (by decide) (fun h114 => ?_) (fun h114 => ?_)
                        · skip
                          refine q_iconst dX12_isName_122 (by decide) ?_
                          intro v115 h116
                          exact tr_zret hZ dX12_isName_123 rfl (ti_b01 (by exact om_d99fa9e4 h116) (by exact om_d3de7ec9 h116)) (by decide) (by decide) ⟨v115, rfl, rfl, rfl, rfl, rfl, rfl, rfl, (by exact om_3b50ecb9 h116), trivial⟩
                        · skip
                          refine tr_aload_n dX12_isName_109 rfl ?_
                          refine tr_ldcS dX12_isName_110 ld12_186 ?_
                          refine q_callVi hE (M' := mX12_isWord) (as := [_]) dX12_isName_112 lk12_138 inX12_isWord seX12_isWord myX12_isWord (by decide) ⟨by decide, by decide⟩ rfl (kR15 hW0 ta0) (Nat.le_of_ble_eq_true rfl) rfl rfl (by decide) (by decide) (k_X12_isWord hW0 ta0 (by decide)) ?_
                          rintro v121 cn' K' N' I117 R118 L119 ⟨rfl, rfl, rfl, rfl, rfl, rfl, h122, p123, -⟩
                          rw [c2] at p123
                          refine q_if_ne 122 dX12_isName_115 (by decide) (fun h124 => ?_) (fun h124 => ?_)
                          · skip
                            refine q_iconst dX12_isName_122 (by decide) ?_
                            intro v125 h126
                            exact tr_zret hZ dX12_isName_123 rfl (ti_b01 (by exact om_d99fa9e4 h126) (by exact om_d3de7ec9 h126)) (by decide) (by decide) ⟨v125, rfl, rfl, rfl, rfl, rfl, rfl, rfl, (by exact om_3b50ecb9 h126), trivial⟩
                          · skip
                            refine q_iconst dX12_isName_118 (by decide) ?_
                            intro v127 h128
                            refine tr_goto 123 dX12_isName_119 (by decide) ?_
                            exact tr_zret hZ dX12_isName_123 rfl (ti_b01 (by exact om_f9079521 h128) (by exact om_e6632817 h128)) (by decide) (by decide) ⟨v127, rfl, rfl, rfl, rfl, rfl, rfl, rfl, (by exact om_d753bc65 h128), trivial⟩
              · skip
                refine q_iconst dX12_isName_62 (by decide) ?_
                intro v129 h130
                exact tr_zret hZ dX12_isName_63 rfl (ti_b01 (by exact om_d99fa9e4 h130) (by exact om_d3de7ec9 h130)) (by decide) (by decide) ⟨v129, rfl, rfl, rfl, rfl, rfl, rfl, rfl, (by exact om_3b50ecb9 h130), trivial⟩
set_option maxHeartbeats 4000000 in
theorem k_X11_find {l : Launch} {T : Nat → Nat} {cn : Nat} {K N : Nat → Nat} {I0 : cz_I} {R0 : cz_R} {L0 : cz_L} {d : Int} (hW0 : Wf T cn K N I0 R0 d) {a0 : Nat} (ta0 : T a0 = 14) {y1 : Int64} : ConE l mX11_find [.ref a0, .long y1] cn K N I0 R0 L0 (ca_i (fun v cn' K' N' I' R' L' => cn = cn' ∧ K = K' ∧ N = N' ∧ I0 = I' ∧ R0 = R' ∧ L0 = L' ∧ ((-1) ≤ v.toInt ∧ v.toInt ≤ 12) ∧ True)) := by
  refine ConE.of (by decide +kernel) rfl (Nat.le_of_ble_eq_true rfl) rfl (fun X hX hZ hE => ?_)
  subst hX
  refine q_iconst dX11_find_0 (by decide) ?_
  intro v1 h2
  refine tr_istore_n dX11_find_1 (by decide) (by decide) ?_
  have lp8 : ∀ (fu : Nat) (ls : Nat → Option Value) (v3 : Int32), ls 0 = some (.ref a0) → ls 1 = some (.long y1) → ls 3 = some (.int v3) → 0 ≤ v3.toInt → (-v3.toInt + 2147483647).toNat < fu → Tr X mX11_find 2 ls [] cn K N I0 R0 L0 0 0 := by
    intro fu
    induction fu with
    | zero => intros; rename_i hz; exact absurd hz (Nat.not_lt_zero _)
    | succ fu ih8 =>
      intro ls v3 hl4 hl5 hl6 g7 hm8
      refine tr_iload_n dX11_find_2 hl6 ?_
      refine tr_aload_n dX11_find_3 hl4 ?_
      obtain ⟨v10, c11⟩ : ∃ v, I0 a0 7 = v := ⟨_, rfl⟩
      have b12 := iv14_7 hW0 ta0 c11
      refine q_getI dX11_find_4 fl11_83 (kR14 hW0 ta0) c11 ?_
      refine q_icmp_ge 29 dX11_find_7 (by decide) (fun h13 => ?_) (fun h13 => ?_)
      · skip
        refine q_iconst dX11_find_29 (by decide) ?_
        intro v14 h15
        exact tr_iret hZ dX11_find_30 rfl (by decide) (by decide) ⟨v14, rfl, rfl, rfl, rfl, rfl, rfl, rfl, (by exact om_7de6d412 h15), trivial⟩
      · skip
        refine tr_aload_n dX11_find_10 hl4 ?_
        obtain ⟨a16, d17, ta16⟩ := rf14_30 hW0 ta0
        refine tr_getR dX11_find_11 fl11_73 (kR14 hW0 ta0) d17 ?_
        refine tr_iload_n dX11_find_14 hl6 ?_
        refine q_lald dX11_find_15 (kR73 hW0 ta16) (ti_in (nR73 hW0 ta16) (by exact om_2cfcd5a5 g7) (by exact om_37189a13 b12.2 b12.1 h13)) ?_
        intro y18
        refine tr_lload_n dX11_find_16 hl5 ?_
        refine q_lcmp dX11_find_17 ?_
        intro v19
        refine q_if_ne 23 dX11_find_18 (by decide) (fun h20 => ?_) (fun h20 => ?_)
        · skip
          refine q_iincE dX11_find_23 hl6 (by decide) (by decide) (by intro j1 j2; exact om_58ebe9f8 g7 b12.2 b12.1 h13 j2) ?_
          intro v21 h22
          refine tr_goto 2 dX11_find_26 (by decide) ?_
          exact ih8 _ v21 hl4 hl5 rfl (by exact om_68881c41 g7 h22) (by exact om_3336ef11 g7 hm8 b12.2 b12.1 h13 h20 h22)
        · skip
          refine tr_iload_n dX11_find_21 hl6 ?_
          exact tr_iret hZ dX11_find_22 rfl (by decide) (by decide) ⟨v3, rfl, rfl, rfl, rfl, rfl, rfl, rfl, (by exact om_500c71b4 g7 b12.2 b12.1 h13), trivial⟩
  exact lp8 _ _ v1 rfl rfl rfl (by exact om_d99fa9e4 h2) (Nat.lt_succ_self _)
def wi_X12_needs : List Nat := [968, 969, 970, 971, 972, 973, 974]
def wr_X12_needs : List Nat := []
set_option maxHeartbeats 4000000 in
theorem k_X12_needs {l : Launch} {T : Nat → Nat} {cn : Nat} {K N : Nat → Nat} {I0 : cz_I} {R0 : cz_R} {L0 : cz_L} {d : Int} (hW0 : Wf T cn K N I0 R0 d) {a0 : Nat} (ta0 : T a0 = 15) {u1 : UInt32} (hu1 : u1.toNat < cz_NS) : ConE l mX12_needs [.ref a0, .float u1] cn K N I0 R0 L0 (ca_v (fun cn' K' N' I' R' L' => cn = cn' ∧ K = K' ∧ N = N' ∧ R0 = R' ∧ St T cn K N d wi_X12_needs wr_X12_needs I0 R0 I' R0 ∧ RdI a0 I0 I' ∧ True)) := by
  refine ConE.of (by decide +kernel) rfl (Nat.le_of_ble_eq_true rfl) rfl (fun X hX hZ hE => ?_)
  subst hX
  have hS0 : St T cn K N d wi_X12_needs wr_X12_needs I0 R0 I0 R0 := St.rf0 hW0
  refine tr_aload_n dX12_needs_0 rfl ?_
  refine tr_aload_nS dX12_needs_1 rfl ?_
  obtain ⟨v1, c2⟩ : ∃ v, I0 a0 9 = v := ⟨_, rfl⟩
  have b3 := iv15_9 hS0.1 ta0 c2
  refine q_callVi hE (M' := mX12_isWord) (as := [_]) dX12_needs_2 lk12_138 inX12_isWord seX12_isWord myX12_isWord (by decide) ⟨by decide, by decide⟩ rfl (kR15 hS0.1 ta0) (Nat.le_of_ble_eq_true rfl) rfl rfl (by decide) (by decide) (k_X12_isWord hS0.1 ta0 hu1) ?_
  rintro v8 cn' K' N' I4 R5 L6 ⟨rfl, rfl, rfl, rfl, rfl, rfl, h9, p10, -⟩
  rw [c2] at p10
  refine q_if_ne 13 dX12_needs_5 (by decide) (fun h11 => ?_) (fun h11 => ?_)
  · skip
    refine tr_aload_n dX12_needs_13 rfl ?_
    obtain ⟨v12, c13⟩ : ∃ v, I0 a0 8 = v := ⟨_, rfl⟩
    have b14 := iv15_8 hS0.1 ta0 c13
    obtain ⟨v15, c16⟩ : ∃ v, I0 a0 13 = v := ⟨_, rfl⟩
    refine q_callVv hE (M' := mX12_goesOn) (as := []) dX12_needs_14 lk12_142 inX12_goesOn seX12_goesOn myX12_goesOn (by decide) ⟨by decide, by decide⟩ rfl (kR15 hS0.1 ta0) (Nat.le_of_ble_eq_true rfl) rfl rfl (by decide) (by decide) (k_X12_goesOn hS0.1 ta0) ?_
    rintro cn' K' N' I17 R18 L19 ⟨rfl, rfl, rfl, rfl, g20, p22, p23, p24, w25, -⟩
    have hS26 := hS0.tr g20 (by decide +kernel) (by decide +kernel)
    have c27 : I17 a0 13 = v15 := (g20.cell ta0 (by decide +kernel)).trans c16
    have w28 : RdI a0 I0 I17 := (EwI.rf a0 I0).rd w25
    obtain ⟨v29, c30⟩ : ∃ v, I17 a0 9 = v := ⟨_, rfl⟩
    have b31 := iv15_9 hS26.1 ta0 c30
    rw [c2] at p22
    rw [c30] at p22
    rw [c2] at p23
    rw [c30] at p23
    obtain ⟨v32, c33⟩ : ∃ v, I17 a0 8 = v := ⟨_, rfl⟩
    have b34 := iv15_8 hS26.1 ta0 c33
    rw [c33] at p24
    rw [c13] at p24
    rw [c27] at p24
    rw [c16] at p24
    exact tr_vret hZ dX12_needs_17 rfl (by decide) (by decide) ⟨rfl, rfl, rfl, rfl, rfl, hS26, w28, trivial⟩
  · skip
    refine tr_aload_n dX12_needs_8 rfl ?_
    refine q_iconst dX12_needs_9 (by decide) ?_
    intro v35 h36
    obtain ⟨v37, c38⟩ : ∃ v, I0 a0 8 = v := ⟨_, rfl⟩
    have b39 := iv15_8 hS0.1 ta0 c38
    refine q_callVv hE (M' := mX12_flaw) (as := [_]) dX12_needs_10 lk12_145 inX12_flaw seX12_flaw myX12_flaw (by decide) ⟨by decide, by decide⟩ rfl (kR15 hS0.1 ta0) (Nat.le_of_ble_eq_true rfl) rfl rfl (by decide) (by decide) (k_X12_flaw hS0.1 ta0 (by exact om_95922198 h36)) ?_
    rintro cn' K' N' I40 R41 L42 ⟨rfl, rfl, rfl, rfl, rfl, g43, p45, p46, w47, -⟩
    have hS48 := hS0.tr g43 (by decide +kernel) (by decide +kernel)
    have c49 : I40 a0 8 = v37 := (g43.cell ta0 (by decide +kernel)).trans c38
    have w50 : RdI a0 I0 I40 := (EwI.rf a0 I0).rd w47
    obtain ⟨v51, c52⟩ : ∃ v, I40 a0 9 = v := ⟨_, rfl⟩
    have b53 := iv15_9 hS48.1 ta0 c52
    rw [c52] at p45
    rw [c49] at p46
    rw [c38] at p46
    refine tr_aload_n dX12_needs_13 rfl ?_
    obtain ⟨v54, c55⟩ : ∃ v, I40 a0 13 = v := ⟨_, rfl⟩
    refine q_callVv hE (M' := mX12_goesOn) (as := []) dX12_needs_14 lk12_142 inX12_goesOn seX12_goesOn myX12_goesOn (by decide) ⟨by decide, by decide⟩ rfl (kR15 hS48.1 ta0) (Nat.le_of_ble_eq_true rfl) rfl rfl (by decide) (by decide) (k_X12_goesOn hS48.1 ta0) ?_
    rintro cn' K' N' I56 R57 L58 ⟨rfl, rfl, rfl, rfl, g59, p61, p62, p63, w64, -⟩
    have hS65 := hS48.tr g59 (by decide +kernel) (by decide +kernel)
    have c66 : I56 a0 13 = v54 := (g59.cell ta0 (by decide +kernel)).trans c55
    have w67 : RdI a0 I0 I56 := w50.rd w64
    obtain ⟨v68, c69⟩ : ∃ v, I56 a0 9 = v := ⟨_, rfl⟩
    have b70 := iv15_9 hS65.1 ta0 c69
    rw [c52] at p61
    rw [c69] at p61
    rw [c52] at p62
    rw [c69] at p62
    obtain ⟨v71, c72⟩ : ∃ v, I56 a0 8 = v := ⟨_, rfl⟩
    have b73 := iv15_8 hS65.1 ta0 c72
    rw [c72] at p63
    rw [c49] at p63
    rw [c66] at p63
    rw [c55] at p63
    exact tr_vret hZ dX12_needs_17 rfl (by decide) (by decide) ⟨rfl, rfl, rfl, rfl, rfl, hS65, w67, trivial⟩
def wi_X12_readWhole : List Nat := [968, 969, 970, 971, 972, 973, 974]
def wr_X12_readWhole : List Nat := []
set_option maxHeartbeats 4000000 in
theorem k_X12_readWhole {l : Launch} {T : Nat → Nat} {cn : Nat} {K N : Nat → Nat} {I0 : cz_I} {R0 : cz_R} {L0 : cz_L} {d : Int} (hW0 : Wf T cn K N I0 R0 d) {a0 : Nat} (ta0 : T a0 = 15) {x1 : Int32} {x2 : Int32} : ConE l mX12_readWhole [.ref a0, .int x1, .int x2] cn K N I0 R0 L0 (ca_i (fun v cn' K' N' I' R' L' => cn = cn' ∧ K = K' ∧ N = N' ∧ R0 = R' ∧ St T cn K N d wi_X12_readWhole wr_X12_readWhole I0 R0 I' R0 ∧ ((v.toInt = x1.toInt ∨ (x1.toInt ≤ v.toInt ∧ v.toInt ≤ x2.toInt))) ∧ RdI a0 I0 I' ∧ True)) := by
  refine ConE.of (by decide +kernel) rfl (Nat.le_of_ble_eq_true rfl) rfl (fun X hX hZ hE => ?_)
  subst hX
  have hS0 : St T cn K N d wi_X12_readWhole wr_X12_readWhole I0 R0 I0 R0 := St.rf0 hW0
  refine tr_aload_n dX12_readWhole_0 rfl ?_
  refine tr_iload_n dX12_readWhole_1 rfl ?_
  refine tr_iload_n dX12_readWhole_2 rfl ?_
  refine q_callVi hE (M' := mX12_bounded) (as := [_, _]) dX12_readWhole_3 lk12_153 inX12_bounded seX12_bounded myX12_bounded (by decide) ⟨by decide, by decide⟩ rfl (kR15 hS0.1 ta0) (Nat.le_of_ble_eq_true rfl) rfl rfl (by decide) (by decide) (k_X12_bounded hS0.1 ta0) ?_
  rintro v5 cn' K' N' I1 R2 L3 ⟨rfl, rfl, rfl, rfl, rfl, g4, p6, p7, w8, -⟩
  have hS9 := hS0.tr g4 (by decide +kernel) (by decide +kernel)
  have w10 : EwI a0 I0 I1 := (EwI.rf a0 I0).ew w8
  obtain ⟨v11, c12⟩ : ∃ v, I1 a0 9 = v := ⟨_, rfl⟩
  have b13 := iv15_9 hS9.1 ta0 c12
  have gd14 : Gd (I1 a0 9) ((x1.toInt ≤ v5.toInt ∧ v5.toInt ≤ x2.toInt)) := p7
  clear p7
  refine tr_istore_n dX12_readWhole_6 (by decide) (by decide) ?_
  refine tr_aload_n dX12_readWhole_7 rfl ?_
  obtain ⟨v15, c16⟩ : ∃ v, I1 a0 8 = v := ⟨_, rfl⟩
  have b17 := iv15_8 hS9.1 ta0 c16
  obtain ⟨v18, c19⟩ : ∃ v, I1 a0 13 = v := ⟨_, rfl⟩
  refine q_callVv hE (M' := mX12_goesOn) (as := []) dX12_readWhole_8 lk12_142 inX12_goesOn seX12_goesOn myX12_goesOn (by decide) ⟨by decide, by decide⟩ rfl (kR15 hS9.1 ta0) (Nat.le_of_ble_eq_true rfl) rfl rfl (by decide) (by decide) (k_X12_goesOn hS9.1 ta0) ?_
  rintro cn' K' N' I20 R21 L22 ⟨rfl, rfl, rfl, rfl, g23, p25, p26, p27, w28, -⟩
  have hS29 := hS9.tr g23 (by decide +kernel) (by decide +kernel)
  have c30 : I20 a0 13 = v18 := (g23.cell ta0 (by decide +kernel)).trans c19
  have w31 : RdI a0 I0 I20 := w10.rd w28
  have gd32 := Gd.go gd14 w28.stick
  obtain ⟨v33, c34⟩ : ∃ v, I20 a0 9 = v := ⟨_, rfl⟩
  have b35 := iv15_9 hS29.1 ta0 c34
  rw [c12] at p25
  rw [c34] at p25
  rw [c12] at p26
  rw [c34] at p26
  obtain ⟨v36, c37⟩ : ∃ v, I20 a0 8 = v := ⟨_, rfl⟩
  have b38 := iv15_8 hS29.1 ta0 c37
  rw [c37] at p27
  rw [c16] at p27
  rw [c30] at p27
  rw [c19] at p27
  refine tr_iload_n dX12_readWhole_11 rfl ?_
  exact tr_iret hZ dX12_readWhole_12 rfl (by decide) (by decide) ⟨v5, rfl, rfl, rfl, rfl, rfl, hS29, (by exact om_e244a209 p6), w31, trivial⟩
def wi_X12_readPart : List Nat := [968, 969, 970, 971, 972, 973, 974]
def wr_X12_readPart : List Nat := []
set_option maxHeartbeats 4000000 in
theorem k_X12_readPart {l : Launch} {T : Nat → Nat} {cn : Nat} {K N : Nat → Nat} {I0 : cz_I} {R0 : cz_R} {L0 : cz_L} {d : Int} (hW0 : Wf T cn K N I0 R0 d) {a0 : Nat} (ta0 : T a0 = 15) {u1 : UInt32} (hu1 : u1.toNat < cz_NS) {x2 : Int32} {x3 : Int32} : ConE l mX12_readPart [.ref a0, .float u1, .int x2, .int x3] cn K N I0 R0 L0 (ca_i (fun v cn' K' N' I' R' L' => cn = cn' ∧ K = K' ∧ N = N' ∧ R0 = R' ∧ St T cn K N d wi_X12_readPart wr_X12_readPart I0 R0 I' R0 ∧ ((v.toInt = x2.toInt ∨ (x2.toInt ≤ v.toInt ∧ v.toInt ≤ x3.toInt))) ∧ RdI a0 I0 I' ∧ True)) := by
  refine ConE.of (by decide +kernel) rfl (Nat.le_of_ble_eq_true rfl) rfl (fun X hX hZ hE => ?_)
  subst hX
  have hS0 : St T cn K N d wi_X12_readPart wr_X12_readPart I0 R0 I0 R0 := St.rf0 hW0
  refine tr_aload_n dX12_readPart_0 rfl ?_
  refine tr_aload_nS dX12_readPart_1 rfl ?_
  refine q_callVv hE (M' := mX12_needs) (as := [_]) dX12_readPart_2 lk12_157 inX12_needs seX12_needs myX12_needs (by decide) ⟨by decide, by decide⟩ rfl (kR15 hS0.1 ta0) (Nat.le_of_ble_eq_true rfl) rfl rfl (by decide) (by decide) (k_X12_needs hS0.1 ta0 hu1) ?_
  rintro cn' K' N' I1 R2 L3 ⟨rfl, rfl, rfl, rfl, g4, w6, -⟩
  have hS7 := hS0.tr g4 (by decide +kernel) (by decide +kernel)
  have w8 : RdI a0 I0 I1 := (EwI.rf a0 I0).rd w6
  refine tr_aload_n dX12_readPart_5 rfl ?_
  refine tr_iload_n dX12_readPart_6 rfl ?_
  refine tr_iload_n dX12_readPart_7 rfl ?_
  refine q_callVi hE (M' := mX12_readWhole) (as := [_, _]) dX12_readPart_8 lk12_161 inX12_readWhole seX12_readWhole myX12_readWhole (by decide) ⟨by decide, by decide⟩ rfl (kR15 hS7.1 ta0) (Nat.le_of_ble_eq_true rfl) rfl rfl (by decide) (by decide) (k_X12_readWhole hS7.1 ta0) ?_
  rintro v13 cn' K' N' I9 R10 L11 ⟨rfl, rfl, rfl, rfl, g12, p14, w15, -⟩
  have hS16 := hS7.tr g12 (by decide +kernel) (by decide +kernel)
  have w17 : RdI a0 I0 I9 := w8.rd w15
  exact tr_iret hZ dX12_readPart_11 rfl (by decide) (by decide) ⟨v13, rfl, rfl, rfl, rfl, rfl, hS16, (by exact om_e244a209 p14), w17, trivial⟩
def wi_X12_readFresh : List Nat := [968, 969, 970, 971, 972, 973, 974]
def wr_X12_readFresh : List Nat := []
set_option maxHeartbeats 4000000 in
theorem k_X12_readFresh {l : Launch} {T : Nat → Nat} {cn : Nat} {K N : Nat → Nat} {I0 : cz_I} {R0 : cz_R} {L0 : cz_L} {d : Int} (hW0 : Wf T cn K N I0 R0 d) {a0 : Nat} (ta0 : T a0 = 15) (nn4 : ∃ b, R0 a0 4 = some b) : ConE l mX12_readFresh [.ref a0] cn K N I0 R0 L0 (ca_l (fun v cn' K' N' I' R' L' => cn = cn' ∧ K = K' ∧ N = N' ∧ R0 = R' ∧ St T cn K N d wi_X12_readFresh wr_X12_readFresh I0 R0 I' R0 ∧ RdI a0 I0 I' ∧ True)) := by
  refine ConE.of (by decide +kernel) rfl (Nat.le_of_ble_eq_true rfl) rfl (fun X hX hZ hE => ?_)
  subst hX
  have hS0 : St T cn K N d wi_X12_readFresh wr_X12_readFresh I0 R0 I0 R0 := St.rf0 hW0
  obtain ⟨a1, d2⟩ := nn4
  have ta1 : T a1 = 14 := hW0.rsN ta0 rfl d2
  refine tr_aload_n dX12_readFresh_0 rfl ?_
  refine q_callVi hE (M' := mX12_isName) (as := []) dX12_readFresh_1 lk12_197 inX12_isName seX12_isName myX12_isName (by decide) ⟨by decide, by decide⟩ rfl (kR15 hS0.1 ta0) (Nat.le_of_ble_eq_true rfl) rfl rfl (by decide) (by decide) (k_X12_isName hS0.1 ta0) ?_
  rintro v7 cn' K' N' I3 R4 L5 ⟨rfl, rfl, rfl, rfl, rfl, rfl, h8, -⟩
  refine q_if_ne 12 dX12_readFresh_4 (by decide) (fun h9 => ?_) (fun h9 => ?_)
  · skip
    refine tr_aload_n dX12_readFresh_12 rfl ?_
    refine tr_getR dX12_readFresh_13 fl12_188 (kR15 hS0.1 ta0) d2 ?_
    refine tr_aload_n dX12_readFresh_16 rfl ?_
    refine q_getL dX12_readFresh_17 fl12_118 (kR15 hS0.1 ta0) ?_
    intro y10
    refine q_callVi hE (M' := mX11_find) (as := [_]) dX12_readFresh_20 lk12_201 inX11_find seX11_find myX11_find (by decide) ⟨by decide, by decide⟩ rfl (kR14 hS0.1 ta1) (Nat.le_of_ble_eq_true rfl) rfl rfl (by decide) (by decide) (k_X11_find hS0.1 ta1) ?_
    rintro v15 cn' K' N' I11 R12 L13 ⟨rfl, rfl, rfl, rfl, rfl, rfl, h16, -⟩
    refine q_iconst dX12_readFresh_23 (by decide) ?_
    intro v17 h18
    refine q_icmp_eq 32 dX12_readFresh_24 (by decide) (fun h19 => ?_) (fun h19 => ?_)
    · skip
      refine tr_aload_n dX12_readFresh_32 rfl ?_
      refine q_getL dX12_readFresh_33 fl12_118 (kR15 hS0.1 ta0) ?_
      intro y20
      refine tr_lstore_n dX12_readFresh_36 (by decide) (by decide) (by decide) ?_
      refine tr_aload_n dX12_readFresh_37 rfl ?_
      obtain ⟨v21, c22⟩ : ∃ v, I0 a0 9 = v := ⟨_, rfl⟩
      have b23 := iv15_9 hS0.1 ta0 c22
      obtain ⟨v24, c25⟩ : ∃ v, I0 a0 8 = v := ⟨_, rfl⟩
      have b26 := iv15_8 hS0.1 ta0 c25
      obtain ⟨v27, c28⟩ : ∃ v, I0 a0 13 = v := ⟨_, rfl⟩
      refine q_callVv hE (M' := mX12_goesOn) (as := []) dX12_readFresh_38 lk12_142 inX12_goesOn seX12_goesOn myX12_goesOn (by decide) ⟨by decide, by decide⟩ rfl (kR15 hS0.1 ta0) (Nat.le_of_ble_eq_true rfl) rfl rfl (by decide) (by decide) (k_X12_goesOn hS0.1 ta0) ?_
      rintro cn' K' N' I29 R30 L31 ⟨rfl, rfl, rfl, rfl, g32, p34, p35, p36, w37, -⟩
      have hS38 := hS0.tr g32 (by decide +kernel) (by decide +kernel)
      have c39 : I29 a0 13 = v27 := (g32.cell ta0 (by decide +kernel)).trans c28
      have w40 : RdI a0 I0 I29 := (EwI.rf a0 I0).rd w37
      obtain ⟨v41, c42⟩ : ∃ v, I29 a0 9 = v := ⟨_, rfl⟩
      have b43 := iv15_9 hS38.1 ta0 c42
      rw [c22] at p34
      rw [c42] at p34
      rw [c22] at p35
      rw [c42] at p35
      obtain ⟨v44, c45⟩ : ∃ v, I29 a0 8 = v := ⟨_, rfl⟩
      have b46 := iv15_8 hS38.1 ta0 c45
      rw [c45] at p36
      rw [c25] at p36
      rw [c39] at p36
      rw [c28] at p36
      refine tr_lload_n dX12_readFresh_41 rfl ?_
      exact tr_lret hZ dX12_readFresh_42 rfl (by decide) (by decide) ⟨y20, rfl, rfl, rfl, rfl, rfl, hS38, w40, trivial⟩
    · skip
      refine tr_aload_n dX12_readFresh_27 rfl ?_
      refine q_iconst dX12_readFresh_28 (by decide) ?_
      intro v47 h48
      obtain ⟨v49, c50⟩ : ∃ v, I0 a0 8 = v := ⟨_, rfl⟩
      have b51 := iv15_8 hS0.1 ta0 c50
      refine q_callVv hE (M' := mX12_flaw) (as := [_]) dX12_readFresh_29 lk12_145 inX12_flaw seX12_flaw myX12_flaw (by decide) ⟨by decide, by decide⟩ rfl (kR15 hS0.1 ta0) (Nat.le_of_ble_eq_true rfl) rfl rfl (by decide) (by decide) (k_X12_flaw hS0.1 ta0 (by exact om_7e011daf h48)) ?_
      rintro cn' K' N' I52 R53 L54 ⟨rfl, rfl, rfl, rfl, rfl, g55, p57, p58, w59, -⟩
      have hS60 := hS0.tr g55 (by decide +kernel) (by decide +kernel)
      have c61 : I52 a0 8 = v49 := (g55.cell ta0 (by decide +kernel)).trans c50
      have w62 : RdI a0 I0 I52 := (EwI.rf a0 I0).rd w59
      obtain ⟨v63, c64⟩ : ∃ v, I52 a0 9 = v := ⟨_, rfl⟩
      have b65 := iv15_9 hS60.1 ta0 c64
      rw [c64] at p57
      rw [c61] at p58
      rw [c50] at p58
      refine tr_aload_n dX12_readFresh_32 rfl ?_
      refine q_getL dX12_readFresh_33 fl12_118 (kR15 hS60.1 ta0) ?_
      intro y66
      refine tr_lstore_n dX12_readFresh_36 (by decide) (by decide) (by decide) ?_
      refine tr_aload_n dX12_readFresh_37 rfl ?_
      obtain ⟨v67, c68⟩ : ∃ v, I52 a0 13 = v := ⟨_, rfl⟩
      refine q_callVv hE (M' := mX12_goesOn) (as := []) dX12_readFresh_38 lk12_142 inX12_goesOn seX12_goesOn myX12_goesOn (by decide) ⟨by decide, by decide⟩ rfl (kR15 hS60.1 ta0) (Nat.le_of_ble_eq_true rfl) rfl rfl (by decide) (by decide) (k_X12_goesOn hS60.1 ta0) ?_
      rintro cn' K' N' I69 R70 L71 ⟨rfl, rfl, rfl, rfl, g72, p74, p75, p76, w77, -⟩
      have hS78 := hS60.tr g72 (by decide +kernel) (by decide +kernel)
      have c79 : I69 a0 13 = v67 := (g72.cell ta0 (by decide +kernel)).trans c68
      have w80 : RdI a0 I0 I69 := w62.rd w77
      obtain ⟨v81, c82⟩ : ∃ v, I69 a0 9 = v := ⟨_, rfl⟩
      have b83 := iv15_9 hS78.1 ta0 c82
      rw [c64] at p74
      rw [c82] at p74
      rw [c64] at p75
      rw [c82] at p75
      obtain ⟨v84, c85⟩ : ∃ v, I69 a0 8 = v := ⟨_, rfl⟩
      have b86 := iv15_8 hS78.1 ta0 c85
      rw [c85] at p76
      rw [c61] at p76
      rw [c79] at p76
      rw [c68] at p76
      refine tr_lload_n dX12_readFresh_41 rfl ?_
      exact tr_lret hZ dX12_readFresh_42 rfl (by decide) (by decide) ⟨y66, rfl, rfl, rfl, rfl, rfl, hS78, w80, trivial⟩
  · skip
    refine tr_aload_n dX12_readFresh_7 rfl ?_
    refine q_iconst dX12_readFresh_8 (by decide) ?_
    intro v87 h88
    obtain ⟨v89, c90⟩ : ∃ v, I0 a0 8 = v := ⟨_, rfl⟩
    have b91 := iv15_8 hS0.1 ta0 c90
    refine q_callVv hE (M' := mX12_flaw) (as := [_]) dX12_readFresh_9 lk12_145 inX12_flaw seX12_flaw myX12_flaw (by decide) ⟨by decide, by decide⟩ rfl (kR15 hS0.1 ta0) (Nat.le_of_ble_eq_true rfl) rfl rfl (by decide) (by decide) (k_X12_flaw hS0.1 ta0 (by exact om_95922198 h88)) ?_
    rintro cn' K' N' I92 R93 L94 ⟨rfl, rfl, rfl, rfl, rfl, g95, p97, p98, w99, -⟩
    have hS100 := hS0.tr g95 (by decide +kernel) (by decide +kernel)
    have c101 : I92 a0 8 = v89 := (g95.cell ta0 (by decide +kernel)).trans c90
    have w102 : RdI a0 I0 I92 := (EwI.rf a0 I0).rd w99
    obtain ⟨v103, c104⟩ : ∃ v, I92 a0 9 = v := ⟨_, rfl⟩
    have b105 := iv15_9 hS100.1 ta0 c104
    rw [c104] at p97
    rw [c101] at p98
    rw [c90] at p98
    refine tr_aload_n dX12_readFresh_12 rfl ?_
    refine tr_getR dX12_readFresh_13 fl12_188 (kR15 hS100.1 ta0) d2 ?_
    refine tr_aload_n dX12_readFresh_16 rfl ?_
    refine q_getL dX12_readFresh_17 fl12_118 (kR15 hS100.1 ta0) ?_
    intro y106
    refine q_callVi hE (M' := mX11_find) (as := [_]) dX12_readFresh_20 lk12_201 inX11_find seX11_find myX11_find (by decide) ⟨by decide, by decide⟩ rfl (kR14 hS100.1 ta1) (Nat.le_of_ble_eq_true rfl) rfl rfl (by decide) (by decide) (k_X11_find hS100.1 ta1) ?_
    rintro v111 cn' K' N' I107 R108 L109 ⟨rfl, rfl, rfl, rfl, rfl, rfl, h112, -⟩
    refine q_iconst dX12_readFresh_23 (by decide) ?_
    intro v113 h114
    refine q_icmp_eq 32 dX12_readFresh_24 (by decide) (fun h115 => ?_) (fun h115 => ?_)
    · skip
      refine tr_aload_n dX12_readFresh_32 rfl ?_
      refine q_getL dX12_readFresh_33 fl12_118 (kR15 hS100.1 ta0) ?_
      intro y116
      refine tr_lstore_n dX12_readFresh_36 (by decide) (by decide) (by decide) ?_
      refine tr_aload_n dX12_readFresh_37 rfl ?_
      obtain ⟨v117, c118⟩ : ∃ v, I92 a0 13 = v := ⟨_, rfl⟩
      refine q_callVv hE (M' := mX12_goesOn) (as := []) dX12_readFresh_38 lk12_142 inX12_goesOn seX12_goesOn myX12_goesOn (by decide) ⟨by decide, by decide⟩ rfl (kR15 hS100.1 ta0) (Nat.le_of_ble_eq_true rfl) rfl rfl (by decide) (by decide) (k_X12_goesOn hS100.1 ta0) ?_
      rintro cn' K' N' I119 R120 L121 ⟨rfl, rfl, rfl, rfl, g122, p124, p125, p126, w127, -⟩
      have hS128 := hS100.tr g122 (by decide +kernel) (by decide +kernel)
      have c129 : I119 a0 13 = v117 := (g122.cell ta0 (by decide +kernel)).trans c118
      have w130 : RdI a0 I0 I119 := w102.rd w127
      obtain ⟨v131, c132⟩ : ∃ v, I119 a0 9 = v := ⟨_, rfl⟩
      have b133 := iv15_9 hS128.1 ta0 c132
      rw [c104] at p124
      rw [c132] at p124
      rw [c104] at p125
      rw [c132] at p125
      obtain ⟨v134, c135⟩ : ∃ v, I119 a0 8 = v := ⟨_, rfl⟩
      have b136 := iv15_8 hS128.1 ta0 c135
      rw [c135] at p126
      rw [c101] at p126
      rw [c129] at p126
      rw [c118] at p126
      refine tr_lload_n dX12_readFresh_41 rfl ?_
      exact tr_lret hZ dX12_readFresh_42 rfl (by decide) (by decide) ⟨y116, rfl, rfl, rfl, rfl, rfl, hS128, w130, trivial⟩
    · skip
      refine tr_aload_n dX12_readFresh_27 rfl ?_
      refine q_iconst dX12_readFresh_28 (by decide) ?_
      intro v137 h138
      refine q_callVv hE (M' := mX12_flaw) (as := [_]) dX12_readFresh_29 lk12_145 inX12_flaw seX12_flaw myX12_flaw (by decide) ⟨by decide, by decide⟩ rfl (kR15 hS100.1 ta0) (Nat.le_of_ble_eq_true rfl) rfl rfl (by decide) (by decide) (k_X12_flaw hS100.1 ta0 (by exact om_7e011daf h138)) ?_
      rintro cn' K' N' I139 R140 L141 ⟨rfl, rfl, rfl, rfl, rfl, g142, p144, p145, w146, -⟩
      have hS147 := hS100.tr g142 (by decide +kernel) (by decide +kernel)
      have c148 : I139 a0 8 = v89 := (g142.cell ta0 (by decide +kernel)).trans c101
      have w149 : RdI a0 I0 I139 := w102.rd w146
      obtain ⟨v150, c151⟩ : ∃ v, I139 a0 9 = v := ⟨_, rfl⟩
      have b152 := iv15_9 hS147.1 ta0 c151
      rw [c151] at p144
      rw [c148] at p145
      rw [c101] at p145
      refine tr_aload_n dX12_readFresh_32 rfl ?_
      refine q_getL dX12_readFresh_33 fl12_118 (kR15 hS147.1 ta0) ?_
      intro y153
      refine tr_lstore_n dX12_readFresh_36 (by decide) (by decide) (by decide) ?_
      refine tr_aload_n dX12_readFresh_37 rfl ?_
      obtain ⟨v154, c155⟩ : ∃ v, I139 a0 13 = v := ⟨_, rfl⟩
      refine q_callVv hE (M' := mX12_goesOn) (as := []) dX12_readFresh_38 lk12_142 inX12_goesOn seX12_goesOn myX12_goesOn (by decide) ⟨by decide, by decide⟩ rfl (kR15 hS147.1 ta0) (Nat.le_of_ble_eq_true rfl) rfl rfl (by decide) (by decide) (k_X12_goesOn hS147.1 ta0) ?_
      rintro cn' K' N' I156 R157 L158 ⟨rfl, rfl, rfl, rfl, g159, p161, p162, p163, w164, -⟩
      have hS165 := hS147.tr g159 (by decide +kernel) (by decide +kernel)
      have c166 : I156 a0 13 = v154 := (g159.cell ta0 (by decide +kernel)).trans c155
      have w167 : RdI a0 I0 I156 := w149.rd w164
      obtain ⟨v168, c169⟩ : ∃ v, I156 a0 9 = v := ⟨_, rfl⟩
      have b170 := iv15_9 hS165.1 ta0 c169
      rw [c151] at p161
      rw [c169] at p161
      rw [c151] at p162
      rw [c169] at p162
      obtain ⟨v171, c172⟩ : ∃ v, I156 a0 8 = v := ⟨_, rfl⟩
      have b173 := iv15_8 hS165.1 ta0 c172
      rw [c172] at p163
      rw [c148] at p163
      rw [c166] at p163
      rw [c155] at p163
      refine tr_lload_n dX12_readFresh_41 rfl ?_
      exact tr_lret hZ dX12_readFresh_42 rfl (by decide) (by decide) ⟨y153, rfl, rfl, rfl, rfl, rfl, hS165, w167, trivial⟩
def wi_X12_eatsWord : List Nat := [968, 969, 970, 971, 972]
def wr_X12_eatsWord : List Nat := []
set_option maxHeartbeats 4000000 in
theorem k_X12_eatsWord {l : Launch} {T : Nat → Nat} {cn : Nat} {K N : Nat → Nat} {I0 : cz_I} {R0 : cz_R} {L0 : cz_L} {d : Int} (hW0 : Wf T cn K N I0 R0 d) {a0 : Nat} (ta0 : T a0 = 15) {u1 : UInt32} (hu1 : u1.toNat < cz_NS) : ConE l mX12_eatsWord [.ref a0, .float u1] cn K N I0 R0 L0 (ca_i (fun v cn' K' N' I' R' L' => cn = cn' ∧ K = K' ∧ N = N' ∧ R0 = R' ∧ St T cn K N d wi_X12_eatsWord wr_X12_eatsWord I0 R0 I' R0 ∧ (0 ≤ v.toInt ∧ v.toInt ≤ 1) ∧ EwI a0 I0 I' ∧ True)) := by
  refine ConE.of (by decide +kernel) rfl (Nat.le_of_ble_eq_true rfl) rfl (fun X hX hZ hE => ?_)
  subst hX
  have hS0 : St T cn K N d wi_X12_eatsWord wr_X12_eatsWord I0 R0 I0 R0 := St.rf0 hW0
  refine tr_aload_n dX12_eatsWord_0 rfl ?_
  refine tr_aload_nS dX12_eatsWord_1 rfl ?_
  obtain ⟨v1, c2⟩ : ∃ v, I0 a0 9 = v := ⟨_, rfl⟩
  have b3 := iv15_9 hS0.1 ta0 c2
  refine q_callVi hE (M' := mX12_isWord) (as := [_]) dX12_eatsWord_2 lk12_138 inX12_isWord seX12_isWord myX12_isWord (by decide) ⟨by decide, by decide⟩ rfl (kR15 hS0.1 ta0) (Nat.le_of_ble_eq_true rfl) rfl rfl (by decide) (by decide) (k_X12_isWord hS0.1 ta0 hu1) ?_
  rintro v8 cn' K' N' I4 R5 L6 ⟨rfl, rfl, rfl, rfl, rfl, rfl, h9, p10, -⟩
  rw [c2] at p10
  refine tr_istore_n dX12_eatsWord_5 (by decide) (by decide) ?_
  refine tr_iload_n dX12_eatsWord_6 rfl ?_
  refine q_if_eq 14 dX12_eatsWord_7 (by decide) (fun h11 => ?_) (fun h11 => ?_)
  · skip
    refine tr_iload_n dX12_eatsWord_14 rfl ?_
    exact tr_zret hZ dX12_eatsWord_15 rfl (ti_b01 (by exact om_d99fa9e4 h11) (by exact om_d3de7ec9 h11)) (by decide) (by decide) ⟨v8, rfl, rfl, rfl, rfl, rfl, hS0, (by exact om_be53a44c h9), (EwI.rf a0 I0), trivial⟩
  · skip
    refine tr_aload_n dX12_eatsWord_10 rfl ?_
    obtain ⟨v12, c13⟩ : ∃ v, I0 a0 8 = v := ⟨_, rfl⟩
    have b14 := iv15_8 hS0.1 ta0 c13
    obtain ⟨v15, c16⟩ : ∃ v, I0 a0 13 = v := ⟨_, rfl⟩
    refine q_callVv hE (M' := mX12_goesOn) (as := []) dX12_eatsWord_11 lk12_142 inX12_goesOn seX12_goesOn myX12_goesOn (by decide) ⟨by decide, by decide⟩ rfl (kR15 hS0.1 ta0) (Nat.le_of_ble_eq_true rfl) rfl rfl (by decide) (by decide) (k_X12_goesOn hS0.1 ta0) ?_
    rintro cn' K' N' I17 R18 L19 ⟨rfl, rfl, rfl, rfl, g20, p22, p23, p24, w25, -⟩
    have hS26 := hS0.tr g20 (by decide +kernel) (by decide +kernel)
    have w27 : RdI a0 I0 I17 := (EwI.rf a0 I0).rd w25
    obtain ⟨v28, c29⟩ : ∃ v, I17 a0 9 = v := ⟨_, rfl⟩
    have b30 := iv15_9 hS26.1 ta0 c29
    rw [c2] at p22
    rw [c29] at p22
    rw [c2] at p23
    rw [c29] at p23
    obtain ⟨v31, c32⟩ : ∃ v, I17 a0 8 = v := ⟨_, rfl⟩
    have b33 := iv15_8 hS26.1 ta0 c32
    rw [c32] at p24
    rw [c13] at p24
    rw [((hS26.cell ta0 (by decide +kernel)).trans c16)] at p24
    rw [c16] at p24
    refine tr_iload_n dX12_eatsWord_14 rfl ?_
    exact tr_zret hZ dX12_eatsWord_15 rfl (ti_b01 (by exact om_ef03f1ae h9.2 h9.1) (by exact om_51ab244e h9.2 h9.1)) (by decide) (by decide) ⟨v8, rfl, rfl, rfl, rfl, rfl, hS26, (by exact om_be53a44c h9), (Or.inr w27), trivial⟩
