def wi_X12_bounded : List Nat := [969, 973, 974]
def wr_X12_bounded : List Nat := []
set_option maxHeartbeats 4000000 in
theorem k_X12_bounded {l : Launch} {T : Nat → Nat} {cn : Nat} {K N : Nat → Nat} {I0 : cz_I} {R0 : cz_R} {L0 : cz_L} {d : Int} (hW0 : Wf T cn K N I0 R0 d) {a0 : Nat} (ta0 : T a0 = 15) {x1 : Int32} {x2 : Int32} : ConE l mX12_bounded [.ref a0, .int x1, .int x2] cn K N I0 R0 L0 (ca_i (fun v cn' K' N' I' R' L' => cn = cn' ∧ K = K' ∧ N = N' ∧ R0 = R' ∧ L0 = L' ∧ St T cn K N d wi_X12_bounded wr_X12_bounded I0 R0 I' R0 ∧ ((v.toInt = x1.toInt ∨ (x1.toInt ≤ v.toInt ∧ v.toInt ≤ x2.toInt))) ∧ (((I' a0 9).toInt ≠ 5 → (x1.toInt ≤ v.toInt ∧ v.toInt ≤ x2.toInt))) ∧ EwI a0 I0 I' ∧ True)) := by
  refine ConE.of (by decide +kernel) rfl (Nat.le_of_ble_eq_true rfl) rfl (fun X hX hZ hE => ?_)
  subst hX
  have hS0 : St T cn K N d wi_X12_bounded wr_X12_bounded I0 R0 I0 R0 := St.rf0 hW0
  refine tr_aload_n dX12_bounded_0 rfl ?_
  obtain ⟨v1, c2⟩ : ∃ v, I0 a0 9 = v := ⟨_, rfl⟩
  have b3 := iv15_9 hS0.1 ta0 c2
  refine q_getI dX12_bounded_1 fl12_99 (kR15 hS0.1 ta0) c2 ?_
  refine q_iconst dX12_bounded_4 (by decide) ?_
  intro v4 h5
  refine q_icmp_eq 16 dX12_bounded_5 (by decide) (fun h6 => ?_) (fun h6 => ?_)
  · skip
    refine tr_aload_n dX12_bounded_16 rfl ?_
    obtain ⟨v7, c8⟩ : ∃ v, I0 a0 12 = v := ⟨_, rfl⟩
    refine q_getI dX12_bounded_17 fl12_125 (kR15 hS0.1 ta0) c8 ?_
    refine tr_iload_n dX12_bounded_20 rfl ?_
    refine tr_iload_n dX12_bounded_21 rfl ?_
    refine q_callSi hE (M' := mX12_in) (as := [_, _, _]) dX12_bounded_22 lk12_149 inX12_in myX12_in ⟨by decide, by decide⟩ rfl (Nat.le_of_ble_eq_true rfl) rfl rfl (by decide) (by decide) (k_X12_in hS0.1 ) ?_
    rintro v13 cn' K' N' I9 R10 L11 ⟨rfl, rfl, rfl, rfl, rfl, rfl, h14, p15, p16, -⟩
    refine q_if_ne 33 dX12_bounded_25 (by decide) (fun h17 => ?_) (fun h17 => ?_)
    · skip
      refine tr_aload_n dX12_bounded_33 rfl ?_
      refine q_getI dX12_bounded_34 fl12_99 (kR15 hS0.1 ta0) c2 ?_
      refine q_iconst dX12_bounded_37 (by decide) ?_
      intro v18 h19
      refine q_icmp_ne 45 dX12_bounded_38 (by decide) (fun h20 => ?_) (fun h20 => ?_)
      · skip
        refine tr_aload_n dX12_bounded_45 rfl ?_
        refine q_getI dX12_bounded_46 fl12_125 (kR15 hS0.1 ta0) c8 ?_
        exact tr_iret hZ dX12_bounded_49 rfl (by decide) (by decide) ⟨v7, rfl, rfl, rfl, rfl, rfl, rfl, hS0, (by omega), (by (try rw [c2]); (try omega)), (EwI.rf a0 I0), trivial⟩
      · skip
        exfalso; omega
    · skip
      refine tr_aload_n dX12_bounded_28 rfl ?_
      refine q_iconst dX12_bounded_29 (by decide) ?_
      intro v21 h22
      obtain ⟨v23, c24⟩ : ∃ v, I0 a0 8 = v := ⟨_, rfl⟩
      have b25 := iv15_8 hW0 ta0 c24
      refine q_callVv hE (M' := mX12_flaw) (as := [_]) dX12_bounded_30 lk12_145 inX12_flaw seX12_flaw myX12_flaw (by decide) ⟨by decide, by decide⟩ rfl (kR15 hS0.1 ta0) (Nat.le_of_ble_eq_true rfl) rfl rfl (by decide) (by decide) (k_X12_flaw hS0.1 ta0 (by omega)) ?_
      rintro cn' K' N' I26 R27 L28 ⟨rfl, rfl, rfl, rfl, rfl, g29, p31, p32, w33, -⟩
      have hS34 := hS0.tr g29 (by decide +kernel) (by decide +kernel)
      have w35 : RdI a0 I0 I26 := (EwI.rf a0 I0).rd w33
      obtain ⟨v36, c37⟩ : ∃ v, I26 a0 9 = v := ⟨_, rfl⟩
      have b38 := iv15_9 hS34.1 ta0 c37
      rw [c37] at p31
      rw [((hS34.cell ta0 (by decide +kernel)).trans c24)] at p32
      rw [c24] at p32
      refine tr_aload_n dX12_bounded_33 rfl ?_
      refine q_getI dX12_bounded_34 fl12_99 (kR15 hS34.1 ta0) c37 ?_
      refine q_iconst dX12_bounded_37 (by decide) ?_
      intro v39 h40
      refine q_icmp_ne 45 dX12_bounded_38 (by decide) (fun h41 => ?_) (fun h41 => ?_)
      · skip
        exfalso; omega
      · skip
        refine tr_iload_n dX12_bounded_41 rfl ?_
        refine tr_goto 49 dX12_bounded_42 (by decide) ?_
        exact tr_iret hZ dX12_bounded_49 rfl (by decide) (by decide) ⟨x1, rfl, rfl, rfl, rfl, rfl, rfl, hS34, (by omega), (by (try rw [c37]); (try omega)), (Or.inr w35), trivial⟩
  · skip
    refine tr_aload_n dX12_bounded_8 rfl ?_
    refine q_iconst dX12_bounded_9 (by decide) ?_
    intro v42 h43
    obtain ⟨v44, c45⟩ : ∃ v, I0 a0 8 = v := ⟨_, rfl⟩
    have b46 := iv15_8 hW0 ta0 c45
    refine q_callVv hE (M' := mX12_flaw) (as := [_]) dX12_bounded_10 lk12_145 inX12_flaw seX12_flaw myX12_flaw (by decide) ⟨by decide, by decide⟩ rfl (kR15 hS0.1 ta0) (Nat.le_of_ble_eq_true rfl) rfl rfl (by decide) (by decide) (k_X12_flaw hS0.1 ta0 (by omega)) ?_
    rintro cn' K' N' I47 R48 L49 ⟨rfl, rfl, rfl, rfl, rfl, g50, p52, p53, w54, -⟩
    have hS55 := hS0.tr g50 (by decide +kernel) (by decide +kernel)
    have w56 : RdI a0 I0 I47 := (EwI.rf a0 I0).rd w54
    obtain ⟨v57, c58⟩ : ∃ v, I47 a0 9 = v := ⟨_, rfl⟩
    have b59 := iv15_9 hS55.1 ta0 c58
    rw [c58] at p52
    rw [((hS55.cell ta0 (by decide +kernel)).trans c45)] at p53
    rw [c45] at p53
    refine tr_goto 33 dX12_bounded_13 (by decide) ?_
    refine tr_aload_n dX12_bounded_33 rfl ?_
    refine q_getI dX12_bounded_34 fl12_99 (kR15 hS55.1 ta0) c58 ?_
    refine q_iconst dX12_bounded_37 (by decide) ?_
    intro v60 h61
    refine q_icmp_ne 45 dX12_bounded_38 (by decide) (fun h62 => ?_) (fun h62 => ?_)
    · skip
      exfalso; omega
    · skip
      refine tr_iload_n dX12_bounded_41 rfl ?_
      refine tr_goto 49 dX12_bounded_42 (by decide) ?_
      exact tr_iret hZ dX12_bounded_49 rfl (by decide) (by decide) ⟨x1, rfl, rfl, rfl, rfl, rfl, rfl, hS55, (by omega), (by (try rw [c58]); (try omega)), (Or.inr w56), trivial⟩
def wi_X12_eatsSign : List Nat := [968, 969, 970, 971, 972]
def wr_X12_eatsSign : List Nat := []
set_option maxHeartbeats 4000000 in
theorem k_X12_eatsSign {l : Launch} {T : Nat → Nat} {cn : Nat} {K N : Nat → Nat} {I0 : cz_I} {R0 : cz_R} {L0 : cz_L} {d : Int} (hW0 : Wf T cn K N I0 R0 d) {a0 : Nat} (ta0 : T a0 = 15) {x1 : Int32} : ConE l mX12_eatsSign [.ref a0, .int x1] cn K N I0 R0 L0 (ca_i (fun v cn' K' N' I' R' L' => cn = cn' ∧ K = K' ∧ N = N' ∧ R0 = R' ∧ St T cn K N d wi_X12_eatsSign wr_X12_eatsSign I0 R0 I' R0 ∧ (0 ≤ v.toInt ∧ v.toInt ≤ 1) ∧ ((v.toInt = 1 → (I0 a0 9).toInt = 4)) ∧ ((I' a0 8).toInt ≥ (I0 a0 8).toInt) ∧ EwI a0 I0 I' ∧ True)) := by
  refine ConE.of (by decide +kernel) rfl (Nat.le_of_ble_eq_true rfl) rfl (fun X hX hZ hE => ?_)
  subst hX
  have hS0 : St T cn K N d wi_X12_eatsSign wr_X12_eatsSign I0 R0 I0 R0 := St.rf0 hW0
  obtain ⟨v1, c2⟩ : ∃ v, I0 a0 9 = v := ⟨_, rfl⟩
  have b3 := iv15_9 hS0.1 ta0 c2
  obtain ⟨v4, c5⟩ : ∃ v, I0 a0 8 = v := ⟨_, rfl⟩
  have b6 := iv15_8 hS0.1 ta0 c5
  refine tr_aload_n dX12_eatsSign_0 rfl ?_
  refine q_getI dX12_eatsSign_1 fl12_99 (kR15 hS0.1 ta0) c2 ?_
  refine q_iconst dX12_eatsSign_4 (by decide) ?_
  intro v7 h8
  refine q_icmp_ne 20 dX12_eatsSign_5 (by decide) (fun h9 => ?_) (fun h9 => ?_)
  · skip
    refine q_iconst dX12_eatsSign_20 (by decide) ?_
    intro v10 h11
    refine tr_istore_n dX12_eatsSign_21 (by decide) (by decide) ?_
    refine tr_iload_n dX12_eatsSign_22 rfl ?_
    refine q_if_eq 30 dX12_eatsSign_23 (by decide) (fun h12 => ?_) (fun h12 => ?_)
    · skip
      refine tr_iload_n dX12_eatsSign_30 rfl ?_
      exact tr_zret hZ dX12_eatsSign_31 rfl (ti_b01 (by omega) (by omega)) (by decide) (by decide) ⟨v10, rfl, rfl, rfl, rfl, rfl, hS0, (by omega), (by (try rw [c2]); (try omega)), (by (try rw [c5]); (try omega)), (EwI.rf a0 I0), trivial⟩
    · skip
      exfalso; omega
  · skip
    refine tr_aload_n dX12_eatsSign_8 rfl ?_
    obtain ⟨v13, c14⟩ : ∃ v, I0 a0 11 = v := ⟨_, rfl⟩
    refine q_getI dX12_eatsSign_9 fl12_111 (kR15 hS0.1 ta0) c14 ?_
    refine tr_iload_n dX12_eatsSign_12 rfl ?_
    refine q_icmp_ne 20 dX12_eatsSign_13 (by decide) (fun h15 => ?_) (fun h15 => ?_)
    · skip
      refine q_iconst dX12_eatsSign_20 (by decide) ?_
      intro v16 h17
      refine tr_istore_n dX12_eatsSign_21 (by decide) (by decide) ?_
      refine tr_iload_n dX12_eatsSign_22 rfl ?_
      refine q_if_eq 30 dX12_eatsSign_23 (by decide) (fun h18 => ?_) (fun h18 => ?_)
      · skip
        refine tr_iload_n dX12_eatsSign_30 rfl ?_
        exact tr_zret hZ dX12_eatsSign_31 rfl (ti_b01 (by omega) (by omega)) (by decide) (by decide) ⟨v16, rfl, rfl, rfl, rfl, rfl, hS0, (by omega), (by (try rw [c2]); (try omega)), (by (try rw [c5]); (try omega)), (EwI.rf a0 I0), trivial⟩
      · skip
        exfalso; omega
    · skip
      refine q_iconst dX12_eatsSign_16 (by decide) ?_
      intro v19 h20
      refine tr_goto 21 dX12_eatsSign_17 (by decide) ?_
      refine tr_istore_n dX12_eatsSign_21 (by decide) (by decide) ?_
      refine tr_iload_n dX12_eatsSign_22 rfl ?_
      refine q_if_eq 30 dX12_eatsSign_23 (by decide) (fun h21 => ?_) (fun h21 => ?_)
      · skip
        exfalso; omega
      · skip
        refine tr_aload_n dX12_eatsSign_26 rfl ?_
        obtain ⟨v22, c23⟩ : ∃ v, I0 a0 13 = v := ⟨_, rfl⟩
        refine q_callVv hE (M' := mX12_goesOn) (as := []) dX12_eatsSign_27 lk12_142 inX12_goesOn seX12_goesOn myX12_goesOn (by decide) ⟨by decide, by decide⟩ rfl (kR15 hS0.1 ta0) (Nat.le_of_ble_eq_true rfl) rfl rfl (by decide) (by decide) (k_X12_goesOn hS0.1 ta0) ?_
        rintro cn' K' N' I24 R25 L26 ⟨rfl, rfl, rfl, rfl, g27, p29, p30, w31, -⟩
        have hS32 := hS0.tr g27 (by decide +kernel) (by decide +kernel)
        have w33 : RdI a0 I0 I24 := (EwI.rf a0 I0).rd w31
        obtain ⟨v34, c35⟩ : ∃ v, I24 a0 9 = v := ⟨_, rfl⟩
        have b36 := iv15_9 hS32.1 ta0 c35
        rw [c2] at p29
        rw [c35] at p29
        obtain ⟨v37, c38⟩ : ∃ v, I24 a0 8 = v := ⟨_, rfl⟩
        have b39 := iv15_8 hS32.1 ta0 c38
        rw [c38] at p30
        rw [c5] at p30
        rw [((hS32.cell ta0 (by decide +kernel)).trans c23)] at p30
        rw [c23] at p30
        refine tr_iload_n dX12_eatsSign_30 rfl ?_
        exact tr_zret hZ dX12_eatsSign_31 rfl (ti_b01 (by omega) (by omega)) (by decide) (by decide) ⟨v19, rfl, rfl, rfl, rfl, rfl, hS32, (by omega), (by (try rw [c2]); (try omega)), (by (try rw [c38]); (try rw [c5]); (try omega)), (Or.inr w33), trivial⟩
def wi_X12_readRising : List Nat := [959, 968, 969, 970, 971, 972, 973, 974]
def wr_X12_readRising : List Nat := []
set_option maxHeartbeats 4000000 in
theorem k_X12_readRising {l : Launch} {T : Nat → Nat} {cn : Nat} {K N : Nat → Nat} {I0 : cz_I} {R0 : cz_R} {L0 : cz_L} {d : Int} (hW0 : Wf T cn K N I0 R0 d) {a0 : Nat} (ta0 : T a0 = 15) {a1 : Nat} (ta1 : T a1 = 61) {x2 : Int32} (hx2 : 0 ≤ x2.toInt ∧ x2.toInt ≤ 24) {x3 : Int32} (hx3 : 8 ≤ x3.toInt ∧ x3.toInt ≤ 8) (nn4 : ∃ b, R0 a0 4 = some b) : ConE l mX12_readRising [.ref a0, .ref a1, .int x2, .int x3] cn K N I0 R0 L0 (ca_i (fun v cn' K' N' I' R' L' => cn = cn' ∧ K = K' ∧ N = N' ∧ R0 = R' ∧ St T cn K N d wi_X12_readRising wr_X12_readRising I0 R0 I' R0 ∧ (0 ≤ v.toInt ∧ v.toInt ≤ 8) ∧ EwI a0 I0 I' ∧ True)) := by
  refine ConE.of (by decide +kernel) rfl (Nat.le_of_ble_eq_true rfl) rfl (fun X hX hZ hE => ?_)
  subst hX
  have hS0 : St T cn K N d wi_X12_readRising wr_X12_readRising I0 R0 I0 R0 := St.rf0 hW0
  obtain ⟨a1, d2⟩ := nn4
  have ta1 : T a1 = 14 := hW0.rsN ta0 rfl d2
  refine q_iconst dX12_readRising_0 (by decide) ?_
  intro v3 h4
  refine tr_istore dX12_readRising_1 (by decide) (by decide) ?_
  refine q_iconst dX12_readRising_3 (by decide) ?_
  intro v5 h6
  refine tr_istore dX12_readRising_4 (by decide) (by decide) ?_
  refine q_iconst dX12_readRising_6 (by decide) ?_
  intro v7 h8
  refine tr_istore dX12_readRising_7 (by decide) (by decide) ?_
  have lp29 : ∀ (fu : Nat) (ls : Nat → Option Value) (v9 : Int32) (v10 : Int32) (v11 : Int32) (I19 : cz_I) (L20 : cz_L), ls 0 = some (.ref a0) → ls 1 = some (.ref a1) → ls 2 = some (.int x2) → ls 3 = some (.int x3) → ls 4 = some (.int v9) → ls 5 = some (.int v10) → ls 6 = some (.int v11) → St T cn K N d wi_X12_readRising wr_X12_readRising I0 R0 I19 R0 → EwI a0 I0 I19 → 0 ≤ v9.toInt → v9.toInt ≤ 8 → 0 ≤ v10.toInt → v10.toInt ≤ 240 → 0 ≤ v11.toInt → v11.toInt ≤ 1 → (-v9.toInt + 9).toNat < fu → Tr X mX12_readRising 9 ls [] cn K N I19 R0 L20 0 0 := by
    intro fu
    induction fu with
    | zero => intros; rename_i hz; exact absurd hz (Nat.not_lt_zero _)
    | succ fu ih29 =>
      intro ls v9 v10 v11 I19 L20 hl12 hl13 hl14 hl15 hl16 hl17 hl18 hS21 w22 g23 g24 g25 g26 g27 g28 hm29
      refine tr_iload dX12_readRising_9 hl18 ?_
      refine q_if_eq 92 dX12_readRising_11 (by decide) (fun h31 => ?_) (fun h31 => ?_)
      · skip
        refine tr_iload dX12_readRising_92 hl16 ?_
        exact tr_iret hZ dX12_readRising_94 rfl (by decide) (by decide) ⟨v9, rfl, rfl, rfl, rfl, rfl, hS21, (by omega), w22, trivial⟩
      · skip
        refine tr_aload_n dX12_readRising_14 hl12 ?_
        obtain ⟨v32, c33⟩ : ∃ v, I19 a0 9 = v := ⟨_, rfl⟩
        have b34 := iv15_9 hS21.1 ta0 c33
        refine q_getI dX12_readRising_15 fl12_99 (kR15 hS21.1 ta0) c33 ?_
        refine q_iconst dX12_readRising_18 (by decide) ?_
        intro v35 h36
        refine q_icmp_eq 92 dX12_readRising_19 (by decide) (fun h37 => ?_) (fun h37 => ?_)
        · skip
          refine tr_iload dX12_readRising_92 hl16 ?_
          exact tr_iret hZ dX12_readRising_94 rfl (by decide) (by decide) ⟨v9, rfl, rfl, rfl, rfl, rfl, hS21, (by omega), w22, trivial⟩
        · skip
          refine tr_aload_n dX12_readRising_22 hl12 ?_
          refine tr_iload dX12_readRising_23 hl17 ?_
          refine tr_aload_n dX12_readRising_25 hl12 ?_
          refine tr_getR dX12_readRising_26 fl12_188 (kR15 hS21.1 ta0) d2 ?_
          obtain ⟨v38, c39⟩ : ∃ v, I0 a1 0 = v := ⟨_, rfl⟩
          have b40 := iv14_0 hW0 ta1 c39
          refine q_getI dX12_readRising_29 fl12_192 (kR14 hS21.1 ta1) ((hS21.cell ta1 (by decide +kernel)).trans c39) ?_
          refine q_iconst dX12_readRising_32 (by decide) ?_
          intro v41 h42
          refine q_isubE dX12_readRising_33 (by intros; omega) ?_
          intro v43 h44
          refine q_callVi hE (M' := mX12_bounded) (as := [_, _]) dX12_readRising_34 lk12_153 inX12_bounded seX12_bounded myX12_bounded (by decide) ⟨by decide, by decide⟩ rfl (kR15 hS21.1 ta0) (Nat.le_of_ble_eq_true rfl) rfl rfl (by decide) (by decide) (k_X12_bounded hS21.1 ta0) ?_
          rintro v49 cn' K' N' I45 R46 L47 ⟨rfl, rfl, rfl, rfl, rfl, g48, p50, p51, w52, -⟩
          have hS53 := hS21.tr g48 (by decide +kernel) (by decide +kernel)
          have w54 : EwI a0 I0 I45 := w22.ew w52
          have w55 : EwI a0 I19 I45 := (EwI.rf a0 I19).ew w52
          have b56 : 0 ≤ v49.toInt ∧ v49.toInt ≤ 240 := by omega
          clear p50
          obtain ⟨v57, c58⟩ : ∃ v, I45 a0 9 = v := ⟨_, rfl⟩
          have b59 := iv15_9 hS53.1 ta0 c58
          have gd60 : Gd (I45 a0 9) ((v10.toInt ≤ v49.toInt ∧ v49.toInt ≤ v43.toInt)) := p51
          clear p51
          refine tr_istore dX12_readRising_37 (by decide) (by decide) ?_
          refine tr_iload dX12_readRising_39 hl16 ?_
          refine tr_iload_n dX12_readRising_41 hl15 ?_
          refine q_icmp_ne 50 dX12_readRising_42 (by decide) (fun h61 => ?_) (fun h61 => ?_)
          · skip
            refine tr_aload_n dX12_readRising_50 hl12 ?_
            obtain ⟨v62, c63⟩ : ∃ v, I45 a0 8 = v := ⟨_, rfl⟩
            have b64 := iv15_8 hS53.1 ta0 c63
            obtain ⟨v65, c66⟩ : ∃ v, I45 a0 13 = v := ⟨_, rfl⟩
            refine q_callVv hE (M' := mX12_goesOn) (as := []) dX12_readRising_51 lk12_142 inX12_goesOn seX12_goesOn myX12_goesOn (by decide) ⟨by decide, by decide⟩ rfl (kR15 hS53.1 ta0) (Nat.le_of_ble_eq_true rfl) rfl rfl (by decide) (by decide) (k_X12_goesOn hS53.1 ta0) ?_
            rintro cn' K' N' I67 R68 L69 ⟨rfl, rfl, rfl, rfl, g70, p72, p73, w74, -⟩
            have hS75 := hS53.tr g70 (by decide +kernel) (by decide +kernel)
            have c76 : I67 a0 13 = v65 := (g70.cell ta0 (by decide +kernel)).trans c66
            have w77 : RdI a0 I0 I67 := w54.rd w74
            have w78 : RdI a0 I19 I67 := w55.rd w74
            have gd79 := Gd.go gd60 w74.stick
            obtain ⟨v80, c81⟩ : ∃ v, I67 a0 9 = v := ⟨_, rfl⟩
            have b82 := iv15_9 hS75.1 ta0 c81
            rw [c58] at p72
            rw [c81] at p72
            obtain ⟨v83, c84⟩ : ∃ v, I67 a0 8 = v := ⟨_, rfl⟩
            have b85 := iv15_8 hS75.1 ta0 c84
            rw [c84] at p73
            rw [c63] at p73
            rw [c76] at p73
            rw [c66] at p73
            refine tr_aload_n dX12_readRising_54 hl12 ?_
            refine q_getI dX12_readRising_55 fl12_99 (kR15 hS75.1 ta0) c81 ?_
            refine q_iconst dX12_readRising_58 (by decide) ?_
            intro v86 h87
            refine q_icmp_ne 64 dX12_readRising_59 (by decide) (fun h88 => ?_) (fun h88 => ?_)
            · skip
              have p89 := gd79 (by rw [c81]; omega)
              clear gd79
              refine tr_aload_n dX12_readRising_64 hl13 ?_
              refine tr_iload_n dX12_readRising_65 hl14 ?_
              refine tr_iload dX12_readRising_66 hl16 ?_
              refine q_iaddE dX12_readRising_68 (by intros; omega) ?_
              intro v90 h91
              refine tr_iload dX12_readRising_69 rfl ?_
              refine q_zast dX12_readRising_71 (kR14 hS75.1 ta1) (ti_in (nR14 hS75.1 ta1) (by omega) (by omega)) hS75 ta1 (by omega) rfl rfl (by rfl) ?_
              intro I92 hS93 f94
              have c96 : I92 a0 13 = v65 := (f94 _ _ (fun q => by have z := ta0; rw [q.1, ta1] at z; exact absurd z (by decide))).trans c76
              have c97 : I92 a0 9 = v80 := (f94 _ _ (fun q => by have z := ta0; rw [q.1, ta1] at z; exact absurd z (by decide))).trans c81
              have c98 : I92 a0 8 = v83 := (f94 _ _ (fun q => by have z := ta0; rw [q.1, ta1] at z; exact absurd z (by decide))).trans c84
              have w99 : RdI a0 I0 I92 := w77.keep (f94 _ _ (fun q => by have z := ta0; rw [q.1, ta1] at z; exact absurd z (by decide))) (f94 _ _ (fun q => by have z := ta0; rw [q.1, ta1] at z; exact absurd z (by decide))) (f94 _ _ (fun q => by have z := ta0; rw [q.1, ta1] at z; exact absurd z (by decide)))
              have w100 : RdI a0 I19 I92 := w78.keep (f94 _ _ (fun q => by have z := ta0; rw [q.1, ta1] at z; exact absurd z (by decide))) (f94 _ _ (fun q => by have z := ta0; rw [q.1, ta1] at z; exact absurd z (by decide))) (f94 _ _ (fun q => by have z := ta0; rw [q.1, ta1] at z; exact absurd z (by decide)))
              refine q_iincE dX12_readRising_72 hl16 (by decide) (by decide) (by intros; omega) ?_
              intro v101 h102
              refine tr_iload dX12_readRising_75 rfl ?_
              refine q_iconst dX12_readRising_77 (by decide) ?_
              intro v103 h104
              refine q_iaddE dX12_readRising_78 (by intros; omega) ?_
              intro v105 h106
              refine tr_istore dX12_readRising_79 (by decide) (by decide) ?_
              refine tr_aload_n dX12_readRising_81 hl12 ?_
              refine q_bipush dX12_readRising_82 (by decide +kernel) ?_
              intro v107 h108
              refine q_callVi hE (M' := mX12_eatsSign) (as := [_]) dX12_readRising_84 lk12_221 inX12_eatsSign seX12_eatsSign myX12_eatsSign (by decide) ⟨by decide, by decide⟩ rfl (kR15 hS93.1 ta0) (Nat.le_of_ble_eq_true rfl) rfl rfl (by decide) (by decide) (k_X12_eatsSign hS93.1 ta0) ?_
              rintro v113 cn' K' N' I109 R110 L111 ⟨rfl, rfl, rfl, rfl, g112, h114, p115, p116, w117, -⟩
              have hS118 := hS93.tr g112 (by decide +kernel) (by decide +kernel)
              have c119 : I109 a0 13 = v65 := (g112.cell ta0 (by decide +kernel)).trans c96
              have w120 : RdI a0 I0 I109 := w99.ew w117
              have w121 : RdI a0 I19 I109 := w100.ew w117
              rw [c97] at p115
              obtain ⟨v122, c123⟩ : ∃ v, I109 a0 8 = v := ⟨_, rfl⟩
              have b124 := iv15_8 hS118.1 ta0 c123
              rw [c123] at p116
              rw [c98] at p116
              refine tr_istore dX12_readRising_87 (by decide) (by decide) ?_
              refine tr_goto 9 dX12_readRising_89 (by decide) ?_
              exact ih29 _ v101 v105 v113 I109 L111 hl12 hl13 hl14 hl15 rfl rfl rfl hS118 (Or.inr w120) (by omega) (by omega) (by omega) (by omega) (by omega) (by omega) (by omega)
            · skip
              refine q_iconst dX12_readRising_62 (by decide) ?_
              intro v125 h126
              exact tr_iret hZ dX12_readRising_63 rfl (by decide) (by decide) ⟨v125, rfl, rfl, rfl, rfl, rfl, hS75, (by omega), (Or.inr w77), trivial⟩
          · skip
            refine tr_aload_n dX12_readRising_45 hl12 ?_
            refine q_iconst dX12_readRising_46 (by decide) ?_
            intro v127 h128
            obtain ⟨v129, c130⟩ : ∃ v, I45 a0 8 = v := ⟨_, rfl⟩
            have b131 := iv15_8 hS53.1 ta0 c130
            refine q_callVv hE (M' := mX12_flaw) (as := [_]) dX12_readRising_47 lk12_145 inX12_flaw seX12_flaw myX12_flaw (by decide) ⟨by decide, by decide⟩ rfl (kR15 hS53.1 ta0) (Nat.le_of_ble_eq_true rfl) rfl rfl (by decide) (by decide) (k_X12_flaw hS53.1 ta0 (by omega)) ?_
            rintro cn' K' N' I132 R133 L134 ⟨rfl, rfl, rfl, rfl, rfl, g135, p137, p138, w139, -⟩
            have hS140 := hS53.tr g135 (by decide +kernel) (by decide +kernel)
            have c141 : I132 a0 8 = v129 := (g135.cell ta0 (by decide +kernel)).trans c130
            have w142 : RdI a0 I0 I132 := w54.rd w139
            have w143 : RdI a0 I19 I132 := w55.rd w139
            have gd144 := Gd.go gd60 w139.stick
            obtain ⟨v145, c146⟩ : ∃ v, I132 a0 9 = v := ⟨_, rfl⟩
            have b147 := iv15_9 hS140.1 ta0 c146
            rw [c146] at p137
            rw [c141] at p138
            rw [c130] at p138
            refine tr_aload_n dX12_readRising_50 hl12 ?_
            obtain ⟨v148, c149⟩ : ∃ v, I132 a0 13 = v := ⟨_, rfl⟩
            refine q_callVv hE (M' := mX12_goesOn) (as := []) dX12_readRising_51 lk12_142 inX12_goesOn seX12_goesOn myX12_goesOn (by decide) ⟨by decide, by decide⟩ rfl (kR15 hS140.1 ta0) (Nat.le_of_ble_eq_true rfl) rfl rfl (by decide) (by decide) (k_X12_goesOn hS140.1 ta0) ?_
            rintro cn' K' N' I150 R151 L152 ⟨rfl, rfl, rfl, rfl, g153, p155, p156, w157, -⟩
            have hS158 := hS140.tr g153 (by decide +kernel) (by decide +kernel)
            have c159 : I150 a0 13 = v148 := (g153.cell ta0 (by decide +kernel)).trans c149
            have w160 : RdI a0 I0 I150 := w142.rd w157
            have w161 : RdI a0 I19 I150 := w143.rd w157
            have gd162 := Gd.go gd144 w157.stick
            obtain ⟨v163, c164⟩ : ∃ v, I150 a0 9 = v := ⟨_, rfl⟩
            have b165 := iv15_9 hS158.1 ta0 c164
            rw [c146] at p155
            rw [c164] at p155
            obtain ⟨v166, c167⟩ : ∃ v, I150 a0 8 = v := ⟨_, rfl⟩
            have b168 := iv15_8 hS158.1 ta0 c167
            rw [c167] at p156
            rw [c141] at p156
            rw [c159] at p156
            rw [c149] at p156
            refine tr_aload_n dX12_readRising_54 hl12 ?_
            refine q_getI dX12_readRising_55 fl12_99 (kR15 hS158.1 ta0) c164 ?_
            refine q_iconst dX12_readRising_58 (by decide) ?_
            intro v169 h170
            refine q_icmp_ne 64 dX12_readRising_59 (by decide) (fun h171 => ?_) (fun h171 => ?_)
            · skip
              have p172 := gd162 (by rw [c164]; omega)
              clear gd162
              refine tr_aload_n dX12_readRising_64 hl13 ?_
              refine tr_iload_n dX12_readRising_65 hl14 ?_
              refine tr_iload dX12_readRising_66 hl16 ?_
              refine q_iaddE dX12_readRising_68 (by intros; omega) ?_
              intro v173 h174
              refine tr_iload dX12_readRising_69 rfl ?_
              refine q_zast dX12_readRising_71 (kR14 hS158.1 ta1) (ti_in (nR14 hS158.1 ta1) (by omega) (by omega)) hS158 ta1 (by omega) rfl rfl (by rfl) ?_
              intro I175 hS176 f177
              have c179 : I175 a0 13 = v148 := (f177 _ _ (fun q => by have z := ta0; rw [q.1, ta1] at z; exact absurd z (by decide))).trans c159
              have c180 : I175 a0 9 = v163 := (f177 _ _ (fun q => by have z := ta0; rw [q.1, ta1] at z; exact absurd z (by decide))).trans c164
              have c181 : I175 a0 8 = v166 := (f177 _ _ (fun q => by have z := ta0; rw [q.1, ta1] at z; exact absurd z (by decide))).trans c167
              have w182 : RdI a0 I0 I175 := w160.keep (f177 _ _ (fun q => by have z := ta0; rw [q.1, ta1] at z; exact absurd z (by decide))) (f177 _ _ (fun q => by have z := ta0; rw [q.1, ta1] at z; exact absurd z (by decide))) (f177 _ _ (fun q => by have z := ta0; rw [q.1, ta1] at z; exact absurd z (by decide)))
              have w183 : RdI a0 I19 I175 := w161.keep (f177 _ _ (fun q => by have z := ta0; rw [q.1, ta1] at z; exact absurd z (by decide))) (f177 _ _ (fun q => by have z := ta0; rw [q.1, ta1] at z; exact absurd z (by decide))) (f177 _ _ (fun q => by have z := ta0; rw [q.1, ta1] at z; exact absurd z (by decide)))
              refine q_iincE dX12_readRising_72 hl16 (by decide) (by decide) (by intros; omega) ?_
              intro v184 h185
              refine tr_iload dX12_readRising_75 rfl ?_
              refine q_iconst dX12_readRising_77 (by decide) ?_
              intro v186 h187
              refine q_iaddE dX12_readRising_78 (by intros; omega) ?_
              intro v188 h189
              refine tr_istore dX12_readRising_79 (by decide) (by decide) ?_
              refine tr_aload_n dX12_readRising_81 hl12 ?_
              refine q_bipush dX12_readRising_82 (by decide +kernel) ?_
              intro v190 h191
              refine q_callVi hE (M' := mX12_eatsSign) (as := [_]) dX12_readRising_84 lk12_221 inX12_eatsSign seX12_eatsSign myX12_eatsSign (by decide) ⟨by decide, by decide⟩ rfl (kR15 hS176.1 ta0) (Nat.le_of_ble_eq_true rfl) rfl rfl (by decide) (by decide) (k_X12_eatsSign hS176.1 ta0) ?_
              rintro v196 cn' K' N' I192 R193 L194 ⟨rfl, rfl, rfl, rfl, g195, h197, p198, p199, w200, -⟩
              have hS201 := hS176.tr g195 (by decide +kernel) (by decide +kernel)
              have c202 : I192 a0 13 = v148 := (g195.cell ta0 (by decide +kernel)).trans c179
              have w203 : RdI a0 I0 I192 := w182.ew w200
              have w204 : RdI a0 I19 I192 := w183.ew w200
              rw [c180] at p198
              obtain ⟨v205, c206⟩ : ∃ v, I192 a0 8 = v := ⟨_, rfl⟩
              have b207 := iv15_8 hS201.1 ta0 c206
              rw [c206] at p199
              rw [c181] at p199
              refine tr_istore dX12_readRising_87 (by decide) (by decide) ?_
              refine tr_goto 9 dX12_readRising_89 (by decide) ?_
              exact ih29 _ v184 v188 v196 I192 L194 hl12 hl13 hl14 hl15 rfl rfl rfl hS201 (Or.inr w203) (by omega) (by omega) (by omega) (by omega) (by omega) (by omega) (by omega)
            · skip
              refine q_iconst dX12_readRising_62 (by decide) ?_
              intro v208 h209
              exact tr_iret hZ dX12_readRising_63 rfl (by decide) (by decide) ⟨v208, rfl, rfl, rfl, rfl, rfl, hS158, (by omega), (Or.inr w160), trivial⟩
  exact lp29 _ _ v3 v5 v7 I0 L0 rfl rfl rfl rfl rfl rfl rfl hS0 (EwI.rf a0 I0) (by omega) (by omega) (by omega) (by omega) (by omega) (by omega) (Nat.lt_succ_self _)
def wi_X12_readSlice : List Nat := [902, 959, 968, 969, 970, 971, 972, 973, 974, 3903]
def wr_X12_readSlice : List Nat := []
set_option maxHeartbeats 4000000 in
theorem k_X12_readSlice {l : Launch} {T : Nat → Nat} {cn : Nat} {K N : Nat → Nat} {I0 : cz_I} {R0 : cz_R} {L0 : cz_L} {d : Int} (hW0 : Wf T cn K N I0 R0 d) {a0 : Nat} (ta0 : T a0 = 15) (nn4 : ∃ b, R0 a0 4 = some b) : ConE l mX12_readSlice [.ref a0] cn K N I0 R0 L0 (ca_v (fun cn' K' N' I' R' L' => cn = cn' ∧ K = K' ∧ N = N' ∧ R0 = R' ∧ St T cn K N d wi_X12_readSlice wr_X12_readSlice I0 R0 I' R0 ∧ RdI a0 I0 I' ∧ True)) := by
  refine ConE.of (by decide +kernel) rfl (Nat.le_of_ble_eq_true rfl) rfl (fun X hX hZ hE => ?_)
  subst hX
  have hS0 : St T cn K N d wi_X12_readSlice wr_X12_readSlice I0 R0 I0 R0 := St.rf0 hW0
  obtain ⟨a1, d2⟩ := nn4
  have ta1 : T a1 = 14 := hW0.rsN ta0 rfl d2
  refine tr_aload_n dX12_readSlice_0 rfl ?_
  refine tr_aload_n dX12_readSlice_1 rfl ?_
  refine tr_getR dX12_readSlice_2 fl12_188 (kR15 hS0.1 ta0) d2 ?_
  obtain ⟨v3, c4⟩ : ∃ v, I0 a1 6 = v := ⟨_, rfl⟩
  have b5 := iv14_6 hS0.1 ta1 c4
  refine q_getI dX12_readSlice_5 fl12_370 (kR14 hS0.1 ta1) c4 ?_
  refine q_iconst dX12_readSlice_8 (by decide) ?_
  intro v6 h7
  refine q_callVv hE (M' := mX12_begins) (as := [_, _]) dX12_readSlice_9 lk12_268 inX12_begins seX12_begins myX12_begins (by decide) ⟨by decide, by decide⟩ rfl (kR15 hS0.1 ta0) (Nat.le_of_ble_eq_true rfl) rfl rfl (by decide) (by decide) (k_X12_begins hS0.1 ta0 ⟨_, d2⟩) ?_
  rintro cn' K' N' I8 R9 L10 ⟨rfl, rfl, rfl, rfl, g11, p13, w14, -⟩
  have hS15 := hS0.tr g11 (by decide +kernel) (by decide +kernel)
  have c16 : I8 a1 6 = v3 := (g11.cell ta1 (by decide +kernel)).trans c4
  have w17 : RdI a0 I0 I8 := (EwI.rf a0 I0).rd w14
  obtain ⟨v18, c19⟩ : ∃ v, I8 a0 9 = v := ⟨_, rfl⟩
  have b20 := iv15_9 hS15.1 ta0 c19
  have gd21 : Gd (I8 a0 9) (v3.toInt ≠ v6.toInt) := p13
  clear p13
  refine tr_aload_n dX12_readSlice_12 rfl ?_
  refine tr_aload_n dX12_readSlice_13 rfl ?_
  refine tr_getR dX12_readSlice_14 fl12_188 (kR15 hS15.1 ta0) d2 ?_
  obtain ⟨a22, d23, ta22⟩ := rf14_18 hW0 ta1
  refine tr_getR dX12_readSlice_17 fl12_373 (kR14 hS15.1 ta1) d23 ?_
  refine q_bipush dX12_readSlice_20 (by decide +kernel) ?_
  intro v24 h25
  refine tr_aload_n dX12_readSlice_22 rfl ?_
  refine tr_getR dX12_readSlice_23 fl12_188 (kR15 hS15.1 ta0) d2 ?_
  refine q_getI dX12_readSlice_26 fl12_370 (kR14 hS15.1 ta1) c16 ?_
  refine q_imulE (c := 8) dX12_readSlice_29 (by omega) (by omega) ?_
  intro v26 h27
  refine q_bipush dX12_readSlice_30 (by decide +kernel) ?_
  intro v28 h29
  refine q_callVi hE (M' := mX12_readRising) (as := [_, _, _]) dX12_readSlice_32 lk12_308 inX12_readRising seX12_readRising myX12_readRising (by decide) ⟨by decide, by decide⟩ rfl (kR15 hS15.1 ta0) (Nat.le_of_ble_eq_true rfl) rfl rfl (by decide) (by decide) (k_X12_readRising hS15.1 ta0 ta22 (by omega) (by omega) ⟨_, d2⟩) ?_
  rintro v34 cn' K' N' I30 R31 L32 ⟨rfl, rfl, rfl, rfl, g33, h35, w36, -⟩
  have hS37 := hS15.tr g33 (by decide +kernel) (by decide +kernel)
  have c38 : I30 a1 6 = v3 := (g33.cell ta1 (by decide +kernel)).trans c16
  have w39 : RdI a0 I0 I30 := w17.ew w36
  have gd40 := Gd.go gd21 w36.stick
  refine tr_istore_n dX12_readSlice_35 (by decide) (by decide) ?_
  refine tr_aload_n dX12_readSlice_36 rfl ?_
  obtain ⟨v41, c42⟩ : ∃ v, I30 a0 9 = v := ⟨_, rfl⟩
  have b43 := iv15_9 hS37.1 ta0 c42
  refine q_getI dX12_readSlice_37 fl12_99 (kR15 hS37.1 ta0) c42 ?_
  refine q_iconst dX12_readSlice_40 (by decide) ?_
  intro v44 h45
  refine q_icmp_ne 45 dX12_readSlice_41 (by decide) (fun h46 => ?_) (fun h46 => ?_)
  · skip
    have p47 := gd40 (by rw [c42]; omega)
    clear gd40
    refine tr_aload_n dX12_readSlice_45 rfl ?_
    refine tr_getR dX12_readSlice_46 fl12_188 (kR15 hS37.1 ta0) d2 ?_
    obtain ⟨a48, d49, ta48⟩ := rf14_17 hW0 ta1
    refine tr_getR dX12_readSlice_49 fl12_375 (kR14 hS37.1 ta1) d49 ?_
    refine tr_aload_n dX12_readSlice_52 rfl ?_
    refine tr_getR dX12_readSlice_53 fl12_188 (kR15 hS37.1 ta0) d2 ?_
    refine q_getI dX12_readSlice_56 fl12_370 (kR14 hS37.1 ta1) c38 ?_
    refine tr_iload_n dX12_readSlice_59 rfl ?_
    refine q_iast dX12_readSlice_60 (kR60 hS37.1 ta48) (ti_in (nR60 hS37.1 ta48) (by omega) (by omega)) hS37 ta48 (by show (0 : Int) ≤ v34.toInt ∧ v34.toInt ≤ (8 : Int); omega) rfl (by rfl) ?_
    intro I50 hS51 e53 f52
    have c54 : I50 a1 6 = v3 := (f52 _ _ (fun q => by have z := ta1; rw [q.1, ta48] at z; exact absurd z (by decide))).trans c38
    have c55 : I50 a0 9 = v41 := (f52 _ _ (fun q => by have z := ta0; rw [q.1, ta48] at z; exact absurd z (by decide))).trans c42
    have w56 : RdI a0 I0 I50 := w39.keep (f52 _ _ (fun q => by have z := ta0; rw [q.1, ta48] at z; exact absurd z (by decide))) (f52 _ _ (fun q => by have z := ta0; rw [q.1, ta48] at z; exact absurd z (by decide))) (f52 _ _ (fun q => by have z := ta0; rw [q.1, ta48] at z; exact absurd z (by decide)))
    refine tr_aload_n dX12_readSlice_61 rfl ?_
    refine tr_getR dX12_readSlice_62 fl12_188 (kR15 hS51.1 ta0) d2 ?_
    refine tr_dup dX12_readSlice_65 rfl ?_
    refine q_getI dX12_readSlice_66 fl12_370 (kR14 hS51.1 ta1) c54 ?_
    refine q_iconst dX12_readSlice_69 (by decide) ?_
    intro v57 h58
    refine q_iaddE dX12_readSlice_70 (by intros; omega) ?_
    intro v59 h60
    refine q_putI dX12_readSlice_71 fl12_370 (kR14 hS51.1 ta1) (Or.inl rfl) hS51 ta1 (by show (0 : Int) ≤ v59.toInt ∧ v59.toInt ≤ (4 : Int); omega) rfl (by decide +kernel) ?_
    intro I61 hS62 e63 f64
    have c65 : I61 a0 9 = v41 := (f64 _ _ (fun q => absurd q.2 (by decide))).trans c55
    have w66 : RdI a0 I0 I61 := w56.keep (f64 _ _ (fun q => absurd q.2 (by decide))) (f64 _ _ (fun q => absurd q.2 (by decide))) (f64 _ _ (fun q => absurd q.2 (by decide)))
    exact tr_vret hZ dX12_readSlice_74 rfl (by decide) (by decide) ⟨rfl, rfl, rfl, rfl, rfl, hS62, w66, trivial⟩
  · skip
    exact tr_vret hZ dX12_readSlice_44 rfl (by decide) (by decide) ⟨rfl, rfl, rfl, rfl, rfl, hS37, w39, trivial⟩
set_option maxHeartbeats 4000000 in
theorem k_X12_isName {l : Launch} {T : Nat → Nat} {cn : Nat} {K N : Nat → Nat} {I0 : cz_I} {R0 : cz_R} {L0 : cz_L} {d : Int} (hW0 : Wf T cn K N I0 R0 d) {a0 : Nat} (ta0 : T a0 = 15) : ConE l mX12_isName [.ref a0] cn K N I0 R0 L0 (ca_i (fun v cn' K' N' I' R' L' => cn = cn' ∧ K = K' ∧ N = N' ∧ I0 = I' ∧ R0 = R' ∧ L0 = L' ∧ (0 ≤ v.toInt ∧ v.toInt ≤ 1) ∧ True)) := by
  refine ConE.of (by decide +kernel) rfl (Nat.le_of_ble_eq_true rfl) rfl (fun X hX hZ hE => ?_)
  subst hX
  refine tr_aload_n dX12_isName_0 rfl ?_
  obtain ⟨v1, c2⟩ : ∃ v, I0 a0 9 = v := ⟨_, rfl⟩
  have b3 := iv15_9 hW0 ta0 c2
  refine q_getI dX12_isName_1 fl12_99 (kR15 hW0 ta0) c2 ?_
  refine q_iconst dX12_isName_4 (by decide) ?_
  intro v4 h5
  refine q_icmp_ne 62 dX12_isName_5 (by decide) (fun h6 => ?_) (fun h6 => ?_)
  · skip
    refine q_iconst dX12_isName_62 (by decide) ?_
    intro v7 h8
    exact tr_zret hZ dX12_isName_63 rfl (ti_b01 (by omega) (by omega)) (by decide) (by decide) ⟨v7, rfl, rfl, rfl, rfl, rfl, rfl, rfl, (by omega), trivial⟩
  · skip
    refine tr_aload_n dX12_isName_8 rfl ?_
    refine tr_ldcS dX12_isName_9 ld12_164 ?_
    refine q_callVi hE (M' := mX12_isWord) (as := [_]) dX12_isName_11 lk12_138 inX12_isWord seX12_isWord myX12_isWord (by decide) ⟨by decide, by decide⟩ rfl (kR15 hW0 ta0) (Nat.le_of_ble_eq_true rfl) rfl rfl (by decide) (by decide) (k_X12_isWord hW0 ta0 (by decide)) ?_
    rintro v13 cn' K' N' I9 R10 L11 ⟨rfl, rfl, rfl, rfl, rfl, rfl, h14, p15, -⟩
    rw [c2] at p15
    refine q_if_ne 62 dX12_isName_14 (by decide) (fun h16 => ?_) (fun h16 => ?_)
    · skip
      refine q_iconst dX12_isName_62 (by decide) ?_
      intro v17 h18
      exact tr_zret hZ dX12_isName_63 rfl (ti_b01 (by omega) (by omega)) (by decide) (by decide) ⟨v17, rfl, rfl, rfl, rfl, rfl, rfl, rfl, (by omega), trivial⟩
    · skip
      refine tr_aload_n dX12_isName_17 rfl ?_
      refine tr_ldcS dX12_isName_18 ld12_166 ?_
      refine q_callVi hE (M' := mX12_isWord) (as := [_]) dX12_isName_20 lk12_138 inX12_isWord seX12_isWord myX12_isWord (by decide) ⟨by decide, by decide⟩ rfl (kR15 hW0 ta0) (Nat.le_of_ble_eq_true rfl) rfl rfl (by decide) (by decide) (k_X12_isWord hW0 ta0 (by decide)) ?_
      rintro v23 cn' K' N' I19 R20 L21 ⟨rfl, rfl, rfl, rfl, rfl, rfl, h24, p25, -⟩
      rw [c2] at p25
      refine q_if_ne 62 dX12_isName_23 (by decide) (fun h26 => ?_) (fun h26 => ?_)
      · skip
        refine q_iconst dX12_isName_62 (by decide) ?_
        intro v27 h28
        exact tr_zret hZ dX12_isName_63 rfl (ti_b01 (by omega) (by omega)) (by decide) (by decide) ⟨v27, rfl, rfl, rfl, rfl, rfl, rfl, rfl, (by omega), trivial⟩
      · skip
        refine tr_aload_n dX12_isName_26 rfl ?_
        refine tr_ldcS dX12_isName_27 ld12_168 ?_
        refine q_callVi hE (M' := mX12_isWord) (as := [_]) dX12_isName_29 lk12_138 inX12_isWord seX12_isWord myX12_isWord (by decide) ⟨by decide, by decide⟩ rfl (kR15 hW0 ta0) (Nat.le_of_ble_eq_true rfl) rfl rfl (by decide) (by decide) (k_X12_isWord hW0 ta0 (by decide)) ?_
        rintro v33 cn' K' N' I29 R30 L31 ⟨rfl, rfl, rfl, rfl, rfl, rfl, h34, p35, -⟩
        rw [c2] at p35
        refine q_if_ne 62 dX12_isName_32 (by decide) (fun h36 => ?_) (fun h36 => ?_)
        · skip
          refine q_iconst dX12_isName_62 (by decide) ?_
          intro v37 h38
          exact tr_zret hZ dX12_isName_63 rfl (ti_b01 (by omega) (by omega)) (by decide) (by decide) ⟨v37, rfl, rfl, rfl, rfl, rfl, rfl, rfl, (by omega), trivial⟩
        · skip
          refine tr_aload_n dX12_isName_35 rfl ?_
          refine tr_ldcS dX12_isName_36 ld12_170 ?_
          refine q_callVi hE (M' := mX12_isWord) (as := [_]) dX12_isName_38 lk12_138 inX12_isWord seX12_isWord myX12_isWord (by decide) ⟨by decide, by decide⟩ rfl (kR15 hW0 ta0) (Nat.le_of_ble_eq_true rfl) rfl rfl (by decide) (by decide) (k_X12_isWord hW0 ta0 (by decide)) ?_
          rintro v43 cn' K' N' I39 R40 L41 ⟨rfl, rfl, rfl, rfl, rfl, rfl, h44, p45, -⟩
          rw [c2] at p45
          refine q_if_ne 62 dX12_isName_41 (by decide) (fun h46 => ?_) (fun h46 => ?_)
          · skip
            refine q_iconst dX12_isName_62 (by decide) ?_
            intro v47 h48
            exact tr_zret hZ dX12_isName_63 rfl (ti_b01 (by omega) (by omega)) (by decide) (by decide) ⟨v47, rfl, rfl, rfl, rfl, rfl, rfl, rfl, (by omega), trivial⟩
          · skip
            refine tr_aload_n dX12_isName_44 rfl ?_
            refine tr_ldcS dX12_isName_45 ld12_172 ?_
            refine q_callVi hE (M' := mX12_isWord) (as := [_]) dX12_isName_47 lk12_138 inX12_isWord seX12_isWord myX12_isWord (by decide) ⟨by decide, by decide⟩ rfl (kR15 hW0 ta0) (Nat.le_of_ble_eq_true rfl) rfl rfl (by decide) (by decide) (k_X12_isWord hW0 ta0 (by decide)) ?_
            rintro v53 cn' K' N' I49 R50 L51 ⟨rfl, rfl, rfl, rfl, rfl, rfl, h54, p55, -⟩
            rw [c2] at p55
            refine q_if_ne 62 dX12_isName_50 (by decide) (fun h56 => ?_) (fun h56 => ?_)
            · skip
              refine q_iconst dX12_isName_62 (by decide) ?_
              intro v57 h58
              exact tr_zret hZ dX12_isName_63 rfl (ti_b01 (by omega) (by omega)) (by decide) (by decide) ⟨v57, rfl, rfl, rfl, rfl, rfl, rfl, rfl, (by omega), trivial⟩
            · skip
              refine tr_aload_n dX12_isName_53 rfl ?_
              refine tr_ldcS dX12_isName_54 ld12_174 ?_
              refine q_callVi hE (M' := mX12_isWord) (as := [_]) dX12_isName_56 lk12_138 inX12_isWord seX12_isWord myX12_isWord (by decide) ⟨by decide, by decide⟩ rfl (kR15 hW0 ta0) (Nat.le_of_ble_eq_true rfl) rfl rfl (by decide) (by decide) (k_X12_isWord hW0 ta0 (by decide)) ?_
              rintro v63 cn' K' N' I59 R60 L61 ⟨rfl, rfl, rfl, rfl, rfl, rfl, h64, p65, -⟩
              rw [c2] at p65
              refine q_if_eq 64 dX12_isName_59 (by decide) (fun h66 => ?_) (fun h66 => ?_)
              · skip
                refine tr_aload_n dX12_isName_64 rfl ?_
                refine tr_ldcS dX12_isName_65 ld12_176 ?_
                refine q_callVi hE (M' := mX12_isWord) (as := [_]) dX12_isName_67 lk12_138 inX12_isWord seX12_isWord myX12_isWord (by decide) ⟨by decide, by decide⟩ rfl (kR15 hW0 ta0) (Nat.le_of_ble_eq_true rfl) rfl rfl (by decide) (by decide) (k_X12_isWord hW0 ta0 (by decide)) ?_
                rintro v71 cn' K' N' I67 R68 L69 ⟨rfl, rfl, rfl, rfl, rfl, rfl, h72, p73, -⟩
                rw [c2] at p73
                refine q_if_ne 122 dX12_isName_70 (by decide) (fun h74 => ?_) (fun h74 => ?_)
                · skip
                  refine q_iconst dX12_isName_122 (by decide) ?_
                  intro v75 h76
                  exact tr_zret hZ dX12_isName_123 rfl (ti_b01 (by omega) (by omega)) (by decide) (by decide) ⟨v75, rfl, rfl, rfl, rfl, rfl, rfl, rfl, (by omega), trivial⟩
                · skip
                  refine tr_aload_n dX12_isName_73 rfl ?_
                  refine tr_ldcS dX12_isName_74 ld12_178 ?_
                  refine q_callVi hE (M' := mX12_isWord) (as := [_]) dX12_isName_76 lk12_138 inX12_isWord seX12_isWord myX12_isWord (by decide) ⟨by decide, by decide⟩ rfl (kR15 hW0 ta0) (Nat.le_of_ble_eq_true rfl) rfl rfl (by decide) (by decide) (k_X12_isWord hW0 ta0 (by decide)) ?_
                  rintro v81 cn' K' N' I77 R78 L79 ⟨rfl, rfl, rfl, rfl, rfl, rfl, h82, p83, -⟩
                  rw [c2] at p83
                  refine q_if_ne 122 dX12_isName_79 (by decide) (fun h84 => ?_) (fun h84 => ?_)
                  · skip
                    refine q_iconst dX12_isName_122 (by decide) ?_
                    intro v85 h86
                    exact tr_zret hZ dX12_isName_123 rfl (ti_b01 (by omega) (by omega)) (by decide) (by decide) ⟨v85, rfl, rfl, rfl, rfl, rfl, rfl, rfl, (by omega), trivial⟩
                  · skip
                    refine tr_aload_n dX12_isName_82 rfl ?_
                    refine tr_ldcS dX12_isName_83 ld12_180 ?_
                    refine q_callVi hE (M' := mX12_isWord) (as := [_]) dX12_isName_85 lk12_138 inX12_isWord seX12_isWord myX12_isWord (by decide) ⟨by decide, by decide⟩ rfl (kR15 hW0 ta0) (Nat.le_of_ble_eq_true rfl) rfl rfl (by decide) (by decide) (k_X12_isWord hW0 ta0 (by decide)) ?_
                    rintro v91 cn' K' N' I87 R88 L89 ⟨rfl, rfl, rfl, rfl, rfl, rfl, h92, p93, -⟩
                    rw [c2] at p93
                    refine q_if_ne 122 dX12_isName_88 (by decide) (fun h94 => ?_) (fun h94 => ?_)
                    · skip
                      refine q_iconst dX12_isName_122 (by decide) ?_
                      intro v95 h96
                      exact tr_zret hZ dX12_isName_123 rfl (ti_b01 (by omega) (by omega)) (by decide) (by decide) ⟨v95, rfl, rfl, rfl, rfl, rfl, rfl, rfl, (by omega), trivial⟩
                    · skip
                      refine tr_aload_n dX12_isName_91 rfl ?_
                      refine tr_ldcS dX12_isName_92 ld12_182 ?_
                      refine q_callVi hE (M' := mX12_isWord) (as := [_]) dX12_isName_94 lk12_138 inX12_isWord seX12_isWord myX12_isWord (by decide) ⟨by decide, by decide⟩ rfl (kR15 hW0 ta0) (Nat.le_of_ble_eq_true rfl) rfl rfl (by decide) (by decide) (k_X12_isWord hW0 ta0 (by decide)) ?_
                      rintro v101 cn' K' N' I97 R98 L99 ⟨rfl, rfl, rfl, rfl, rfl, rfl, h102, p103, -⟩
                      rw [c2] at p103
                      refine q_if_ne 122 dX12_isName_97 (by decide) (fun h104 => ?_) (fun h104 => ?_)
                      · skip
                        refine q_iconst dX12_isName_122 (by decide) ?_
                        intro v105 h106
                        exact tr_zret hZ dX12_isName_123 rfl (ti_b01 (by omega) (by omega)) (by decide) (by decide) ⟨v105, rfl, rfl, rfl, rfl, rfl, rfl, rfl, (by omega), trivial⟩
                      · skip
                        refine tr_aload_n dX12_isName_100 rfl ?_
                        refine tr_ldcS dX12_isName_101 ld12_184 ?_
                        refine q_callVi hE (M' := mX12_isWord) (as := [_]) dX12_isName_103 lk12_138 inX12_isWord seX12_isWord myX12_isWord (by decide) ⟨by decide, by decide⟩ rfl (kR15 hW0 ta0) (Nat.le_of_ble_eq_true rfl) rfl rfl (by decide) (by decide) (k_X12_isWord hW0 ta0 (by decide)) ?_
                        rintro v111 cn' K' N' I107 R108 L109 ⟨rfl, rfl, rfl, rfl, rfl, rfl, h112, p113, -⟩
                        rw [c2] at p113
                        refine q_if_ne 122 dX12_isName_106 (by decide) (fun h114 => ?_) (fun h114 => ?_)
                        · skip
                          refine q_iconst dX12_isName_122 (by decide) ?_
                          intro v115 h116
                          exact tr_zret hZ dX12_isName_123 rfl (ti_b01 (by omega) (by omega)) (by decide) (by decide) ⟨v115, rfl, rfl, rfl, rfl, rfl, rfl, rfl, (by omega), trivial⟩
                        · skip
                          refine tr_aload_n dX12_isName_109 rfl ?_
                          refine tr_ldcS dX12_isName_110 ld12_186 ?_
                          refine q_callVi hE (M' := mX12_isWord) (as := [_]) dX12_isName_112 lk12_138 inX12_isWord seX12_isWord myX12_isWord (by decide) ⟨by decide, by decide⟩ rfl (kR15 hW0 ta0) (Nat.le_of_ble_eq_true rfl) rfl rfl (by decide) (by decide) (k_X12_isWord hW0 ta0 (by decide)) ?_
                          rintro v121 cn' K' N' I117 R118 L119 ⟨rfl, rfl, rfl, rfl, rfl, rfl, h122, p123, -⟩
                          rw [c2] at p123
                          refine q_if_ne 122 dX12_isName_115 (by decide) (fun h124 => ?_) (fun h124 => ?_)
                          · skip
                            refine q_iconst dX12_isName_122 (by decide) ?_
                            intro v125 h126
                            exact tr_zret hZ dX12_isName_123 rfl (ti_b01 (by omega) (by omega)) (by decide) (by decide) ⟨v125, rfl, rfl, rfl, rfl, rfl, rfl, rfl, (by omega), trivial⟩
                          · skip
                            refine q_iconst dX12_isName_118 (by decide) ?_
                            intro v127 h128
                            refine tr_goto 123 dX12_isName_119 (by decide) ?_
                            exact tr_zret hZ dX12_isName_123 rfl (ti_b01 (by omega) (by omega)) (by decide) (by decide) ⟨v127, rfl, rfl, rfl, rfl, rfl, rfl, rfl, (by omega), trivial⟩
              · skip
                refine q_iconst dX12_isName_62 (by decide) ?_
                intro v129 h130
                exact tr_zret hZ dX12_isName_63 rfl (ti_b01 (by omega) (by omega)) (by decide) (by decide) ⟨v129, rfl, rfl, rfl, rfl, rfl, rfl, rfl, (by omega), trivial⟩
set_option maxHeartbeats 4000000 in
theorem k_X11_find {l : Launch} {T : Nat → Nat} {cn : Nat} {K N : Nat → Nat} {I0 : cz_I} {R0 : cz_R} {L0 : cz_L} {d : Int} (hW0 : Wf T cn K N I0 R0 d) {a0 : Nat} (ta0 : T a0 = 14) {y1 : Int64} : ConE l mX11_find [.ref a0, .long y1] cn K N I0 R0 L0 (ca_i (fun v cn' K' N' I' R' L' => cn = cn' ∧ K = K' ∧ N = N' ∧ I0 = I' ∧ R0 = R' ∧ L0 = L' ∧ ((-1) ≤ v.toInt ∧ v.toInt ≤ 12) ∧ True)) := by
  refine ConE.of (by decide +kernel) rfl (Nat.le_of_ble_eq_true rfl) rfl (fun X hX hZ hE => ?_)
  subst hX
  refine q_iconst dX11_find_0 (by decide) ?_
  intro v1 h2
  refine tr_istore_n dX11_find_1 (by decide) (by decide) ?_
  have lp8 : ∀ (fu : Nat) (ls : Nat → Option Value) (v3 : Int32), ls 0 = some (.ref a0) → ls 1 = some (.long y1) → ls 3 = some (.int v3) → 0 ≤ v3.toInt → (-v3.toInt + 2147483647).toNat < fu → Tr X mX11_find 2 ls [] cn K N I0 R0 L0 0 0 := by
    intro fu
    induction fu with
    | zero => intros; rename_i hz; exact absurd hz (Nat.not_lt_zero _)
    | succ fu ih8 =>
      intro ls v3 hl4 hl5 hl6 g7 hm8
      refine tr_iload_n dX11_find_2 hl6 ?_
      refine tr_aload_n dX11_find_3 hl4 ?_
      obtain ⟨v10, c11⟩ : ∃ v, I0 a0 7 = v := ⟨_, rfl⟩
      have b12 := iv14_7 hW0 ta0 c11
      refine q_getI dX11_find_4 fl11_83 (kR14 hW0 ta0) c11 ?_
      refine q_icmp_ge 29 dX11_find_7 (by decide) (fun h13 => ?_) (fun h13 => ?_)
      · skip
        refine q_iconst dX11_find_29 (by decide) ?_
        intro v14 h15
        exact tr_iret hZ dX11_find_30 rfl (by decide) (by decide) ⟨v14, rfl, rfl, rfl, rfl, rfl, rfl, rfl, (by omega), trivial⟩
      · skip
        refine tr_aload_n dX11_find_10 hl4 ?_
        obtain ⟨a16, d17, ta16⟩ := rf14_30 hW0 ta0
        refine tr_getR dX11_find_11 fl11_73 (kR14 hW0 ta0) d17 ?_
        refine tr_iload_n dX11_find_14 hl6 ?_
        refine q_lald dX11_find_15 (kR73 hW0 ta16) (ti_in (nR73 hW0 ta16) (by omega) (by omega)) ?_
        intro y18
        refine tr_lload_n dX11_find_16 hl5 ?_
        refine q_lcmp dX11_find_17 ?_
        intro v19
        refine q_if_ne 23 dX11_find_18 (by decide) (fun h20 => ?_) (fun h20 => ?_)
        · skip
          refine q_iincE dX11_find_23 hl6 (by decide) (by decide) (by intros; omega) ?_
          intro v21 h22
          refine tr_goto 2 dX11_find_26 (by decide) ?_
          exact ih8 _ v21 hl4 hl5 rfl (by omega) (by omega)
        · skip
          refine tr_iload_n dX11_find_21 hl6 ?_
          exact tr_iret hZ dX11_find_22 rfl (by decide) (by decide) ⟨v3, rfl, rfl, rfl, rfl, rfl, rfl, rfl, (by omega), trivial⟩
  exact lp8 _ _ v1 rfl rfl rfl (by omega) (Nat.lt_succ_self _)
def wi_X12_needs : List Nat := [968, 969, 970, 971, 972, 973, 974]
def wr_X12_needs : List Nat := []
set_option maxHeartbeats 4000000 in
theorem k_X12_needs {l : Launch} {T : Nat → Nat} {cn : Nat} {K N : Nat → Nat} {I0 : cz_I} {R0 : cz_R} {L0 : cz_L} {d : Int} (hW0 : Wf T cn K N I0 R0 d) {a0 : Nat} (ta0 : T a0 = 15) {u1 : UInt32} (hu1 : u1.toNat < cz_NS) : ConE l mX12_needs [.ref a0, .float u1] cn K N I0 R0 L0 (ca_v (fun cn' K' N' I' R' L' => cn = cn' ∧ K = K' ∧ N = N' ∧ R0 = R' ∧ St T cn K N d wi_X12_needs wr_X12_needs I0 R0 I' R0 ∧ RdI a0 I0 I' ∧ True)) := by
  refine ConE.of (by decide +kernel) rfl (Nat.le_of_ble_eq_true rfl) rfl (fun X hX hZ hE => ?_)
  subst hX
  have hS0 : St T cn K N d wi_X12_needs wr_X12_needs I0 R0 I0 R0 := St.rf0 hW0
  refine tr_aload_n dX12_needs_0 rfl ?_
  refine tr_aload_nS dX12_needs_1 rfl ?_
  obtain ⟨v1, c2⟩ : ∃ v, I0 a0 9 = v := ⟨_, rfl⟩
  have b3 := iv15_9 hS0.1 ta0 c2
  refine q_callVi hE (M' := mX12_isWord) (as := [_]) dX12_needs_2 lk12_138 inX12_isWord seX12_isWord myX12_isWord (by decide) ⟨by decide, by decide⟩ rfl (kR15 hS0.1 ta0) (Nat.le_of_ble_eq_true rfl) rfl rfl (by decide) (by decide) (k_X12_isWord hS0.1 ta0 hu1) ?_
  rintro v8 cn' K' N' I4 R5 L6 ⟨rfl, rfl, rfl, rfl, rfl, rfl, h9, p10, -⟩
  rw [c2] at p10
  refine q_if_ne 13 dX12_needs_5 (by decide) (fun h11 => ?_) (fun h11 => ?_)
  · skip
    refine tr_aload_n dX12_needs_13 rfl ?_
    obtain ⟨v12, c13⟩ : ∃ v, I0 a0 8 = v := ⟨_, rfl⟩
    have b14 := iv15_8 hS0.1 ta0 c13
    obtain ⟨v15, c16⟩ : ∃ v, I0 a0 13 = v := ⟨_, rfl⟩
    refine q_callVv hE (M' := mX12_goesOn) (as := []) dX12_needs_14 lk12_142 inX12_goesOn seX12_goesOn myX12_goesOn (by decide) ⟨by decide, by decide⟩ rfl (kR15 hS0.1 ta0) (Nat.le_of_ble_eq_true rfl) rfl rfl (by decide) (by decide) (k_X12_goesOn hS0.1 ta0) ?_
    rintro cn' K' N' I17 R18 L19 ⟨rfl, rfl, rfl, rfl, g20, p22, p23, w24, -⟩
    have hS25 := hS0.tr g20 (by decide +kernel) (by decide +kernel)
    have c26 : I17 a0 13 = v15 := (g20.cell ta0 (by decide +kernel)).trans c16
    have w27 : RdI a0 I0 I17 := (EwI.rf a0 I0).rd w24
    obtain ⟨v28, c29⟩ : ∃ v, I17 a0 9 = v := ⟨_, rfl⟩
    have b30 := iv15_9 hS25.1 ta0 c29
    rw [c2] at p22
    rw [c29] at p22
    obtain ⟨v31, c32⟩ : ∃ v, I17 a0 8 = v := ⟨_, rfl⟩
    have b33 := iv15_8 hS25.1 ta0 c32
    rw [c32] at p23
    rw [c13] at p23
    rw [c26] at p23
    rw [c16] at p23
    exact tr_vret hZ dX12_needs_17 rfl (by decide) (by decide) ⟨rfl, rfl, rfl, rfl, rfl, hS25, w27, trivial⟩
  · skip
    refine tr_aload_n dX12_needs_8 rfl ?_
    refine q_iconst dX12_needs_9 (by decide) ?_
    intro v34 h35
    obtain ⟨v36, c37⟩ : ∃ v, I0 a0 8 = v := ⟨_, rfl⟩
    have b38 := iv15_8 hS0.1 ta0 c37
    refine q_callVv hE (M' := mX12_flaw) (as := [_]) dX12_needs_10 lk12_145 inX12_flaw seX12_flaw myX12_flaw (by decide) ⟨by decide, by decide⟩ rfl (kR15 hS0.1 ta0) (Nat.le_of_ble_eq_true rfl) rfl rfl (by decide) (by decide) (k_X12_flaw hS0.1 ta0 (by omega)) ?_
    rintro cn' K' N' I39 R40 L41 ⟨rfl, rfl, rfl, rfl, rfl, g42, p44, p45, w46, -⟩
    have hS47 := hS0.tr g42 (by decide +kernel) (by decide +kernel)
    have c48 : I39 a0 8 = v36 := (g42.cell ta0 (by decide +kernel)).trans c37
    have w49 : RdI a0 I0 I39 := (EwI.rf a0 I0).rd w46
    obtain ⟨v50, c51⟩ : ∃ v, I39 a0 9 = v := ⟨_, rfl⟩
    have b52 := iv15_9 hS47.1 ta0 c51
    rw [c51] at p44
    rw [c48] at p45
    rw [c37] at p45
    refine tr_aload_n dX12_needs_13 rfl ?_
    obtain ⟨v53, c54⟩ : ∃ v, I39 a0 13 = v := ⟨_, rfl⟩
    refine q_callVv hE (M' := mX12_goesOn) (as := []) dX12_needs_14 lk12_142 inX12_goesOn seX12_goesOn myX12_goesOn (by decide) ⟨by decide, by decide⟩ rfl (kR15 hS47.1 ta0) (Nat.le_of_ble_eq_true rfl) rfl rfl (by decide) (by decide) (k_X12_goesOn hS47.1 ta0) ?_
    rintro cn' K' N' I55 R56 L57 ⟨rfl, rfl, rfl, rfl, g58, p60, p61, w62, -⟩
    have hS63 := hS47.tr g58 (by decide +kernel) (by decide +kernel)
    have c64 : I55 a0 13 = v53 := (g58.cell ta0 (by decide +kernel)).trans c54
    have w65 : RdI a0 I0 I55 := w49.rd w62
    obtain ⟨v66, c67⟩ : ∃ v, I55 a0 9 = v := ⟨_, rfl⟩
    have b68 := iv15_9 hS63.1 ta0 c67
    rw [c51] at p60
    rw [c67] at p60
    obtain ⟨v69, c70⟩ : ∃ v, I55 a0 8 = v := ⟨_, rfl⟩
    have b71 := iv15_8 hS63.1 ta0 c70
    rw [c70] at p61
    rw [c48] at p61
    rw [c64] at p61
    rw [c54] at p61
    exact tr_vret hZ dX12_needs_17 rfl (by decide) (by decide) ⟨rfl, rfl, rfl, rfl, rfl, hS63, w65, trivial⟩
def wi_X12_readWhole : List Nat := [968, 969, 970, 971, 972, 973, 974]
def wr_X12_readWhole : List Nat := []
set_option maxHeartbeats 4000000 in
theorem k_X12_readWhole {l : Launch} {T : Nat → Nat} {cn : Nat} {K N : Nat → Nat} {I0 : cz_I} {R0 : cz_R} {L0 : cz_L} {d : Int} (hW0 : Wf T cn K N I0 R0 d) {a0 : Nat} (ta0 : T a0 = 15) {x1 : Int32} {x2 : Int32} : ConE l mX12_readWhole [.ref a0, .int x1, .int x2] cn K N I0 R0 L0 (ca_i (fun v cn' K' N' I' R' L' => cn = cn' ∧ K = K' ∧ N = N' ∧ R0 = R' ∧ St T cn K N d wi_X12_readWhole wr_X12_readWhole I0 R0 I' R0 ∧ ((v.toInt = x1.toInt ∨ (x1.toInt ≤ v.toInt ∧ v.toInt ≤ x2.toInt))) ∧ RdI a0 I0 I' ∧ True)) := by
  refine ConE.of (by decide +kernel) rfl (Nat.le_of_ble_eq_true rfl) rfl (fun X hX hZ hE => ?_)
  subst hX
  have hS0 : St T cn K N d wi_X12_readWhole wr_X12_readWhole I0 R0 I0 R0 := St.rf0 hW0
  refine tr_aload_n dX12_readWhole_0 rfl ?_
  refine tr_iload_n dX12_readWhole_1 rfl ?_
  refine tr_iload_n dX12_readWhole_2 rfl ?_
  refine q_callVi hE (M' := mX12_bounded) (as := [_, _]) dX12_readWhole_3 lk12_153 inX12_bounded seX12_bounded myX12_bounded (by decide) ⟨by decide, by decide⟩ rfl (kR15 hS0.1 ta0) (Nat.le_of_ble_eq_true rfl) rfl rfl (by decide) (by decide) (k_X12_bounded hS0.1 ta0) ?_
  rintro v5 cn' K' N' I1 R2 L3 ⟨rfl, rfl, rfl, rfl, rfl, g4, p6, p7, w8, -⟩
  have hS9 := hS0.tr g4 (by decide +kernel) (by decide +kernel)
  have w10 : EwI a0 I0 I1 := (EwI.rf a0 I0).ew w8
  obtain ⟨v11, c12⟩ : ∃ v, I1 a0 9 = v := ⟨_, rfl⟩
  have b13 := iv15_9 hS9.1 ta0 c12
  have gd14 : Gd (I1 a0 9) ((x1.toInt ≤ v5.toInt ∧ v5.toInt ≤ x2.toInt)) := p7
  clear p7
  refine tr_istore_n dX12_readWhole_6 (by decide) (by decide) ?_
  refine tr_aload_n dX12_readWhole_7 rfl ?_
  obtain ⟨v15, c16⟩ : ∃ v, I1 a0 8 = v := ⟨_, rfl⟩
  have b17 := iv15_8 hS9.1 ta0 c16
  obtain ⟨v18, c19⟩ : ∃ v, I1 a0 13 = v := ⟨_, rfl⟩
  refine q_callVv hE (M' := mX12_goesOn) (as := []) dX12_readWhole_8 lk12_142 inX12_goesOn seX12_goesOn myX12_goesOn (by decide) ⟨by decide, by decide⟩ rfl (kR15 hS9.1 ta0) (Nat.le_of_ble_eq_true rfl) rfl rfl (by decide) (by decide) (k_X12_goesOn hS9.1 ta0) ?_
  rintro cn' K' N' I20 R21 L22 ⟨rfl, rfl, rfl, rfl, g23, p25, p26, w27, -⟩
  have hS28 := hS9.tr g23 (by decide +kernel) (by decide +kernel)
  have c29 : I20 a0 13 = v18 := (g23.cell ta0 (by decide +kernel)).trans c19
  have w30 : RdI a0 I0 I20 := w10.rd w27
  have gd31 := Gd.go gd14 w27.stick
  obtain ⟨v32, c33⟩ : ∃ v, I20 a0 9 = v := ⟨_, rfl⟩
  have b34 := iv15_9 hS28.1 ta0 c33
  rw [c12] at p25
  rw [c33] at p25
  obtain ⟨v35, c36⟩ : ∃ v, I20 a0 8 = v := ⟨_, rfl⟩
  have b37 := iv15_8 hS28.1 ta0 c36
  rw [c36] at p26
  rw [c16] at p26
  rw [c29] at p26
  rw [c19] at p26
  refine tr_iload_n dX12_readWhole_11 rfl ?_
  exact tr_iret hZ dX12_readWhole_12 rfl (by decide) (by decide) ⟨v5, rfl, rfl, rfl, rfl, rfl, hS28, (by omega), w30, trivial⟩
def wi_X12_readPart : List Nat := [968, 969, 970, 971, 972, 973, 974]
def wr_X12_readPart : List Nat := []
set_option maxHeartbeats 4000000 in
theorem k_X12_readPart {l : Launch} {T : Nat → Nat} {cn : Nat} {K N : Nat → Nat} {I0 : cz_I} {R0 : cz_R} {L0 : cz_L} {d : Int} (hW0 : Wf T cn K N I0 R0 d) {a0 : Nat} (ta0 : T a0 = 15) {u1 : UInt32} (hu1 : u1.toNat < cz_NS) {x2 : Int32} {x3 : Int32} : ConE l mX12_readPart [.ref a0, .float u1, .int x2, .int x3] cn K N I0 R0 L0 (ca_i (fun v cn' K' N' I' R' L' => cn = cn' ∧ K = K' ∧ N = N' ∧ R0 = R' ∧ St T cn K N d wi_X12_readPart wr_X12_readPart I0 R0 I' R0 ∧ ((v.toInt = x2.toInt ∨ (x2.toInt ≤ v.toInt ∧ v.toInt ≤ x3.toInt))) ∧ RdI a0 I0 I' ∧ True)) := by
  refine ConE.of (by decide +kernel) rfl (Nat.le_of_ble_eq_true rfl) rfl (fun X hX hZ hE => ?_)
  subst hX
  have hS0 : St T cn K N d wi_X12_readPart wr_X12_readPart I0 R0 I0 R0 := St.rf0 hW0
  refine tr_aload_n dX12_readPart_0 rfl ?_
  refine tr_aload_nS dX12_readPart_1 rfl ?_
  refine q_callVv hE (M' := mX12_needs) (as := [_]) dX12_readPart_2 lk12_157 inX12_needs seX12_needs myX12_needs (by decide) ⟨by decide, by decide⟩ rfl (kR15 hS0.1 ta0) (Nat.le_of_ble_eq_true rfl) rfl rfl (by decide) (by decide) (k_X12_needs hS0.1 ta0 hu1) ?_
  rintro cn' K' N' I1 R2 L3 ⟨rfl, rfl, rfl, rfl, g4, w6, -⟩
  have hS7 := hS0.tr g4 (by decide +kernel) (by decide +kernel)
  have w8 : RdI a0 I0 I1 := (EwI.rf a0 I0).rd w6
  refine tr_aload_n dX12_readPart_5 rfl ?_
  refine tr_iload_n dX12_readPart_6 rfl ?_
  refine tr_iload_n dX12_readPart_7 rfl ?_
  refine q_callVi hE (M' := mX12_readWhole) (as := [_, _]) dX12_readPart_8 lk12_161 inX12_readWhole seX12_readWhole myX12_readWhole (by decide) ⟨by decide, by decide⟩ rfl (kR15 hS7.1 ta0) (Nat.le_of_ble_eq_true rfl) rfl rfl (by decide) (by decide) (k_X12_readWhole hS7.1 ta0) ?_
  rintro v13 cn' K' N' I9 R10 L11 ⟨rfl, rfl, rfl, rfl, g12, p14, w15, -⟩
  have hS16 := hS7.tr g12 (by decide +kernel) (by decide +kernel)
  have w17 : RdI a0 I0 I9 := w8.rd w15
  exact tr_iret hZ dX12_readPart_11 rfl (by decide) (by decide) ⟨v13, rfl, rfl, rfl, rfl, rfl, hS16, (by omega), w17, trivial⟩
def wi_X12_readCall : List Nat := [901, 968, 969, 970, 971, 972, 973, 974, 4479, 4543, 4607, 4671]
def wr_X12_readCall : List Nat := []
set_option maxHeartbeats 4000000 in
theorem k_X12_readCall {l : Launch} {T : Nat → Nat} {cn : Nat} {K N : Nat → Nat} {I0 : cz_I} {R0 : cz_R} {L0 : cz_L} {d : Int} (hW0 : Wf T cn K N I0 R0 d) {a0 : Nat} (ta0 : T a0 = 15) (nn4 : ∃ b, R0 a0 4 = some b) : ConE l mX12_readCall [.ref a0] cn K N I0 R0 L0 (ca_v (fun cn' K' N' I' R' L' => cn = cn' ∧ K = K' ∧ N = N' ∧ R0 = R' ∧ St T cn K N d wi_X12_readCall wr_X12_readCall I0 R0 I' R0 ∧ RdI a0 I0 I' ∧ True)) := by
  refine ConE.of (by decide +kernel) rfl (Nat.le_of_ble_eq_true rfl) rfl (fun X hX hZ hE => ?_)
  subst hX
  have hS0 : St T cn K N d wi_X12_readCall wr_X12_readCall I0 R0 I0 R0 := St.rf0 hW0
  obtain ⟨a1, d2⟩ := nn4
  have ta1 : T a1 = 14 := hW0.rsN ta0 rfl d2
  refine tr_aload_n dX12_readCall_0 rfl ?_
  refine tr_aload_n dX12_readCall_1 rfl ?_
  refine tr_getR dX12_readCall_2 fl12_188 (kR15 hS0.1 ta0) d2 ?_
  obtain ⟨v3, c4⟩ : ∃ v, I0 a1 5 = v := ⟨_, rfl⟩
  have b5 := iv14_5 hS0.1 ta1 c4
  refine q_getI dX12_readCall_5 fl12_349 (kR14 hS0.1 ta1) c4 ?_
  refine q_bipush dX12_readCall_8 (by decide +kernel) ?_
  intro v6 h7
  refine q_callVv hE (M' := mX12_begins) (as := [_, _]) dX12_readCall_10 lk12_268 inX12_begins seX12_begins myX12_begins (by decide) ⟨by decide, by decide⟩ rfl (kR15 hS0.1 ta0) (Nat.le_of_ble_eq_true rfl) rfl rfl (by decide) (by decide) (k_X12_begins hS0.1 ta0 ⟨_, d2⟩) ?_
  rintro cn' K' N' I8 R9 L10 ⟨rfl, rfl, rfl, rfl, g11, p13, w14, -⟩
  have hS15 := hS0.tr g11 (by decide +kernel) (by decide +kernel)
  have c16 : I8 a1 5 = v3 := (g11.cell ta1 (by decide +kernel)).trans c4
  have w17 : RdI a0 I0 I8 := (EwI.rf a0 I0).rd w14
  obtain ⟨v18, c19⟩ : ∃ v, I8 a0 9 = v := ⟨_, rfl⟩
  have b20 := iv15_9 hS15.1 ta0 c19
  have gd21 : Gd (I8 a0 9) (v3.toInt ≠ v6.toInt) := p13
  clear p13
  refine tr_aload_n dX12_readCall_13 rfl ?_
  refine q_callVi hE (M' := mX12_isName) (as := []) dX12_readCall_14 lk12_197 inX12_isName seX12_isName myX12_isName (by decide) ⟨by decide, by decide⟩ rfl (kR15 hS15.1 ta0) (Nat.le_of_ble_eq_true rfl) rfl rfl (by decide) (by decide) (k_X12_isName hS15.1 ta0) ?_
  rintro v26 cn' K' N' I22 R23 L24 ⟨rfl, rfl, rfl, rfl, rfl, rfl, h27, -⟩
  refine q_if_ne 25 dX12_readCall_17 (by decide) (fun h28 => ?_) (fun h28 => ?_)
  · skip
    refine tr_aload_n dX12_readCall_25 rfl ?_
    refine tr_getR dX12_readCall_26 fl12_188 (kR15 hS15.1 ta0) d2 ?_
    refine tr_aload_n dX12_readCall_29 rfl ?_
    refine q_getL dX12_readCall_30 fl12_118 (kR15 hS15.1 ta0) ?_
    intro y29
    refine q_callVi hE (M' := mX11_find) (as := [_]) dX12_readCall_33 lk12_201 inX11_find seX11_find myX11_find (by decide) ⟨by decide, by decide⟩ rfl (kR14 hS15.1 ta1) (Nat.le_of_ble_eq_true rfl) rfl rfl (by decide) (by decide) (k_X11_find hS15.1 ta1) ?_
    rintro v34 cn' K' N' I30 R31 L32 ⟨rfl, rfl, rfl, rfl, rfl, rfl, h35, -⟩
    refine tr_istore_n dX12_readCall_36 (by decide) (by decide) ?_
    refine tr_iload_n dX12_readCall_37 rfl ?_
    refine q_iconst dX12_readCall_38 (by decide) ?_
    intro v36 h37
    refine q_icmp_eq 55 dX12_readCall_39 (by decide) (fun h38 => ?_) (fun h38 => ?_)
    · skip
      refine tr_aload_n dX12_readCall_55 rfl ?_
      refine q_iconst dX12_readCall_56 (by decide) ?_
      intro v39 h40
      obtain ⟨v41, c42⟩ : ∃ v, I8 a0 8 = v := ⟨_, rfl⟩
      have b43 := iv15_8 hS15.1 ta0 c42
      refine q_callVv hE (M' := mX12_flaw) (as := [_]) dX12_readCall_57 lk12_145 inX12_flaw seX12_flaw myX12_flaw (by decide) ⟨by decide, by decide⟩ rfl (kR15 hS15.1 ta0) (Nat.le_of_ble_eq_true rfl) rfl rfl (by decide) (by decide) (k_X12_flaw hS15.1 ta0 (by omega)) ?_
      rintro cn' K' N' I44 R45 L46 ⟨rfl, rfl, rfl, rfl, rfl, g47, p49, p50, w51, -⟩
      have hS52 := hS15.tr g47 (by decide +kernel) (by decide +kernel)
      have c53 : I44 a1 5 = v3 := (g47.cell ta1 (by decide +kernel)).trans c16
      have c54 : I44 a0 8 = v41 := (g47.cell ta0 (by decide +kernel)).trans c42
      have w55 : RdI a0 I0 I44 := w17.rd w51
      have gd56 := Gd.go gd21 w51.stick
      obtain ⟨v57, c58⟩ : ∃ v, I44 a0 9 = v := ⟨_, rfl⟩
      have b59 := iv15_9 hS52.1 ta0 c58
      rw [c58] at p49
      rw [c54] at p50
      rw [c42] at p50
      refine tr_aload_n dX12_readCall_60 rfl ?_
      refine q_getI dX12_readCall_61 fl12_99 (kR15 hS52.1 ta0) c58 ?_
      refine q_iconst dX12_readCall_64 (by decide) ?_
      intro v60 h61
      refine q_icmp_ne 72 dX12_readCall_65 (by decide) (fun h62 => ?_) (fun h62 => ?_)
      · skip
        exfalso; omega
      · skip
        refine q_iconst dX12_readCall_68 (by decide) ?_
        intro v63 h64
        refine tr_goto 81 dX12_readCall_69 (by decide) ?_
        refine tr_istore_n dX12_readCall_81 (by decide) (by decide) ?_
        refine tr_aload_n dX12_readCall_82 rfl ?_
        obtain ⟨v65, c66⟩ : ∃ v, I44 a0 13 = v := ⟨_, rfl⟩
        refine q_callVv hE (M' := mX12_goesOn) (as := []) dX12_readCall_83 lk12_142 inX12_goesOn seX12_goesOn myX12_goesOn (by decide) ⟨by decide, by decide⟩ rfl (kR15 hS52.1 ta0) (Nat.le_of_ble_eq_true rfl) rfl rfl (by decide) (by decide) (k_X12_goesOn hS52.1 ta0) ?_
        rintro cn' K' N' I67 R68 L69 ⟨rfl, rfl, rfl, rfl, g70, p72, p73, w74, -⟩
        have hS75 := hS52.tr g70 (by decide +kernel) (by decide +kernel)
        have c76 : I67 a1 5 = v3 := (g70.cell ta1 (by decide +kernel)).trans c53
        have c77 : I67 a0 13 = v65 := (g70.cell ta0 (by decide +kernel)).trans c66
        have w78 : RdI a0 I0 I67 := w55.rd w74
        have gd79 := Gd.go gd56 w74.stick
        obtain ⟨v80, c81⟩ : ∃ v, I67 a0 9 = v := ⟨_, rfl⟩
        have b82 := iv15_9 hS75.1 ta0 c81
        rw [c58] at p72
        rw [c81] at p72
        obtain ⟨v83, c84⟩ : ∃ v, I67 a0 8 = v := ⟨_, rfl⟩
        have b85 := iv15_8 hS75.1 ta0 c84
        rw [c84] at p73
        rw [c54] at p73
        rw [c77] at p73
        rw [c66] at p73
        refine tr_aload_n dX12_readCall_86 rfl ?_
        refine tr_ldcwS dX12_readCall_87 ld12_352 ?_
        refine q_iconst dX12_readCall_90 (by decide) ?_
        intro v86 h87
        refine tr_aload_n dX12_readCall_91 rfl ?_
        refine tr_getR dX12_readCall_92 fl12_188 (kR15 hS75.1 ta0) d2 ?_
        obtain ⟨v88, c89⟩ : ∃ v, I0 a1 0 = v := ⟨_, rfl⟩
        have b90 := iv14_0 hW0 ta1 c89
        refine q_getI dX12_readCall_95 fl12_192 (kR14 hS75.1 ta1) ((hS75.cell ta1 (by decide +kernel)).trans c89) ?_
        refine q_iconst dX12_readCall_98 (by decide) ?_
        intro v91 h92
        refine q_isubE dX12_readCall_99 (by intros; omega) ?_
        intro v93 h94
        refine q_callVi hE (M' := mX12_readPart) (as := [_, _, _]) dX12_readCall_100 lk12_249 inX12_readPart seX12_readPart myX12_readPart (by decide) ⟨by decide, by decide⟩ rfl (kR15 hS75.1 ta0) (Nat.le_of_ble_eq_true rfl) rfl rfl (by decide) (by decide) (k_X12_readPart hS75.1 ta0 (by decide)) ?_
        rintro v99 cn' K' N' I95 R96 L97 ⟨rfl, rfl, rfl, rfl, g98, p100, w101, -⟩
        have hS102 := hS75.tr g98 (by decide +kernel) (by decide +kernel)
        have c103 : I95 a1 5 = v3 := (g98.cell ta1 (by decide +kernel)).trans c76
        have w104 : RdI a0 I0 I95 := w78.rd w101
        have gd105 := Gd.go gd79 w101.stick
        have b106 : 0 ≤ v99.toInt ∧ v99.toInt ≤ 239 := by omega
        clear p100
        refine tr_istore_n dX12_readCall_103 (by decide) (by decide) ?_
        refine tr_aload_n dX12_readCall_104 rfl ?_
        refine tr_ldcwS dX12_readCall_105 ld12_354 ?_
        refine q_iconst dX12_readCall_108 (by decide) ?_
        intro v107 h108
        refine q_bipush dX12_readCall_109 (by decide +kernel) ?_
        intro v109 h110
        refine q_callVi hE (M' := mX12_readPart) (as := [_, _, _]) dX12_readCall_111 lk12_249 inX12_readPart seX12_readPart myX12_readPart (by decide) ⟨by decide, by decide⟩ rfl (kR15 hS102.1 ta0) (Nat.le_of_ble_eq_true rfl) rfl rfl (by decide) (by decide) (k_X12_readPart hS102.1 ta0 (by decide)) ?_
        rintro v115 cn' K' N' I111 R112 L113 ⟨rfl, rfl, rfl, rfl, g114, p116, w117, -⟩
        have hS118 := hS102.tr g114 (by decide +kernel) (by decide +kernel)
        have c119 : I111 a1 5 = v3 := (g114.cell ta1 (by decide +kernel)).trans c103
        have w120 : RdI a0 I0 I111 := w104.rd w117
        have gd121 := Gd.go gd105 w117.stick
        have b122 : 1 ≤ v115.toInt ∧ v115.toInt ≤ 60 := by omega
        clear p116
        refine tr_istore dX12_readCall_114 (by decide) (by decide) ?_
        refine tr_aload_n dX12_readCall_116 rfl ?_
        refine tr_ldcwS dX12_readCall_117 ld12_356 ?_
        refine q_iconst dX12_readCall_120 (by decide) ?_
        intro v123 h124
        refine q_bipush dX12_readCall_121 (by decide +kernel) ?_
        intro v125 h126
        refine q_callVi hE (M' := mX12_readPart) (as := [_, _, _]) dX12_readCall_123 lk12_249 inX12_readPart seX12_readPart myX12_readPart (by decide) ⟨by decide, by decide⟩ rfl (kR15 hS118.1 ta0) (Nat.le_of_ble_eq_true rfl) rfl rfl (by decide) (by decide) (k_X12_readPart hS118.1 ta0 (by decide)) ?_
        rintro v131 cn' K' N' I127 R128 L129 ⟨rfl, rfl, rfl, rfl, g130, p132, w133, -⟩
        have hS134 := hS118.tr g130 (by decide +kernel) (by decide +kernel)
        have c135 : I127 a1 5 = v3 := (g130.cell ta1 (by decide +kernel)).trans c119
        have w136 : RdI a0 I0 I127 := w120.rd w133
        have gd137 := Gd.go gd121 w133.stick
        have b138 : 0 ≤ v131.toInt ∧ v131.toInt ≤ 99 := by omega
        clear p132
        refine tr_istore dX12_readCall_126 (by decide) (by decide) ?_
        refine tr_aload_n dX12_readCall_128 rfl ?_
        obtain ⟨v139, c140⟩ : ∃ v, I127 a0 9 = v := ⟨_, rfl⟩
        have b141 := iv15_9 hS134.1 ta0 c140
        refine q_getI dX12_readCall_129 fl12_99 (kR15 hS134.1 ta0) c140 ?_
        refine q_iconst dX12_readCall_132 (by decide) ?_
        intro v142 h143
        refine q_icmp_ne 137 dX12_readCall_133 (by decide) (fun h144 => ?_) (fun h144 => ?_)
        · skip
          have p145 := gd137 (by rw [c140]; omega)
          clear gd137
          refine tr_aload_n dX12_readCall_137 rfl ?_
          refine tr_getR dX12_readCall_138 fl12_188 (kR15 hS134.1 ta0) d2 ?_
          obtain ⟨a146, d147, ta146⟩ := rf14_26 hW0 ta1
          refine tr_getR dX12_readCall_141 fl12_358 (kR14 hS134.1 ta1) d147 ?_
          refine tr_aload_n dX12_readCall_144 rfl ?_
          refine tr_getR dX12_readCall_145 fl12_188 (kR15 hS134.1 ta0) d2 ?_
          refine q_getI dX12_readCall_148 fl12_349 (kR14 hS134.1 ta1) c135 ?_
          refine tr_iload_n dX12_readCall_151 rfl ?_
          refine q_iast dX12_readCall_152 (kR69 hS134.1 ta146) (ti_in (nR69 hS134.1 ta146) (by omega) (by omega)) hS134 ta146 (iokF rfl) rfl (by rfl) ?_
          intro I148 hS149 e151 f150
          have c152 : I148 a1 5 = v3 := (f150 _ _ (fun q => by have z := ta1; rw [q.1, ta146] at z; exact absurd z (by decide))).trans c135
          have c153 : I148 a0 9 = v139 := (f150 _ _ (fun q => by have z := ta0; rw [q.1, ta146] at z; exact absurd z (by decide))).trans c140
          have w154 : RdI a0 I0 I148 := w136.keep (f150 _ _ (fun q => by have z := ta0; rw [q.1, ta146] at z; exact absurd z (by decide))) (f150 _ _ (fun q => by have z := ta0; rw [q.1, ta146] at z; exact absurd z (by decide))) (f150 _ _ (fun q => by have z := ta0; rw [q.1, ta146] at z; exact absurd z (by decide)))
          refine tr_aload_n dX12_readCall_153 rfl ?_
          refine tr_getR dX12_readCall_154 fl12_188 (kR15 hS149.1 ta0) d2 ?_
          obtain ⟨a155, d156, ta155⟩ := rf14_27 hW0 ta1
          refine tr_getR dX12_readCall_157 fl12_361 (kR14 hS149.1 ta1) d156 ?_
          refine tr_aload_n dX12_readCall_160 rfl ?_
          refine tr_getR dX12_readCall_161 fl12_188 (kR15 hS149.1 ta0) d2 ?_
          refine q_getI dX12_readCall_164 fl12_349 (kR14 hS149.1 ta1) c152 ?_
          refine tr_iload_n dX12_readCall_167 rfl ?_
          refine q_iast dX12_readCall_168 (kR70 hS149.1 ta155) (ti_in (nR70 hS149.1 ta155) (by omega) (by omega)) hS149 ta155 (iokF rfl) rfl (by rfl) ?_
          intro I157 hS158 e160 f159
          have c161 : I157 a1 5 = v3 := (f159 _ _ (fun q => by have z := ta1; rw [q.1, ta155] at z; exact absurd z (by decide))).trans c152
          have c162 : I157 a0 9 = v139 := (f159 _ _ (fun q => by have z := ta0; rw [q.1, ta155] at z; exact absurd z (by decide))).trans c153
          have w163 : RdI a0 I0 I157 := w154.keep (f159 _ _ (fun q => by have z := ta0; rw [q.1, ta155] at z; exact absurd z (by decide))) (f159 _ _ (fun q => by have z := ta0; rw [q.1, ta155] at z; exact absurd z (by decide))) (f159 _ _ (fun q => by have z := ta0; rw [q.1, ta155] at z; exact absurd z (by decide)))
          refine tr_aload_n dX12_readCall_169 rfl ?_
          refine tr_getR dX12_readCall_170 fl12_188 (kR15 hS158.1 ta0) d2 ?_
          obtain ⟨a164, d165, ta164⟩ := rf14_28 hW0 ta1
          refine tr_getR dX12_readCall_173 fl12_364 (kR14 hS158.1 ta1) d165 ?_
          refine tr_aload_n dX12_readCall_176 rfl ?_
          refine tr_getR dX12_readCall_177 fl12_188 (kR15 hS158.1 ta0) d2 ?_
          refine q_getI dX12_readCall_180 fl12_349 (kR14 hS158.1 ta1) c161 ?_
          refine tr_iload dX12_readCall_183 rfl ?_
          refine q_iast dX12_readCall_185 (kR71 hS158.1 ta164) (ti_in (nR71 hS158.1 ta164) (by omega) (by omega)) hS158 ta164 (iokF rfl) rfl (by rfl) ?_
          intro I166 hS167 e169 f168
          have c170 : I166 a1 5 = v3 := (f168 _ _ (fun q => by have z := ta1; rw [q.1, ta164] at z; exact absurd z (by decide))).trans c161
          have c171 : I166 a0 9 = v139 := (f168 _ _ (fun q => by have z := ta0; rw [q.1, ta164] at z; exact absurd z (by decide))).trans c162
          have w172 : RdI a0 I0 I166 := w163.keep (f168 _ _ (fun q => by have z := ta0; rw [q.1, ta164] at z; exact absurd z (by decide))) (f168 _ _ (fun q => by have z := ta0; rw [q.1, ta164] at z; exact absurd z (by decide))) (f168 _ _ (fun q => by have z := ta0; rw [q.1, ta164] at z; exact absurd z (by decide)))
          refine tr_aload_n dX12_readCall_186 rfl ?_
          refine tr_getR dX12_readCall_187 fl12_188 (kR15 hS167.1 ta0) d2 ?_
          obtain ⟨a173, d174, ta173⟩ := rf14_29 hW0 ta1
          refine tr_getR dX12_readCall_190 fl12_367 (kR14 hS167.1 ta1) d174 ?_
          refine tr_aload_n dX12_readCall_193 rfl ?_
          refine tr_getR dX12_readCall_194 fl12_188 (kR15 hS167.1 ta0) d2 ?_
          refine q_getI dX12_readCall_197 fl12_349 (kR14 hS167.1 ta1) c170 ?_
          refine tr_iload dX12_readCall_200 rfl ?_
          refine q_iast dX12_readCall_202 (kR72 hS167.1 ta173) (ti_in (nR72 hS167.1 ta173) (by omega) (by omega)) hS167 ta173 (iokF rfl) rfl (by rfl) ?_
          intro I175 hS176 e178 f177
          have c179 : I175 a1 5 = v3 := (f177 _ _ (fun q => by have z := ta1; rw [q.1, ta173] at z; exact absurd z (by decide))).trans c170
          have c180 : I175 a0 9 = v139 := (f177 _ _ (fun q => by have z := ta0; rw [q.1, ta173] at z; exact absurd z (by decide))).trans c171
          have w181 : RdI a0 I0 I175 := w172.keep (f177 _ _ (fun q => by have z := ta0; rw [q.1, ta173] at z; exact absurd z (by decide))) (f177 _ _ (fun q => by have z := ta0; rw [q.1, ta173] at z; exact absurd z (by decide))) (f177 _ _ (fun q => by have z := ta0; rw [q.1, ta173] at z; exact absurd z (by decide)))
          refine tr_aload_n dX12_readCall_203 rfl ?_
          refine tr_getR dX12_readCall_204 fl12_188 (kR15 hS176.1 ta0) d2 ?_
          refine tr_dup dX12_readCall_207 rfl ?_
          refine q_getI dX12_readCall_208 fl12_349 (kR14 hS176.1 ta1) c179 ?_
          refine q_iconst dX12_readCall_211 (by decide) ?_
          intro v182 h183
          refine q_iaddE dX12_readCall_212 (by intros; omega) ?_
          intro v184 h185
          refine q_putI dX12_readCall_213 fl12_349 (kR14 hS176.1 ta1) (Or.inl rfl) hS176 ta1 (by show (0 : Int) ≤ v184.toInt ∧ v184.toInt ≤ (6 : Int); omega) rfl (by decide +kernel) ?_
          intro I186 hS187 e188 f189
          have c190 : I186 a0 9 = v139 := (f189 _ _ (fun q => absurd q.2 (by decide))).trans c180
          have w191 : RdI a0 I0 I186 := w181.keep (f189 _ _ (fun q => absurd q.2 (by decide))) (f189 _ _ (fun q => absurd q.2 (by decide))) (f189 _ _ (fun q => absurd q.2 (by decide)))
          exact tr_vret hZ dX12_readCall_216 rfl (by decide) (by decide) ⟨rfl, rfl, rfl, rfl, rfl, hS187, w191, trivial⟩
        · skip
          exact tr_vret hZ dX12_readCall_136 rfl (by decide) (by decide) ⟨rfl, rfl, rfl, rfl, rfl, hS134, w136, trivial⟩
    · skip
      refine tr_aload_n dX12_readCall_42 rfl ?_
      refine tr_getR dX12_readCall_43 fl12_188 (kR15 hS15.1 ta0) d2 ?_
      obtain ⟨a192, d193, ta192⟩ := rf14_31 hW0 ta1
      refine tr_getR dX12_readCall_46 fl12_212 (kR14 hS15.1 ta1) d193 ?_
      refine tr_iload_n dX12_readCall_49 rfl ?_
      refine q_iald dX12_readCall_50 (kR74 hS15.1 ta192) (ti_in (nR74 hS15.1 ta192) (by omega) (by omega)) ?_
      intro v194 c195
      refine q_iconst dX12_readCall_51 (by decide) ?_
      intro v196 h197
      refine q_icmp_eq 60 dX12_readCall_52 (by decide) (fun h198 => ?_) (fun h198 => ?_)
      · skip
        refine tr_aload_n dX12_readCall_60 rfl ?_
        refine q_getI dX12_readCall_61 fl12_99 (kR15 hS15.1 ta0) c19 ?_
        refine q_iconst dX12_readCall_64 (by decide) ?_
        intro v199 h200
        refine q_icmp_ne 72 dX12_readCall_65 (by decide) (fun h201 => ?_) (fun h201 => ?_)
        · skip
          have p202 := gd21 (by rw [c19]; omega)
          clear gd21
          refine tr_aload_n dX12_readCall_72 rfl ?_
          refine tr_getR dX12_readCall_73 fl12_188 (kR15 hS15.1 ta0) d2 ?_
          obtain ⟨a203, d204, ta203⟩ := rf14_32 hW0 ta1
          refine tr_getR dX12_readCall_76 fl12_215 (kR14 hS15.1 ta1) d204 ?_
          refine tr_iload_n dX12_readCall_79 rfl ?_
          refine q_iald dX12_readCall_80 (kR75 hS15.1 ta203) (ti_in (nR75 hS15.1 ta203) (by omega) (by omega)) ?_
          intro v205 c206
          refine tr_istore_n dX12_readCall_81 (by decide) (by decide) ?_
          refine tr_aload_n dX12_readCall_82 rfl ?_
          obtain ⟨v207, c208⟩ : ∃ v, I8 a0 8 = v := ⟨_, rfl⟩
          have b209 := iv15_8 hS15.1 ta0 c208
          obtain ⟨v210, c211⟩ : ∃ v, I8 a0 13 = v := ⟨_, rfl⟩
          refine q_callVv hE (M' := mX12_goesOn) (as := []) dX12_readCall_83 lk12_142 inX12_goesOn seX12_goesOn myX12_goesOn (by decide) ⟨by decide, by decide⟩ rfl (kR15 hS15.1 ta0) (Nat.le_of_ble_eq_true rfl) rfl rfl (by decide) (by decide) (k_X12_goesOn hS15.1 ta0) ?_
          rintro cn' K' N' I212 R213 L214 ⟨rfl, rfl, rfl, rfl, g215, p217, p218, w219, -⟩
          have hS220 := hS15.tr g215 (by decide +kernel) (by decide +kernel)
          have c221 : I212 a1 5 = v3 := (g215.cell ta1 (by decide +kernel)).trans c16
          have c222 : I212 a0 13 = v210 := (g215.cell ta0 (by decide +kernel)).trans c211
          have w223 : RdI a0 I0 I212 := w17.rd w219
          obtain ⟨v224, c225⟩ : ∃ v, I212 a0 9 = v := ⟨_, rfl⟩
          have b226 := iv15_9 hS220.1 ta0 c225
          rw [c19] at p217
          rw [c225] at p217
          obtain ⟨v227, c228⟩ : ∃ v, I212 a0 8 = v := ⟨_, rfl⟩
          have b229 := iv15_8 hS220.1 ta0 c228
          rw [c228] at p218
          rw [c208] at p218
          rw [c222] at p218
          rw [c211] at p218
          refine tr_aload_n dX12_readCall_86 rfl ?_
          refine tr_ldcwS dX12_readCall_87 ld12_352 ?_
          refine q_iconst dX12_readCall_90 (by decide) ?_
          intro v230 h231
          refine tr_aload_n dX12_readCall_91 rfl ?_
          refine tr_getR dX12_readCall_92 fl12_188 (kR15 hS220.1 ta0) d2 ?_
          obtain ⟨v232, c233⟩ : ∃ v, I0 a1 0 = v := ⟨_, rfl⟩
          have b234 := iv14_0 hW0 ta1 c233
          refine q_getI dX12_readCall_95 fl12_192 (kR14 hS220.1 ta1) ((hS220.cell ta1 (by decide +kernel)).trans c233) ?_
          refine q_iconst dX12_readCall_98 (by decide) ?_
          intro v235 h236
          refine q_isubE dX12_readCall_99 (by intros; omega) ?_
          intro v237 h238
          refine q_callVi hE (M' := mX12_readPart) (as := [_, _, _]) dX12_readCall_100 lk12_249 inX12_readPart seX12_readPart myX12_readPart (by decide) ⟨by decide, by decide⟩ rfl (kR15 hS220.1 ta0) (Nat.le_of_ble_eq_true rfl) rfl rfl (by decide) (by decide) (k_X12_readPart hS220.1 ta0 (by decide)) ?_
          rintro v243 cn' K' N' I239 R240 L241 ⟨rfl, rfl, rfl, rfl, g242, p244, w245, -⟩
          have hS246 := hS220.tr g242 (by decide +kernel) (by decide +kernel)
          have c247 : I239 a1 5 = v3 := (g242.cell ta1 (by decide +kernel)).trans c221
          have w248 : RdI a0 I0 I239 := w223.rd w245
          have b249 : 0 ≤ v243.toInt ∧ v243.toInt ≤ 239 := by omega
          clear p244
          refine tr_istore_n dX12_readCall_103 (by decide) (by decide) ?_
          refine tr_aload_n dX12_readCall_104 rfl ?_
          refine tr_ldcwS dX12_readCall_105 ld12_354 ?_
          refine q_iconst dX12_readCall_108 (by decide) ?_
          intro v250 h251
          refine q_bipush dX12_readCall_109 (by decide +kernel) ?_
          intro v252 h253
          refine q_callVi hE (M' := mX12_readPart) (as := [_, _, _]) dX12_readCall_111 lk12_249 inX12_readPart seX12_readPart myX12_readPart (by decide) ⟨by decide, by decide⟩ rfl (kR15 hS246.1 ta0) (Nat.le_of_ble_eq_true rfl) rfl rfl (by decide) (by decide) (k_X12_readPart hS246.1 ta0 (by decide)) ?_
          rintro v258 cn' K' N' I254 R255 L256 ⟨rfl, rfl, rfl, rfl, g257, p259, w260, -⟩
          have hS261 := hS246.tr g257 (by decide +kernel) (by decide +kernel)
          have c262 : I254 a1 5 = v3 := (g257.cell ta1 (by decide +kernel)).trans c247
          have w263 : RdI a0 I0 I254 := w248.rd w260
          have b264 : 1 ≤ v258.toInt ∧ v258.toInt ≤ 60 := by omega
          clear p259
          refine tr_istore dX12_readCall_114 (by decide) (by decide) ?_
          refine tr_aload_n dX12_readCall_116 rfl ?_
          refine tr_ldcwS dX12_readCall_117 ld12_356 ?_
          refine q_iconst dX12_readCall_120 (by decide) ?_
          intro v265 h266
          refine q_bipush dX12_readCall_121 (by decide +kernel) ?_
          intro v267 h268
          refine q_callVi hE (M' := mX12_readPart) (as := [_, _, _]) dX12_readCall_123 lk12_249 inX12_readPart seX12_readPart myX12_readPart (by decide) ⟨by decide, by decide⟩ rfl (kR15 hS261.1 ta0) (Nat.le_of_ble_eq_true rfl) rfl rfl (by decide) (by decide) (k_X12_readPart hS261.1 ta0 (by decide)) ?_
          rintro v273 cn' K' N' I269 R270 L271 ⟨rfl, rfl, rfl, rfl, g272, p274, w275, -⟩
          have hS276 := hS261.tr g272 (by decide +kernel) (by decide +kernel)
          have c277 : I269 a1 5 = v3 := (g272.cell ta1 (by decide +kernel)).trans c262
          have w278 : RdI a0 I0 I269 := w263.rd w275
          have b279 : 0 ≤ v273.toInt ∧ v273.toInt ≤ 99 := by omega
          clear p274
          refine tr_istore dX12_readCall_126 (by decide) (by decide) ?_
          refine tr_aload_n dX12_readCall_128 rfl ?_
          obtain ⟨v280, c281⟩ : ∃ v, I269 a0 9 = v := ⟨_, rfl⟩
          have b282 := iv15_9 hS276.1 ta0 c281
          refine q_getI dX12_readCall_129 fl12_99 (kR15 hS276.1 ta0) c281 ?_
          refine q_iconst dX12_readCall_132 (by decide) ?_
          intro v283 h284
          refine q_icmp_ne 137 dX12_readCall_133 (by decide) (fun h285 => ?_) (fun h285 => ?_)
          · skip
            refine tr_aload_n dX12_readCall_137 rfl ?_
            refine tr_getR dX12_readCall_138 fl12_188 (kR15 hS276.1 ta0) d2 ?_
            obtain ⟨a286, d287, ta286⟩ := rf14_26 hW0 ta1
            refine tr_getR dX12_readCall_141 fl12_358 (kR14 hS276.1 ta1) d287 ?_
            refine tr_aload_n dX12_readCall_144 rfl ?_
            refine tr_getR dX12_readCall_145 fl12_188 (kR15 hS276.1 ta0) d2 ?_
            refine q_getI dX12_readCall_148 fl12_349 (kR14 hS276.1 ta1) c277 ?_
            refine tr_iload_n dX12_readCall_151 rfl ?_
            refine q_iast dX12_readCall_152 (kR69 hS276.1 ta286) (ti_in (nR69 hS276.1 ta286) (by omega) (by omega)) hS276 ta286 (iokF rfl) rfl (by rfl) ?_
            intro I288 hS289 e291 f290
            have c292 : I288 a1 5 = v3 := (f290 _ _ (fun q => by have z := ta1; rw [q.1, ta286] at z; exact absurd z (by decide))).trans c277
            have c293 : I288 a0 9 = v280 := (f290 _ _ (fun q => by have z := ta0; rw [q.1, ta286] at z; exact absurd z (by decide))).trans c281
            have w294 : RdI a0 I0 I288 := w278.keep (f290 _ _ (fun q => by have z := ta0; rw [q.1, ta286] at z; exact absurd z (by decide))) (f290 _ _ (fun q => by have z := ta0; rw [q.1, ta286] at z; exact absurd z (by decide))) (f290 _ _ (fun q => by have z := ta0; rw [q.1, ta286] at z; exact absurd z (by decide)))
            refine tr_aload_n dX12_readCall_153 rfl ?_
            refine tr_getR dX12_readCall_154 fl12_188 (kR15 hS289.1 ta0) d2 ?_
            obtain ⟨a295, d296, ta295⟩ := rf14_27 hW0 ta1
            refine tr_getR dX12_readCall_157 fl12_361 (kR14 hS289.1 ta1) d296 ?_
            refine tr_aload_n dX12_readCall_160 rfl ?_
            refine tr_getR dX12_readCall_161 fl12_188 (kR15 hS289.1 ta0) d2 ?_
            refine q_getI dX12_readCall_164 fl12_349 (kR14 hS289.1 ta1) c292 ?_
            refine tr_iload_n dX12_readCall_167 rfl ?_
            refine q_iast dX12_readCall_168 (kR70 hS289.1 ta295) (ti_in (nR70 hS289.1 ta295) (by omega) (by omega)) hS289 ta295 (iokF rfl) rfl (by rfl) ?_
            intro I297 hS298 e300 f299
            have c301 : I297 a1 5 = v3 := (f299 _ _ (fun q => by have z := ta1; rw [q.1, ta295] at z; exact absurd z (by decide))).trans c292
            have c302 : I297 a0 9 = v280 := (f299 _ _ (fun q => by have z := ta0; rw [q.1, ta295] at z; exact absurd z (by decide))).trans c293
            have w303 : RdI a0 I0 I297 := w294.keep (f299 _ _ (fun q => by have z := ta0; rw [q.1, ta295] at z; exact absurd z (by decide))) (f299 _ _ (fun q => by have z := ta0; rw [q.1, ta295] at z; exact absurd z (by decide))) (f299 _ _ (fun q => by have z := ta0; rw [q.1, ta295] at z; exact absurd z (by decide)))
            refine tr_aload_n dX12_readCall_169 rfl ?_
            refine tr_getR dX12_readCall_170 fl12_188 (kR15 hS298.1 ta0) d2 ?_
            obtain ⟨a304, d305, ta304⟩ := rf14_28 hW0 ta1
            refine tr_getR dX12_readCall_173 fl12_364 (kR14 hS298.1 ta1) d305 ?_
            refine tr_aload_n dX12_readCall_176 rfl ?_
            refine tr_getR dX12_readCall_177 fl12_188 (kR15 hS298.1 ta0) d2 ?_
            refine q_getI dX12_readCall_180 fl12_349 (kR14 hS298.1 ta1) c301 ?_
            refine tr_iload dX12_readCall_183 rfl ?_
            refine q_iast dX12_readCall_185 (kR71 hS298.1 ta304) (ti_in (nR71 hS298.1 ta304) (by omega) (by omega)) hS298 ta304 (iokF rfl) rfl (by rfl) ?_
            intro I306 hS307 e309 f308
            have c310 : I306 a1 5 = v3 := (f308 _ _ (fun q => by have z := ta1; rw [q.1, ta304] at z; exact absurd z (by decide))).trans c301
            have c311 : I306 a0 9 = v280 := (f308 _ _ (fun q => by have z := ta0; rw [q.1, ta304] at z; exact absurd z (by decide))).trans c302
            have w312 : RdI a0 I0 I306 := w303.keep (f308 _ _ (fun q => by have z := ta0; rw [q.1, ta304] at z; exact absurd z (by decide))) (f308 _ _ (fun q => by have z := ta0; rw [q.1, ta304] at z; exact absurd z (by decide))) (f308 _ _ (fun q => by have z := ta0; rw [q.1, ta304] at z; exact absurd z (by decide)))
            refine tr_aload_n dX12_readCall_186 rfl ?_
            refine tr_getR dX12_readCall_187 fl12_188 (kR15 hS307.1 ta0) d2 ?_
            obtain ⟨a313, d314, ta313⟩ := rf14_29 hW0 ta1
            refine tr_getR dX12_readCall_190 fl12_367 (kR14 hS307.1 ta1) d314 ?_
            refine tr_aload_n dX12_readCall_193 rfl ?_
            refine tr_getR dX12_readCall_194 fl12_188 (kR15 hS307.1 ta0) d2 ?_
            refine q_getI dX12_readCall_197 fl12_349 (kR14 hS307.1 ta1) c310 ?_
            refine tr_iload dX12_readCall_200 rfl ?_
            refine q_iast dX12_readCall_202 (kR72 hS307.1 ta313) (ti_in (nR72 hS307.1 ta313) (by omega) (by omega)) hS307 ta313 (iokF rfl) rfl (by rfl) ?_
            intro I315 hS316 e318 f317
            have c319 : I315 a1 5 = v3 := (f317 _ _ (fun q => by have z := ta1; rw [q.1, ta313] at z; exact absurd z (by decide))).trans c310
            have c320 : I315 a0 9 = v280 := (f317 _ _ (fun q => by have z := ta0; rw [q.1, ta313] at z; exact absurd z (by decide))).trans c311
            have w321 : RdI a0 I0 I315 := w312.keep (f317 _ _ (fun q => by have z := ta0; rw [q.1, ta313] at z; exact absurd z (by decide))) (f317 _ _ (fun q => by have z := ta0; rw [q.1, ta313] at z; exact absurd z (by decide))) (f317 _ _ (fun q => by have z := ta0; rw [q.1, ta313] at z; exact absurd z (by decide)))
            refine tr_aload_n dX12_readCall_203 rfl ?_
            refine tr_getR dX12_readCall_204 fl12_188 (kR15 hS316.1 ta0) d2 ?_
            refine tr_dup dX12_readCall_207 rfl ?_
            refine q_getI dX12_readCall_208 fl12_349 (kR14 hS316.1 ta1) c319 ?_
            refine q_iconst dX12_readCall_211 (by decide) ?_
            intro v322 h323
            refine q_iaddE dX12_readCall_212 (by intros; omega) ?_
            intro v324 h325
            refine q_putI dX12_readCall_213 fl12_349 (kR14 hS316.1 ta1) (Or.inl rfl) hS316 ta1 (by show (0 : Int) ≤ v324.toInt ∧ v324.toInt ≤ (6 : Int); omega) rfl (by decide +kernel) ?_
            intro I326 hS327 e328 f329
            have c330 : I326 a0 9 = v280 := (f329 _ _ (fun q => absurd q.2 (by decide))).trans c320
            have w331 : RdI a0 I0 I326 := w321.keep (f329 _ _ (fun q => absurd q.2 (by decide))) (f329 _ _ (fun q => absurd q.2 (by decide))) (f329 _ _ (fun q => absurd q.2 (by decide)))
            exact tr_vret hZ dX12_readCall_216 rfl (by decide) (by decide) ⟨rfl, rfl, rfl, rfl, rfl, hS327, w331, trivial⟩
          · skip
            exact tr_vret hZ dX12_readCall_136 rfl (by decide) (by decide) ⟨rfl, rfl, rfl, rfl, rfl, hS276, w278, trivial⟩
        · skip
          refine q_iconst dX12_readCall_68 (by decide) ?_
          intro v332 h333
          refine tr_goto 81 dX12_readCall_69 (by decide) ?_
          refine tr_istore_n dX12_readCall_81 (by decide) (by decide) ?_
          refine tr_aload_n dX12_readCall_82 rfl ?_
          obtain ⟨v334, c335⟩ : ∃ v, I8 a0 8 = v := ⟨_, rfl⟩
          have b336 := iv15_8 hS15.1 ta0 c335
          obtain ⟨v337, c338⟩ : ∃ v, I8 a0 13 = v := ⟨_, rfl⟩
          refine q_callVv hE (M' := mX12_goesOn) (as := []) dX12_readCall_83 lk12_142 inX12_goesOn seX12_goesOn myX12_goesOn (by decide) ⟨by decide, by decide⟩ rfl (kR15 hS15.1 ta0) (Nat.le_of_ble_eq_true rfl) rfl rfl (by decide) (by decide) (k_X12_goesOn hS15.1 ta0) ?_
          rintro cn' K' N' I339 R340 L341 ⟨rfl, rfl, rfl, rfl, g342, p344, p345, w346, -⟩
          have hS347 := hS15.tr g342 (by decide +kernel) (by decide +kernel)
          have c348 : I339 a1 5 = v3 := (g342.cell ta1 (by decide +kernel)).trans c16
          have c349 : I339 a0 13 = v337 := (g342.cell ta0 (by decide +kernel)).trans c338
          have w350 : RdI a0 I0 I339 := w17.rd w346
          have gd351 := Gd.go gd21 w346.stick
          obtain ⟨v352, c353⟩ : ∃ v, I339 a0 9 = v := ⟨_, rfl⟩
          have b354 := iv15_9 hS347.1 ta0 c353
          rw [c19] at p344
          rw [c353] at p344
          obtain ⟨v355, c356⟩ : ∃ v, I339 a0 8 = v := ⟨_, rfl⟩
          have b357 := iv15_8 hS347.1 ta0 c356
          rw [c356] at p345
          rw [c335] at p345
          rw [c349] at p345
          rw [c338] at p345
          refine tr_aload_n dX12_readCall_86 rfl ?_
          refine tr_ldcwS dX12_readCall_87 ld12_352 ?_
          refine q_iconst dX12_readCall_90 (by decide) ?_
          intro v358 h359
          refine tr_aload_n dX12_readCall_91 rfl ?_
          refine tr_getR dX12_readCall_92 fl12_188 (kR15 hS347.1 ta0) d2 ?_
          obtain ⟨v360, c361⟩ : ∃ v, I0 a1 0 = v := ⟨_, rfl⟩
          have b362 := iv14_0 hW0 ta1 c361
          refine q_getI dX12_readCall_95 fl12_192 (kR14 hS347.1 ta1) ((hS347.cell ta1 (by decide +kernel)).trans c361) ?_
          refine q_iconst dX12_readCall_98 (by decide) ?_
          intro v363 h364
          refine q_isubE dX12_readCall_99 (by intros; omega) ?_
          intro v365 h366
          refine q_callVi hE (M' := mX12_readPart) (as := [_, _, _]) dX12_readCall_100 lk12_249 inX12_readPart seX12_readPart myX12_readPart (by decide) ⟨by decide, by decide⟩ rfl (kR15 hS347.1 ta0) (Nat.le_of_ble_eq_true rfl) rfl rfl (by decide) (by decide) (k_X12_readPart hS347.1 ta0 (by decide)) ?_
          rintro v371 cn' K' N' I367 R368 L369 ⟨rfl, rfl, rfl, rfl, g370, p372, w373, -⟩
          have hS374 := hS347.tr g370 (by decide +kernel) (by decide +kernel)
          have c375 : I367 a1 5 = v3 := (g370.cell ta1 (by decide +kernel)).trans c348
          have w376 : RdI a0 I0 I367 := w350.rd w373
          have gd377 := Gd.go gd351 w373.stick
          have b378 : 0 ≤ v371.toInt ∧ v371.toInt ≤ 239 := by omega
          clear p372
          refine tr_istore_n dX12_readCall_103 (by decide) (by decide) ?_
          refine tr_aload_n dX12_readCall_104 rfl ?_
          refine tr_ldcwS dX12_readCall_105 ld12_354 ?_
          refine q_iconst dX12_readCall_108 (by decide) ?_
          intro v379 h380
          refine q_bipush dX12_readCall_109 (by decide +kernel) ?_
          intro v381 h382
          refine q_callVi hE (M' := mX12_readPart) (as := [_, _, _]) dX12_readCall_111 lk12_249 inX12_readPart seX12_readPart myX12_readPart (by decide) ⟨by decide, by decide⟩ rfl (kR15 hS374.1 ta0) (Nat.le_of_ble_eq_true rfl) rfl rfl (by decide) (by decide) (k_X12_readPart hS374.1 ta0 (by decide)) ?_
          rintro v387 cn' K' N' I383 R384 L385 ⟨rfl, rfl, rfl, rfl, g386, p388, w389, -⟩
          have hS390 := hS374.tr g386 (by decide +kernel) (by decide +kernel)
          have c391 : I383 a1 5 = v3 := (g386.cell ta1 (by decide +kernel)).trans c375
          have w392 : RdI a0 I0 I383 := w376.rd w389
          have gd393 := Gd.go gd377 w389.stick
          have b394 : 1 ≤ v387.toInt ∧ v387.toInt ≤ 60 := by omega
          clear p388
          refine tr_istore dX12_readCall_114 (by decide) (by decide) ?_
          refine tr_aload_n dX12_readCall_116 rfl ?_
          refine tr_ldcwS dX12_readCall_117 ld12_356 ?_
          refine q_iconst dX12_readCall_120 (by decide) ?_
          intro v395 h396
          refine q_bipush dX12_readCall_121 (by decide +kernel) ?_
          intro v397 h398
          refine q_callVi hE (M' := mX12_readPart) (as := [_, _, _]) dX12_readCall_123 lk12_249 inX12_readPart seX12_readPart myX12_readPart (by decide) ⟨by decide, by decide⟩ rfl (kR15 hS390.1 ta0) (Nat.le_of_ble_eq_true rfl) rfl rfl (by decide) (by decide) (k_X12_readPart hS390.1 ta0 (by decide)) ?_
          rintro v403 cn' K' N' I399 R400 L401 ⟨rfl, rfl, rfl, rfl, g402, p404, w405, -⟩
          have hS406 := hS390.tr g402 (by decide +kernel) (by decide +kernel)
          have c407 : I399 a1 5 = v3 := (g402.cell ta1 (by decide +kernel)).trans c391
          have w408 : RdI a0 I0 I399 := w392.rd w405
          have gd409 := Gd.go gd393 w405.stick
          have b410 : 0 ≤ v403.toInt ∧ v403.toInt ≤ 99 := by omega
          clear p404
          refine tr_istore dX12_readCall_126 (by decide) (by decide) ?_
          refine tr_aload_n dX12_readCall_128 rfl ?_
          obtain ⟨v411, c412⟩ : ∃ v, I399 a0 9 = v := ⟨_, rfl⟩
          have b413 := iv15_9 hS406.1 ta0 c412
          refine q_getI dX12_readCall_129 fl12_99 (kR15 hS406.1 ta0) c412 ?_
          refine q_iconst dX12_readCall_132 (by decide) ?_
          intro v414 h415
          refine q_icmp_ne 137 dX12_readCall_133 (by decide) (fun h416 => ?_) (fun h416 => ?_)
          · skip
            have p417 := gd409 (by rw [c412]; omega)
            clear gd409
            refine tr_aload_n dX12_readCall_137 rfl ?_
            refine tr_getR dX12_readCall_138 fl12_188 (kR15 hS406.1 ta0) d2 ?_
            obtain ⟨a418, d419, ta418⟩ := rf14_26 hW0 ta1
            refine tr_getR dX12_readCall_141 fl12_358 (kR14 hS406.1 ta1) d419 ?_
            refine tr_aload_n dX12_readCall_144 rfl ?_
            refine tr_getR dX12_readCall_145 fl12_188 (kR15 hS406.1 ta0) d2 ?_
            refine q_getI dX12_readCall_148 fl12_349 (kR14 hS406.1 ta1) c407 ?_
            refine tr_iload_n dX12_readCall_151 rfl ?_
            refine q_iast dX12_readCall_152 (kR69 hS406.1 ta418) (ti_in (nR69 hS406.1 ta418) (by omega) (by omega)) hS406 ta418 (iokF rfl) rfl (by rfl) ?_
            intro I420 hS421 e423 f422
            have c424 : I420 a1 5 = v3 := (f422 _ _ (fun q => by have z := ta1; rw [q.1, ta418] at z; exact absurd z (by decide))).trans c407
            have c425 : I420 a0 9 = v411 := (f422 _ _ (fun q => by have z := ta0; rw [q.1, ta418] at z; exact absurd z (by decide))).trans c412
            have w426 : RdI a0 I0 I420 := w408.keep (f422 _ _ (fun q => by have z := ta0; rw [q.1, ta418] at z; exact absurd z (by decide))) (f422 _ _ (fun q => by have z := ta0; rw [q.1, ta418] at z; exact absurd z (by decide))) (f422 _ _ (fun q => by have z := ta0; rw [q.1, ta418] at z; exact absurd z (by decide)))
            refine tr_aload_n dX12_readCall_153 rfl ?_
            refine tr_getR dX12_readCall_154 fl12_188 (kR15 hS421.1 ta0) d2 ?_
            obtain ⟨a427, d428, ta427⟩ := rf14_27 hW0 ta1
            refine tr_getR dX12_readCall_157 fl12_361 (kR14 hS421.1 ta1) d428 ?_
            refine tr_aload_n dX12_readCall_160 rfl ?_
            refine tr_getR dX12_readCall_161 fl12_188 (kR15 hS421.1 ta0) d2 ?_
            refine q_getI dX12_readCall_164 fl12_349 (kR14 hS421.1 ta1) c424 ?_
            refine tr_iload_n dX12_readCall_167 rfl ?_
            refine q_iast dX12_readCall_168 (kR70 hS421.1 ta427) (ti_in (nR70 hS421.1 ta427) (by omega) (by omega)) hS421 ta427 (iokF rfl) rfl (by rfl) ?_
            intro I429 hS430 e432 f431
            have c433 : I429 a1 5 = v3 := (f431 _ _ (fun q => by have z := ta1; rw [q.1, ta427] at z; exact absurd z (by decide))).trans c424
            have c434 : I429 a0 9 = v411 := (f431 _ _ (fun q => by have z := ta0; rw [q.1, ta427] at z; exact absurd z (by decide))).trans c425
            have w435 : RdI a0 I0 I429 := w426.keep (f431 _ _ (fun q => by have z := ta0; rw [q.1, ta427] at z; exact absurd z (by decide))) (f431 _ _ (fun q => by have z := ta0; rw [q.1, ta427] at z; exact absurd z (by decide))) (f431 _ _ (fun q => by have z := ta0; rw [q.1, ta427] at z; exact absurd z (by decide)))
            refine tr_aload_n dX12_readCall_169 rfl ?_
            refine tr_getR dX12_readCall_170 fl12_188 (kR15 hS430.1 ta0) d2 ?_
            obtain ⟨a436, d437, ta436⟩ := rf14_28 hW0 ta1
            refine tr_getR dX12_readCall_173 fl12_364 (kR14 hS430.1 ta1) d437 ?_
            refine tr_aload_n dX12_readCall_176 rfl ?_
            refine tr_getR dX12_readCall_177 fl12_188 (kR15 hS430.1 ta0) d2 ?_
            refine q_getI dX12_readCall_180 fl12_349 (kR14 hS430.1 ta1) c433 ?_
            refine tr_iload dX12_readCall_183 rfl ?_
            refine q_iast dX12_readCall_185 (kR71 hS430.1 ta436) (ti_in (nR71 hS430.1 ta436) (by omega) (by omega)) hS430 ta436 (iokF rfl) rfl (by rfl) ?_
            intro I438 hS439 e441 f440
            have c442 : I438 a1 5 = v3 := (f440 _ _ (fun q => by have z := ta1; rw [q.1, ta436] at z; exact absurd z (by decide))).trans c433
            have c443 : I438 a0 9 = v411 := (f440 _ _ (fun q => by have z := ta0; rw [q.1, ta436] at z; exact absurd z (by decide))).trans c434
            have w444 : RdI a0 I0 I438 := w435.keep (f440 _ _ (fun q => by have z := ta0; rw [q.1, ta436] at z; exact absurd z (by decide))) (f440 _ _ (fun q => by have z := ta0; rw [q.1, ta436] at z; exact absurd z (by decide))) (f440 _ _ (fun q => by have z := ta0; rw [q.1, ta436] at z; exact absurd z (by decide)))
            refine tr_aload_n dX12_readCall_186 rfl ?_
            refine tr_getR dX12_readCall_187 fl12_188 (kR15 hS439.1 ta0) d2 ?_
            obtain ⟨a445, d446, ta445⟩ := rf14_29 hW0 ta1
            refine tr_getR dX12_readCall_190 fl12_367 (kR14 hS439.1 ta1) d446 ?_
            refine tr_aload_n dX12_readCall_193 rfl ?_
            refine tr_getR dX12_readCall_194 fl12_188 (kR15 hS439.1 ta0) d2 ?_
            refine q_getI dX12_readCall_197 fl12_349 (kR14 hS439.1 ta1) c442 ?_
            refine tr_iload dX12_readCall_200 rfl ?_
            refine q_iast dX12_readCall_202 (kR72 hS439.1 ta445) (ti_in (nR72 hS439.1 ta445) (by omega) (by omega)) hS439 ta445 (iokF rfl) rfl (by rfl) ?_
            intro I447 hS448 e450 f449
            have c451 : I447 a1 5 = v3 := (f449 _ _ (fun q => by have z := ta1; rw [q.1, ta445] at z; exact absurd z (by decide))).trans c442
            have c452 : I447 a0 9 = v411 := (f449 _ _ (fun q => by have z := ta0; rw [q.1, ta445] at z; exact absurd z (by decide))).trans c443
            have w453 : RdI a0 I0 I447 := w444.keep (f449 _ _ (fun q => by have z := ta0; rw [q.1, ta445] at z; exact absurd z (by decide))) (f449 _ _ (fun q => by have z := ta0; rw [q.1, ta445] at z; exact absurd z (by decide))) (f449 _ _ (fun q => by have z := ta0; rw [q.1, ta445] at z; exact absurd z (by decide)))
            refine tr_aload_n dX12_readCall_203 rfl ?_
            refine tr_getR dX12_readCall_204 fl12_188 (kR15 hS448.1 ta0) d2 ?_
            refine tr_dup dX12_readCall_207 rfl ?_
            refine q_getI dX12_readCall_208 fl12_349 (kR14 hS448.1 ta1) c451 ?_
            refine q_iconst dX12_readCall_211 (by decide) ?_
            intro v454 h455
            refine q_iaddE dX12_readCall_212 (by intros; omega) ?_
            intro v456 h457
            refine q_putI dX12_readCall_213 fl12_349 (kR14 hS448.1 ta1) (Or.inl rfl) hS448 ta1 (by show (0 : Int) ≤ v456.toInt ∧ v456.toInt ≤ (6 : Int); omega) rfl (by decide +kernel) ?_
            intro I458 hS459 e460 f461
            have c462 : I458 a0 9 = v411 := (f461 _ _ (fun q => absurd q.2 (by decide))).trans c452
            have w463 : RdI a0 I0 I458 := w453.keep (f461 _ _ (fun q => absurd q.2 (by decide))) (f461 _ _ (fun q => absurd q.2 (by decide))) (f461 _ _ (fun q => absurd q.2 (by decide)))
            exact tr_vret hZ dX12_readCall_216 rfl (by decide) (by decide) ⟨rfl, rfl, rfl, rfl, rfl, hS459, w463, trivial⟩
          · skip
            exact tr_vret hZ dX12_readCall_136 rfl (by decide) (by decide) ⟨rfl, rfl, rfl, rfl, rfl, hS406, w408, trivial⟩
      · skip
        refine tr_aload_n dX12_readCall_55 rfl ?_
        refine q_iconst dX12_readCall_56 (by decide) ?_
        intro v464 h465
        obtain ⟨v466, c467⟩ : ∃ v, I8 a0 8 = v := ⟨_, rfl⟩
        have b468 := iv15_8 hS15.1 ta0 c467
        refine q_callVv hE (M' := mX12_flaw) (as := [_]) dX12_readCall_57 lk12_145 inX12_flaw seX12_flaw myX12_flaw (by decide) ⟨by decide, by decide⟩ rfl (kR15 hS15.1 ta0) (Nat.le_of_ble_eq_true rfl) rfl rfl (by decide) (by decide) (k_X12_flaw hS15.1 ta0 (by omega)) ?_
        rintro cn' K' N' I469 R470 L471 ⟨rfl, rfl, rfl, rfl, rfl, g472, p474, p475, w476, -⟩
        have hS477 := hS15.tr g472 (by decide +kernel) (by decide +kernel)
        have c478 : I469 a1 5 = v3 := (g472.cell ta1 (by decide +kernel)).trans c16
        have c479 : I469 a0 8 = v466 := (g472.cell ta0 (by decide +kernel)).trans c467
        have w480 : RdI a0 I0 I469 := w17.rd w476
        have gd481 := Gd.go gd21 w476.stick
        obtain ⟨v482, c483⟩ : ∃ v, I469 a0 9 = v := ⟨_, rfl⟩
        have b484 := iv15_9 hS477.1 ta0 c483
        rw [c483] at p474
        rw [c479] at p475
        rw [c467] at p475
        refine tr_aload_n dX12_readCall_60 rfl ?_
        refine q_getI dX12_readCall_61 fl12_99 (kR15 hS477.1 ta0) c483 ?_
        refine q_iconst dX12_readCall_64 (by decide) ?_
        intro v485 h486
        refine q_icmp_ne 72 dX12_readCall_65 (by decide) (fun h487 => ?_) (fun h487 => ?_)
        · skip
          exfalso; omega
        · skip
          refine q_iconst dX12_readCall_68 (by decide) ?_
          intro v488 h489
          refine tr_goto 81 dX12_readCall_69 (by decide) ?_
          refine tr_istore_n dX12_readCall_81 (by decide) (by decide) ?_
          refine tr_aload_n dX12_readCall_82 rfl ?_
          obtain ⟨v490, c491⟩ : ∃ v, I469 a0 13 = v := ⟨_, rfl⟩
          refine q_callVv hE (M' := mX12_goesOn) (as := []) dX12_readCall_83 lk12_142 inX12_goesOn seX12_goesOn myX12_goesOn (by decide) ⟨by decide, by decide⟩ rfl (kR15 hS477.1 ta0) (Nat.le_of_ble_eq_true rfl) rfl rfl (by decide) (by decide) (k_X12_goesOn hS477.1 ta0) ?_
          rintro cn' K' N' I492 R493 L494 ⟨rfl, rfl, rfl, rfl, g495, p497, p498, w499, -⟩
          have hS500 := hS477.tr g495 (by decide +kernel) (by decide +kernel)
          have c501 : I492 a1 5 = v3 := (g495.cell ta1 (by decide +kernel)).trans c478
          have c502 : I492 a0 13 = v490 := (g495.cell ta0 (by decide +kernel)).trans c491
          have w503 : RdI a0 I0 I492 := w480.rd w499
          have gd504 := Gd.go gd481 w499.stick
          obtain ⟨v505, c506⟩ : ∃ v, I492 a0 9 = v := ⟨_, rfl⟩
          have b507 := iv15_9 hS500.1 ta0 c506
          rw [c483] at p497
          rw [c506] at p497
          obtain ⟨v508, c509⟩ : ∃ v, I492 a0 8 = v := ⟨_, rfl⟩
          have b510 := iv15_8 hS500.1 ta0 c509
          rw [c509] at p498
          rw [c479] at p498
          rw [c502] at p498
          rw [c491] at p498
          refine tr_aload_n dX12_readCall_86 rfl ?_
          refine tr_ldcwS dX12_readCall_87 ld12_352 ?_
          refine q_iconst dX12_readCall_90 (by decide) ?_
          intro v511 h512
          refine tr_aload_n dX12_readCall_91 rfl ?_
          refine tr_getR dX12_readCall_92 fl12_188 (kR15 hS500.1 ta0) d2 ?_
          obtain ⟨v513, c514⟩ : ∃ v, I0 a1 0 = v := ⟨_, rfl⟩
          have b515 := iv14_0 hW0 ta1 c514
          refine q_getI dX12_readCall_95 fl12_192 (kR14 hS500.1 ta1) ((hS500.cell ta1 (by decide +kernel)).trans c514) ?_
          refine q_iconst dX12_readCall_98 (by decide) ?_
          intro v516 h517
          refine q_isubE dX12_readCall_99 (by intros; omega) ?_
          intro v518 h519
          refine q_callVi hE (M' := mX12_readPart) (as := [_, _, _]) dX12_readCall_100 lk12_249 inX12_readPart seX12_readPart myX12_readPart (by decide) ⟨by decide, by decide⟩ rfl (kR15 hS500.1 ta0) (Nat.le_of_ble_eq_true rfl) rfl rfl (by decide) (by decide) (k_X12_readPart hS500.1 ta0 (by decide)) ?_
          rintro v524 cn' K' N' I520 R521 L522 ⟨rfl, rfl, rfl, rfl, g523, p525, w526, -⟩
          have hS527 := hS500.tr g523 (by decide +kernel) (by decide +kernel)
          have c528 : I520 a1 5 = v3 := (g523.cell ta1 (by decide +kernel)).trans c501
          have w529 : RdI a0 I0 I520 := w503.rd w526
          have gd530 := Gd.go gd504 w526.stick
          have b531 : 0 ≤ v524.toInt ∧ v524.toInt ≤ 239 := by omega
          clear p525
          refine tr_istore_n dX12_readCall_103 (by decide) (by decide) ?_
          refine tr_aload_n dX12_readCall_104 rfl ?_
          refine tr_ldcwS dX12_readCall_105 ld12_354 ?_
          refine q_iconst dX12_readCall_108 (by decide) ?_
          intro v532 h533
          refine q_bipush dX12_readCall_109 (by decide +kernel) ?_
          intro v534 h535
          refine q_callVi hE (M' := mX12_readPart) (as := [_, _, _]) dX12_readCall_111 lk12_249 inX12_readPart seX12_readPart myX12_readPart (by decide) ⟨by decide, by decide⟩ rfl (kR15 hS527.1 ta0) (Nat.le_of_ble_eq_true rfl) rfl rfl (by decide) (by decide) (k_X12_readPart hS527.1 ta0 (by decide)) ?_
          rintro v540 cn' K' N' I536 R537 L538 ⟨rfl, rfl, rfl, rfl, g539, p541, w542, -⟩
          have hS543 := hS527.tr g539 (by decide +kernel) (by decide +kernel)
          have c544 : I536 a1 5 = v3 := (g539.cell ta1 (by decide +kernel)).trans c528
          have w545 : RdI a0 I0 I536 := w529.rd w542
          have gd546 := Gd.go gd530 w542.stick
          have b547 : 1 ≤ v540.toInt ∧ v540.toInt ≤ 60 := by omega
          clear p541
          refine tr_istore dX12_readCall_114 (by decide) (by decide) ?_
          refine tr_aload_n dX12_readCall_116 rfl ?_
          refine tr_ldcwS dX12_readCall_117 ld12_356 ?_
          refine q_iconst dX12_readCall_120 (by decide) ?_
          intro v548 h549
          refine q_bipush dX12_readCall_121 (by decide +kernel) ?_
          intro v550 h551
          refine q_callVi hE (M' := mX12_readPart) (as := [_, _, _]) dX12_readCall_123 lk12_249 inX12_readPart seX12_readPart myX12_readPart (by decide) ⟨by decide, by decide⟩ rfl (kR15 hS543.1 ta0) (Nat.le_of_ble_eq_true rfl) rfl rfl (by decide) (by decide) (k_X12_readPart hS543.1 ta0 (by decide)) ?_
          rintro v556 cn' K' N' I552 R553 L554 ⟨rfl, rfl, rfl, rfl, g555, p557, w558, -⟩
          have hS559 := hS543.tr g555 (by decide +kernel) (by decide +kernel)
          have c560 : I552 a1 5 = v3 := (g555.cell ta1 (by decide +kernel)).trans c544
          have w561 : RdI a0 I0 I552 := w545.rd w558
          have gd562 := Gd.go gd546 w558.stick
          have b563 : 0 ≤ v556.toInt ∧ v556.toInt ≤ 99 := by omega
          clear p557
          refine tr_istore dX12_readCall_126 (by decide) (by decide) ?_
          refine tr_aload_n dX12_readCall_128 rfl ?_
          obtain ⟨v564, c565⟩ : ∃ v, I552 a0 9 = v := ⟨_, rfl⟩
          have b566 := iv15_9 hS559.1 ta0 c565
          refine q_getI dX12_readCall_129 fl12_99 (kR15 hS559.1 ta0) c565 ?_
          refine q_iconst dX12_readCall_132 (by decide) ?_
          intro v567 h568
          refine q_icmp_ne 137 dX12_readCall_133 (by decide) (fun h569 => ?_) (fun h569 => ?_)
          · skip
            have p570 := gd562 (by rw [c565]; omega)
            clear gd562
            refine tr_aload_n dX12_readCall_137 rfl ?_
            refine tr_getR dX12_readCall_138 fl12_188 (kR15 hS559.1 ta0) d2 ?_
            obtain ⟨a571, d572, ta571⟩ := rf14_26 hW0 ta1
            refine tr_getR dX12_readCall_141 fl12_358 (kR14 hS559.1 ta1) d572 ?_
            refine tr_aload_n dX12_readCall_144 rfl ?_
            refine tr_getR dX12_readCall_145 fl12_188 (kR15 hS559.1 ta0) d2 ?_
            refine q_getI dX12_readCall_148 fl12_349 (kR14 hS559.1 ta1) c560 ?_
            refine tr_iload_n dX12_readCall_151 rfl ?_
            refine q_iast dX12_readCall_152 (kR69 hS559.1 ta571) (ti_in (nR69 hS559.1 ta571) (by omega) (by omega)) hS559 ta571 (iokF rfl) rfl (by rfl) ?_
            intro I573 hS574 e576 f575
            have c577 : I573 a1 5 = v3 := (f575 _ _ (fun q => by have z := ta1; rw [q.1, ta571] at z; exact absurd z (by decide))).trans c560
            have c578 : I573 a0 9 = v564 := (f575 _ _ (fun q => by have z := ta0; rw [q.1, ta571] at z; exact absurd z (by decide))).trans c565
            have w579 : RdI a0 I0 I573 := w561.keep (f575 _ _ (fun q => by have z := ta0; rw [q.1, ta571] at z; exact absurd z (by decide))) (f575 _ _ (fun q => by have z := ta0; rw [q.1, ta571] at z; exact absurd z (by decide))) (f575 _ _ (fun q => by have z := ta0; rw [q.1, ta571] at z; exact absurd z (by decide)))
            refine tr_aload_n dX12_readCall_153 rfl ?_
            refine tr_getR dX12_readCall_154 fl12_188 (kR15 hS574.1 ta0) d2 ?_
            obtain ⟨a580, d581, ta580⟩ := rf14_27 hW0 ta1
            refine tr_getR dX12_readCall_157 fl12_361 (kR14 hS574.1 ta1) d581 ?_
            refine tr_aload_n dX12_readCall_160 rfl ?_
            refine tr_getR dX12_readCall_161 fl12_188 (kR15 hS574.1 ta0) d2 ?_
            refine q_getI dX12_readCall_164 fl12_349 (kR14 hS574.1 ta1) c577 ?_
            refine tr_iload_n dX12_readCall_167 rfl ?_
            refine q_iast dX12_readCall_168 (kR70 hS574.1 ta580) (ti_in (nR70 hS574.1 ta580) (by omega) (by omega)) hS574 ta580 (iokF rfl) rfl (by rfl) ?_
            intro I582 hS583 e585 f584
            have c586 : I582 a1 5 = v3 := (f584 _ _ (fun q => by have z := ta1; rw [q.1, ta580] at z; exact absurd z (by decide))).trans c577
            have c587 : I582 a0 9 = v564 := (f584 _ _ (fun q => by have z := ta0; rw [q.1, ta580] at z; exact absurd z (by decide))).trans c578
            have w588 : RdI a0 I0 I582 := w579.keep (f584 _ _ (fun q => by have z := ta0; rw [q.1, ta580] at z; exact absurd z (by decide))) (f584 _ _ (fun q => by have z := ta0; rw [q.1, ta580] at z; exact absurd z (by decide))) (f584 _ _ (fun q => by have z := ta0; rw [q.1, ta580] at z; exact absurd z (by decide)))
            refine tr_aload_n dX12_readCall_169 rfl ?_
            refine tr_getR dX12_readCall_170 fl12_188 (kR15 hS583.1 ta0) d2 ?_
            obtain ⟨a589, d590, ta589⟩ := rf14_28 hW0 ta1
            refine tr_getR dX12_readCall_173 fl12_364 (kR14 hS583.1 ta1) d590 ?_
            refine tr_aload_n dX12_readCall_176 rfl ?_
            refine tr_getR dX12_readCall_177 fl12_188 (kR15 hS583.1 ta0) d2 ?_
            refine q_getI dX12_readCall_180 fl12_349 (kR14 hS583.1 ta1) c586 ?_
            refine tr_iload dX12_readCall_183 rfl ?_
            refine q_iast dX12_readCall_185 (kR71 hS583.1 ta589) (ti_in (nR71 hS583.1 ta589) (by omega) (by omega)) hS583 ta589 (iokF rfl) rfl (by rfl) ?_
            intro I591 hS592 e594 f593
            have c595 : I591 a1 5 = v3 := (f593 _ _ (fun q => by have z := ta1; rw [q.1, ta589] at z; exact absurd z (by decide))).trans c586
            have c596 : I591 a0 9 = v564 := (f593 _ _ (fun q => by have z := ta0; rw [q.1, ta589] at z; exact absurd z (by decide))).trans c587
            have w597 : RdI a0 I0 I591 := w588.keep (f593 _ _ (fun q => by have z := ta0; rw [q.1, ta589] at z; exact absurd z (by decide))) (f593 _ _ (fun q => by have z := ta0; rw [q.1, ta589] at z; exact absurd z (by decide))) (f593 _ _ (fun q => by have z := ta0; rw [q.1, ta589] at z; exact absurd z (by decide)))
            refine tr_aload_n dX12_readCall_186 rfl ?_
            refine tr_getR dX12_readCall_187 fl12_188 (kR15 hS592.1 ta0) d2 ?_
            obtain ⟨a598, d599, ta598⟩ := rf14_29 hW0 ta1
            refine tr_getR dX12_readCall_190 fl12_367 (kR14 hS592.1 ta1) d599 ?_
            refine tr_aload_n dX12_readCall_193 rfl ?_
            refine tr_getR dX12_readCall_194 fl12_188 (kR15 hS592.1 ta0) d2 ?_
            refine q_getI dX12_readCall_197 fl12_349 (kR14 hS592.1 ta1) c595 ?_
            refine tr_iload dX12_readCall_200 rfl ?_
            refine q_iast dX12_readCall_202 (kR72 hS592.1 ta598) (ti_in (nR72 hS592.1 ta598) (by omega) (by omega)) hS592 ta598 (iokF rfl) rfl (by rfl) ?_
            intro I600 hS601 e603 f602
            have c604 : I600 a1 5 = v3 := (f602 _ _ (fun q => by have z := ta1; rw [q.1, ta598] at z; exact absurd z (by decide))).trans c595
            have c605 : I600 a0 9 = v564 := (f602 _ _ (fun q => by have z := ta0; rw [q.1, ta598] at z; exact absurd z (by decide))).trans c596
            have w606 : RdI a0 I0 I600 := w597.keep (f602 _ _ (fun q => by have z := ta0; rw [q.1, ta598] at z; exact absurd z (by decide))) (f602 _ _ (fun q => by have z := ta0; rw [q.1, ta598] at z; exact absurd z (by decide))) (f602 _ _ (fun q => by have z := ta0; rw [q.1, ta598] at z; exact absurd z (by decide)))
            refine tr_aload_n dX12_readCall_203 rfl ?_
            refine tr_getR dX12_readCall_204 fl12_188 (kR15 hS601.1 ta0) d2 ?_
            refine tr_dup dX12_readCall_207 rfl ?_
            refine q_getI dX12_readCall_208 fl12_349 (kR14 hS601.1 ta1) c604 ?_
            refine q_iconst dX12_readCall_211 (by decide) ?_
            intro v607 h608
            refine q_iaddE dX12_readCall_212 (by intros; omega) ?_
            intro v609 h610
            refine q_putI dX12_readCall_213 fl12_349 (kR14 hS601.1 ta1) (Or.inl rfl) hS601 ta1 (by show (0 : Int) ≤ v609.toInt ∧ v609.toInt ≤ (6 : Int); omega) rfl (by decide +kernel) ?_
            intro I611 hS612 e613 f614
            have c615 : I611 a0 9 = v564 := (f614 _ _ (fun q => absurd q.2 (by decide))).trans c605
            have w616 : RdI a0 I0 I611 := w606.keep (f614 _ _ (fun q => absurd q.2 (by decide))) (f614 _ _ (fun q => absurd q.2 (by decide))) (f614 _ _ (fun q => absurd q.2 (by decide)))
            exact tr_vret hZ dX12_readCall_216 rfl (by decide) (by decide) ⟨rfl, rfl, rfl, rfl, rfl, hS612, w616, trivial⟩
          · skip
            exact tr_vret hZ dX12_readCall_136 rfl (by decide) (by decide) ⟨rfl, rfl, rfl, rfl, rfl, hS559, w561, trivial⟩
  · skip
    refine tr_aload_n dX12_readCall_20 rfl ?_
    refine q_iconst dX12_readCall_21 (by decide) ?_
    intro v617 h618
    obtain ⟨v619, c620⟩ : ∃ v, I8 a0 8 = v := ⟨_, rfl⟩
    have b621 := iv15_8 hS15.1 ta0 c620
    refine q_callVv hE (M' := mX12_flaw) (as := [_]) dX12_readCall_22 lk12_145 inX12_flaw seX12_flaw myX12_flaw (by decide) ⟨by decide, by decide⟩ rfl (kR15 hS15.1 ta0) (Nat.le_of_ble_eq_true rfl) rfl rfl (by decide) (by decide) (k_X12_flaw hS15.1 ta0 (by omega)) ?_
    rintro cn' K' N' I622 R623 L624 ⟨rfl, rfl, rfl, rfl, rfl, g625, p627, p628, w629, -⟩
    have hS630 := hS15.tr g625 (by decide +kernel) (by decide +kernel)
    have c631 : I622 a1 5 = v3 := (g625.cell ta1 (by decide +kernel)).trans c16
    have c632 : I622 a0 8 = v619 := (g625.cell ta0 (by decide +kernel)).trans c620
    have w633 : RdI a0 I0 I622 := w17.rd w629
    have gd634 := Gd.go gd21 w629.stick
    obtain ⟨v635, c636⟩ : ∃ v, I622 a0 9 = v := ⟨_, rfl⟩
    have b637 := iv15_9 hS630.1 ta0 c636
    rw [c636] at p627
    rw [c632] at p628
    rw [c620] at p628
    refine tr_aload_n dX12_readCall_25 rfl ?_
    refine tr_getR dX12_readCall_26 fl12_188 (kR15 hS630.1 ta0) d2 ?_
    refine tr_aload_n dX12_readCall_29 rfl ?_
    refine q_getL dX12_readCall_30 fl12_118 (kR15 hS630.1 ta0) ?_
    intro y638
    refine q_callVi hE (M' := mX11_find) (as := [_]) dX12_readCall_33 lk12_201 inX11_find seX11_find myX11_find (by decide) ⟨by decide, by decide⟩ rfl (kR14 hS630.1 ta1) (Nat.le_of_ble_eq_true rfl) rfl rfl (by decide) (by decide) (k_X11_find hS630.1 ta1) ?_
    rintro v643 cn' K' N' I639 R640 L641 ⟨rfl, rfl, rfl, rfl, rfl, rfl, h644, -⟩
    refine tr_istore_n dX12_readCall_36 (by decide) (by decide) ?_
    refine tr_iload_n dX12_readCall_37 rfl ?_
    refine q_iconst dX12_readCall_38 (by decide) ?_
    intro v645 h646
    refine q_icmp_eq 55 dX12_readCall_39 (by decide) (fun h647 => ?_) (fun h647 => ?_)
    · skip
      refine tr_aload_n dX12_readCall_55 rfl ?_
      refine q_iconst dX12_readCall_56 (by decide) ?_
      intro v648 h649
      refine q_callVv hE (M' := mX12_flaw) (as := [_]) dX12_readCall_57 lk12_145 inX12_flaw seX12_flaw myX12_flaw (by decide) ⟨by decide, by decide⟩ rfl (kR15 hS630.1 ta0) (Nat.le_of_ble_eq_true rfl) rfl rfl (by decide) (by decide) (k_X12_flaw hS630.1 ta0 (by omega)) ?_
      rintro cn' K' N' I650 R651 L652 ⟨rfl, rfl, rfl, rfl, rfl, g653, p655, p656, w657, -⟩
      have hS658 := hS630.tr g653 (by decide +kernel) (by decide +kernel)
      have c659 : I650 a1 5 = v3 := (g653.cell ta1 (by decide +kernel)).trans c631
      have c660 : I650 a0 8 = v619 := (g653.cell ta0 (by decide +kernel)).trans c632
      have w661 : RdI a0 I0 I650 := w633.rd w657
      have gd662 := Gd.go gd634 w657.stick
      obtain ⟨v663, c664⟩ : ∃ v, I650 a0 9 = v := ⟨_, rfl⟩
      have b665 := iv15_9 hS658.1 ta0 c664
      rw [c664] at p655
      rw [c660] at p656
      rw [c632] at p656
      refine tr_aload_n dX12_readCall_60 rfl ?_
      refine q_getI dX12_readCall_61 fl12_99 (kR15 hS658.1 ta0) c664 ?_
      refine q_iconst dX12_readCall_64 (by decide) ?_
      intro v666 h667
      refine q_icmp_ne 72 dX12_readCall_65 (by decide) (fun h668 => ?_) (fun h668 => ?_)
      · skip
        exfalso; omega
      · skip
        refine q_iconst dX12_readCall_68 (by decide) ?_
        intro v669 h670
        refine tr_goto 81 dX12_readCall_69 (by decide) ?_
        refine tr_istore_n dX12_readCall_81 (by decide) (by decide) ?_
        refine tr_aload_n dX12_readCall_82 rfl ?_
        obtain ⟨v671, c672⟩ : ∃ v, I650 a0 13 = v := ⟨_, rfl⟩
        refine q_callVv hE (M' := mX12_goesOn) (as := []) dX12_readCall_83 lk12_142 inX12_goesOn seX12_goesOn myX12_goesOn (by decide) ⟨by decide, by decide⟩ rfl (kR15 hS658.1 ta0) (Nat.le_of_ble_eq_true rfl) rfl rfl (by decide) (by decide) (k_X12_goesOn hS658.1 ta0) ?_
        rintro cn' K' N' I673 R674 L675 ⟨rfl, rfl, rfl, rfl, g676, p678, p679, w680, -⟩
        have hS681 := hS658.tr g676 (by decide +kernel) (by decide +kernel)
        have c682 : I673 a1 5 = v3 := (g676.cell ta1 (by decide +kernel)).trans c659
        have c683 : I673 a0 13 = v671 := (g676.cell ta0 (by decide +kernel)).trans c672
        have w684 : RdI a0 I0 I673 := w661.rd w680
        have gd685 := Gd.go gd662 w680.stick
        obtain ⟨v686, c687⟩ : ∃ v, I673 a0 9 = v := ⟨_, rfl⟩
        have b688 := iv15_9 hS681.1 ta0 c687
        rw [c664] at p678
        rw [c687] at p678
        obtain ⟨v689, c690⟩ : ∃ v, I673 a0 8 = v := ⟨_, rfl⟩
        have b691 := iv15_8 hS681.1 ta0 c690
        rw [c690] at p679
        rw [c660] at p679
        rw [c683] at p679
        rw [c672] at p679
        refine tr_aload_n dX12_readCall_86 rfl ?_
        refine tr_ldcwS dX12_readCall_87 ld12_352 ?_
        refine q_iconst dX12_readCall_90 (by decide) ?_
        intro v692 h693
        refine tr_aload_n dX12_readCall_91 rfl ?_
        refine tr_getR dX12_readCall_92 fl12_188 (kR15 hS681.1 ta0) d2 ?_
        obtain ⟨v694, c695⟩ : ∃ v, I0 a1 0 = v := ⟨_, rfl⟩
        have b696 := iv14_0 hW0 ta1 c695
        refine q_getI dX12_readCall_95 fl12_192 (kR14 hS681.1 ta1) ((hS681.cell ta1 (by decide +kernel)).trans c695) ?_
        refine q_iconst dX12_readCall_98 (by decide) ?_
        intro v697 h698
        refine q_isubE dX12_readCall_99 (by intros; omega) ?_
        intro v699 h700
        refine q_callVi hE (M' := mX12_readPart) (as := [_, _, _]) dX12_readCall_100 lk12_249 inX12_readPart seX12_readPart myX12_readPart (by decide) ⟨by decide, by decide⟩ rfl (kR15 hS681.1 ta0) (Nat.le_of_ble_eq_true rfl) rfl rfl (by decide) (by decide) (k_X12_readPart hS681.1 ta0 (by decide)) ?_
        rintro v705 cn' K' N' I701 R702 L703 ⟨rfl, rfl, rfl, rfl, g704, p706, w707, -⟩
        have hS708 := hS681.tr g704 (by decide +kernel) (by decide +kernel)
        have c709 : I701 a1 5 = v3 := (g704.cell ta1 (by decide +kernel)).trans c682
        have w710 : RdI a0 I0 I701 := w684.rd w707
        have gd711 := Gd.go gd685 w707.stick
        have b712 : 0 ≤ v705.toInt ∧ v705.toInt ≤ 239 := by omega
        clear p706
        refine tr_istore_n dX12_readCall_103 (by decide) (by decide) ?_
        refine tr_aload_n dX12_readCall_104 rfl ?_
        refine tr_ldcwS dX12_readCall_105 ld12_354 ?_
        refine q_iconst dX12_readCall_108 (by decide) ?_
        intro v713 h714
        refine q_bipush dX12_readCall_109 (by decide +kernel) ?_
        intro v715 h716
        refine q_callVi hE (M' := mX12_readPart) (as := [_, _, _]) dX12_readCall_111 lk12_249 inX12_readPart seX12_readPart myX12_readPart (by decide) ⟨by decide, by decide⟩ rfl (kR15 hS708.1 ta0) (Nat.le_of_ble_eq_true rfl) rfl rfl (by decide) (by decide) (k_X12_readPart hS708.1 ta0 (by decide)) ?_
        rintro v721 cn' K' N' I717 R718 L719 ⟨rfl, rfl, rfl, rfl, g720, p722, w723, -⟩
        have hS724 := hS708.tr g720 (by decide +kernel) (by decide +kernel)
        have c725 : I717 a1 5 = v3 := (g720.cell ta1 (by decide +kernel)).trans c709
        have w726 : RdI a0 I0 I717 := w710.rd w723
        have gd727 := Gd.go gd711 w723.stick
        have b728 : 1 ≤ v721.toInt ∧ v721.toInt ≤ 60 := by omega
        clear p722
        refine tr_istore dX12_readCall_114 (by decide) (by decide) ?_
        refine tr_aload_n dX12_readCall_116 rfl ?_
        refine tr_ldcwS dX12_readCall_117 ld12_356 ?_
        refine q_iconst dX12_readCall_120 (by decide) ?_
        intro v729 h730
        refine q_bipush dX12_readCall_121 (by decide +kernel) ?_
        intro v731 h732
        refine q_callVi hE (M' := mX12_readPart) (as := [_, _, _]) dX12_readCall_123 lk12_249 inX12_readPart seX12_readPart myX12_readPart (by decide) ⟨by decide, by decide⟩ rfl (kR15 hS724.1 ta0) (Nat.le_of_ble_eq_true rfl) rfl rfl (by decide) (by decide) (k_X12_readPart hS724.1 ta0 (by decide)) ?_
        rintro v737 cn' K' N' I733 R734 L735 ⟨rfl, rfl, rfl, rfl, g736, p738, w739, -⟩
        have hS740 := hS724.tr g736 (by decide +kernel) (by decide +kernel)
        have c741 : I733 a1 5 = v3 := (g736.cell ta1 (by decide +kernel)).trans c725
        have w742 : RdI a0 I0 I733 := w726.rd w739
        have gd743 := Gd.go gd727 w739.stick
        have b744 : 0 ≤ v737.toInt ∧ v737.toInt ≤ 99 := by omega
        clear p738
        refine tr_istore dX12_readCall_126 (by decide) (by decide) ?_
        refine tr_aload_n dX12_readCall_128 rfl ?_
        obtain ⟨v745, c746⟩ : ∃ v, I733 a0 9 = v := ⟨_, rfl⟩
        have b747 := iv15_9 hS740.1 ta0 c746
        refine q_getI dX12_readCall_129 fl12_99 (kR15 hS740.1 ta0) c746 ?_
        refine q_iconst dX12_readCall_132 (by decide) ?_
        intro v748 h749
        refine q_icmp_ne 137 dX12_readCall_133 (by decide) (fun h750 => ?_) (fun h750 => ?_)
        · skip
          have p751 := gd743 (by rw [c746]; omega)
          clear gd743
          refine tr_aload_n dX12_readCall_137 rfl ?_
          refine tr_getR dX12_readCall_138 fl12_188 (kR15 hS740.1 ta0) d2 ?_
          obtain ⟨a752, d753, ta752⟩ := rf14_26 hW0 ta1
          refine tr_getR dX12_readCall_141 fl12_358 (kR14 hS740.1 ta1) d753 ?_
          refine tr_aload_n dX12_readCall_144 rfl ?_
          refine tr_getR dX12_readCall_145 fl12_188 (kR15 hS740.1 ta0) d2 ?_
          refine q_getI dX12_readCall_148 fl12_349 (kR14 hS740.1 ta1) c741 ?_
          refine tr_iload_n dX12_readCall_151 rfl ?_
          refine q_iast dX12_readCall_152 (kR69 hS740.1 ta752) (ti_in (nR69 hS740.1 ta752) (by omega) (by omega)) hS740 ta752 (iokF rfl) rfl (by rfl) ?_
          intro I754 hS755 e757 f756
          have c758 : I754 a1 5 = v3 := (f756 _ _ (fun q => by have z := ta1; rw [q.1, ta752] at z; exact absurd z (by decide))).trans c741
          have c759 : I754 a0 9 = v745 := (f756 _ _ (fun q => by have z := ta0; rw [q.1, ta752] at z; exact absurd z (by decide))).trans c746
          have w760 : RdI a0 I0 I754 := w742.keep (f756 _ _ (fun q => by have z := ta0; rw [q.1, ta752] at z; exact absurd z (by decide))) (f756 _ _ (fun q => by have z := ta0; rw [q.1, ta752] at z; exact absurd z (by decide))) (f756 _ _ (fun q => by have z := ta0; rw [q.1, ta752] at z; exact absurd z (by decide)))
          refine tr_aload_n dX12_readCall_153 rfl ?_
          refine tr_getR dX12_readCall_154 fl12_188 (kR15 hS755.1 ta0) d2 ?_
          obtain ⟨a761, d762, ta761⟩ := rf14_27 hW0 ta1
          refine tr_getR dX12_readCall_157 fl12_361 (kR14 hS755.1 ta1) d762 ?_
          refine tr_aload_n dX12_readCall_160 rfl ?_
          refine tr_getR dX12_readCall_161 fl12_188 (kR15 hS755.1 ta0) d2 ?_
          refine q_getI dX12_readCall_164 fl12_349 (kR14 hS755.1 ta1) c758 ?_
          refine tr_iload_n dX12_readCall_167 rfl ?_
          refine q_iast dX12_readCall_168 (kR70 hS755.1 ta761) (ti_in (nR70 hS755.1 ta761) (by omega) (by omega)) hS755 ta761 (iokF rfl) rfl (by rfl) ?_
          intro I763 hS764 e766 f765
          have c767 : I763 a1 5 = v3 := (f765 _ _ (fun q => by have z := ta1; rw [q.1, ta761] at z; exact absurd z (by decide))).trans c758
          have c768 : I763 a0 9 = v745 := (f765 _ _ (fun q => by have z := ta0; rw [q.1, ta761] at z; exact absurd z (by decide))).trans c759
          have w769 : RdI a0 I0 I763 := w760.keep (f765 _ _ (fun q => by have z := ta0; rw [q.1, ta761] at z; exact absurd z (by decide))) (f765 _ _ (fun q => by have z := ta0; rw [q.1, ta761] at z; exact absurd z (by decide))) (f765 _ _ (fun q => by have z := ta0; rw [q.1, ta761] at z; exact absurd z (by decide)))
          refine tr_aload_n dX12_readCall_169 rfl ?_
          refine tr_getR dX12_readCall_170 fl12_188 (kR15 hS764.1 ta0) d2 ?_
          obtain ⟨a770, d771, ta770⟩ := rf14_28 hW0 ta1
          refine tr_getR dX12_readCall_173 fl12_364 (kR14 hS764.1 ta1) d771 ?_
          refine tr_aload_n dX12_readCall_176 rfl ?_
          refine tr_getR dX12_readCall_177 fl12_188 (kR15 hS764.1 ta0) d2 ?_
          refine q_getI dX12_readCall_180 fl12_349 (kR14 hS764.1 ta1) c767 ?_
          refine tr_iload dX12_readCall_183 rfl ?_
          refine q_iast dX12_readCall_185 (kR71 hS764.1 ta770) (ti_in (nR71 hS764.1 ta770) (by omega) (by omega)) hS764 ta770 (iokF rfl) rfl (by rfl) ?_
          intro I772 hS773 e775 f774
          have c776 : I772 a1 5 = v3 := (f774 _ _ (fun q => by have z := ta1; rw [q.1, ta770] at z; exact absurd z (by decide))).trans c767
          have c777 : I772 a0 9 = v745 := (f774 _ _ (fun q => by have z := ta0; rw [q.1, ta770] at z; exact absurd z (by decide))).trans c768
          have w778 : RdI a0 I0 I772 := w769.keep (f774 _ _ (fun q => by have z := ta0; rw [q.1, ta770] at z; exact absurd z (by decide))) (f774 _ _ (fun q => by have z := ta0; rw [q.1, ta770] at z; exact absurd z (by decide))) (f774 _ _ (fun q => by have z := ta0; rw [q.1, ta770] at z; exact absurd z (by decide)))
          refine tr_aload_n dX12_readCall_186 rfl ?_
          refine tr_getR dX12_readCall_187 fl12_188 (kR15 hS773.1 ta0) d2 ?_
          obtain ⟨a779, d780, ta779⟩ := rf14_29 hW0 ta1
          refine tr_getR dX12_readCall_190 fl12_367 (kR14 hS773.1 ta1) d780 ?_
          refine tr_aload_n dX12_readCall_193 rfl ?_
          refine tr_getR dX12_readCall_194 fl12_188 (kR15 hS773.1 ta0) d2 ?_
          refine q_getI dX12_readCall_197 fl12_349 (kR14 hS773.1 ta1) c776 ?_
          refine tr_iload dX12_readCall_200 rfl ?_
          refine q_iast dX12_readCall_202 (kR72 hS773.1 ta779) (ti_in (nR72 hS773.1 ta779) (by omega) (by omega)) hS773 ta779 (iokF rfl) rfl (by rfl) ?_
          intro I781 hS782 e784 f783
          have c785 : I781 a1 5 = v3 := (f783 _ _ (fun q => by have z := ta1; rw [q.1, ta779] at z; exact absurd z (by decide))).trans c776
          have c786 : I781 a0 9 = v745 := (f783 _ _ (fun q => by have z := ta0; rw [q.1, ta779] at z; exact absurd z (by decide))).trans c777
          have w787 : RdI a0 I0 I781 := w778.keep (f783 _ _ (fun q => by have z := ta0; rw [q.1, ta779] at z; exact absurd z (by decide))) (f783 _ _ (fun q => by have z := ta0; rw [q.1, ta779] at z; exact absurd z (by decide))) (f783 _ _ (fun q => by have z := ta0; rw [q.1, ta779] at z; exact absurd z (by decide)))
          refine tr_aload_n dX12_readCall_203 rfl ?_
          refine tr_getR dX12_readCall_204 fl12_188 (kR15 hS782.1 ta0) d2 ?_
          refine tr_dup dX12_readCall_207 rfl ?_
          refine q_getI dX12_readCall_208 fl12_349 (kR14 hS782.1 ta1) c785 ?_
          refine q_iconst dX12_readCall_211 (by decide) ?_
          intro v788 h789
          refine q_iaddE dX12_readCall_212 (by intros; omega) ?_
          intro v790 h791
          refine q_putI dX12_readCall_213 fl12_349 (kR14 hS782.1 ta1) (Or.inl rfl) hS782 ta1 (by show (0 : Int) ≤ v790.toInt ∧ v790.toInt ≤ (6 : Int); omega) rfl (by decide +kernel) ?_
          intro I792 hS793 e794 f795
          have c796 : I792 a0 9 = v745 := (f795 _ _ (fun q => absurd q.2 (by decide))).trans c786
          have w797 : RdI a0 I0 I792 := w787.keep (f795 _ _ (fun q => absurd q.2 (by decide))) (f795 _ _ (fun q => absurd q.2 (by decide))) (f795 _ _ (fun q => absurd q.2 (by decide)))
          exact tr_vret hZ dX12_readCall_216 rfl (by decide) (by decide) ⟨rfl, rfl, rfl, rfl, rfl, hS793, w797, trivial⟩
        · skip
          exact tr_vret hZ dX12_readCall_136 rfl (by decide) (by decide) ⟨rfl, rfl, rfl, rfl, rfl, hS740, w742, trivial⟩
    · skip
      refine tr_aload_n dX12_readCall_42 rfl ?_
      refine tr_getR dX12_readCall_43 fl12_188 (kR15 hS630.1 ta0) d2 ?_
      obtain ⟨a798, d799, ta798⟩ := rf14_31 hW0 ta1
      refine tr_getR dX12_readCall_46 fl12_212 (kR14 hS630.1 ta1) d799 ?_
      refine tr_iload_n dX12_readCall_49 rfl ?_
      refine q_iald dX12_readCall_50 (kR74 hS630.1 ta798) (ti_in (nR74 hS630.1 ta798) (by omega) (by omega)) ?_
      intro v800 c801
      refine q_iconst dX12_readCall_51 (by decide) ?_
      intro v802 h803
      refine q_icmp_eq 60 dX12_readCall_52 (by decide) (fun h804 => ?_) (fun h804 => ?_)
      · skip
        refine tr_aload_n dX12_readCall_60 rfl ?_
        refine q_getI dX12_readCall_61 fl12_99 (kR15 hS630.1 ta0) c636 ?_
        refine q_iconst dX12_readCall_64 (by decide) ?_
        intro v805 h806
        refine q_icmp_ne 72 dX12_readCall_65 (by decide) (fun h807 => ?_) (fun h807 => ?_)
        · skip
          exfalso; omega
        · skip
          refine q_iconst dX12_readCall_68 (by decide) ?_
          intro v808 h809
          refine tr_goto 81 dX12_readCall_69 (by decide) ?_
          refine tr_istore_n dX12_readCall_81 (by decide) (by decide) ?_
          refine tr_aload_n dX12_readCall_82 rfl ?_
          obtain ⟨v810, c811⟩ : ∃ v, I622 a0 13 = v := ⟨_, rfl⟩
          refine q_callVv hE (M' := mX12_goesOn) (as := []) dX12_readCall_83 lk12_142 inX12_goesOn seX12_goesOn myX12_goesOn (by decide) ⟨by decide, by decide⟩ rfl (kR15 hS630.1 ta0) (Nat.le_of_ble_eq_true rfl) rfl rfl (by decide) (by decide) (k_X12_goesOn hS630.1 ta0) ?_
          rintro cn' K' N' I812 R813 L814 ⟨rfl, rfl, rfl, rfl, g815, p817, p818, w819, -⟩
          have hS820 := hS630.tr g815 (by decide +kernel) (by decide +kernel)
          have c821 : I812 a1 5 = v3 := (g815.cell ta1 (by decide +kernel)).trans c631
          have c822 : I812 a0 13 = v810 := (g815.cell ta0 (by decide +kernel)).trans c811
          have w823 : RdI a0 I0 I812 := w633.rd w819
          have gd824 := Gd.go gd634 w819.stick
          obtain ⟨v825, c826⟩ : ∃ v, I812 a0 9 = v := ⟨_, rfl⟩
          have b827 := iv15_9 hS820.1 ta0 c826
          rw [c636] at p817
          rw [c826] at p817
          obtain ⟨v828, c829⟩ : ∃ v, I812 a0 8 = v := ⟨_, rfl⟩
          have b830 := iv15_8 hS820.1 ta0 c829
          rw [c829] at p818
          rw [c632] at p818
          rw [c822] at p818
          rw [c811] at p818
          refine tr_aload_n dX12_readCall_86 rfl ?_
          refine tr_ldcwS dX12_readCall_87 ld12_352 ?_
          refine q_iconst dX12_readCall_90 (by decide) ?_
          intro v831 h832
          refine tr_aload_n dX12_readCall_91 rfl ?_
          refine tr_getR dX12_readCall_92 fl12_188 (kR15 hS820.1 ta0) d2 ?_
          obtain ⟨v833, c834⟩ : ∃ v, I0 a1 0 = v := ⟨_, rfl⟩
          have b835 := iv14_0 hW0 ta1 c834
          refine q_getI dX12_readCall_95 fl12_192 (kR14 hS820.1 ta1) ((hS820.cell ta1 (by decide +kernel)).trans c834) ?_
          refine q_iconst dX12_readCall_98 (by decide) ?_
          intro v836 h837
          refine q_isubE dX12_readCall_99 (by intros; omega) ?_
          intro v838 h839
          refine q_callVi hE (M' := mX12_readPart) (as := [_, _, _]) dX12_readCall_100 lk12_249 inX12_readPart seX12_readPart myX12_readPart (by decide) ⟨by decide, by decide⟩ rfl (kR15 hS820.1 ta0) (Nat.le_of_ble_eq_true rfl) rfl rfl (by decide) (by decide) (k_X12_readPart hS820.1 ta0 (by decide)) ?_
          rintro v844 cn' K' N' I840 R841 L842 ⟨rfl, rfl, rfl, rfl, g843, p845, w846, -⟩
          have hS847 := hS820.tr g843 (by decide +kernel) (by decide +kernel)
          have c848 : I840 a1 5 = v3 := (g843.cell ta1 (by decide +kernel)).trans c821
          have w849 : RdI a0 I0 I840 := w823.rd w846
          have gd850 := Gd.go gd824 w846.stick
          have b851 : 0 ≤ v844.toInt ∧ v844.toInt ≤ 239 := by omega
          clear p845
          refine tr_istore_n dX12_readCall_103 (by decide) (by decide) ?_
          refine tr_aload_n dX12_readCall_104 rfl ?_
          refine tr_ldcwS dX12_readCall_105 ld12_354 ?_
          refine q_iconst dX12_readCall_108 (by decide) ?_
          intro v852 h853
          refine q_bipush dX12_readCall_109 (by decide +kernel) ?_
          intro v854 h855
          refine q_callVi hE (M' := mX12_readPart) (as := [_, _, _]) dX12_readCall_111 lk12_249 inX12_readPart seX12_readPart myX12_readPart (by decide) ⟨by decide, by decide⟩ rfl (kR15 hS847.1 ta0) (Nat.le_of_ble_eq_true rfl) rfl rfl (by decide) (by decide) (k_X12_readPart hS847.1 ta0 (by decide)) ?_
          rintro v860 cn' K' N' I856 R857 L858 ⟨rfl, rfl, rfl, rfl, g859, p861, w862, -⟩
          have hS863 := hS847.tr g859 (by decide +kernel) (by decide +kernel)
          have c864 : I856 a1 5 = v3 := (g859.cell ta1 (by decide +kernel)).trans c848
          have w865 : RdI a0 I0 I856 := w849.rd w862
          have gd866 := Gd.go gd850 w862.stick
          have b867 : 1 ≤ v860.toInt ∧ v860.toInt ≤ 60 := by omega
          clear p861
          refine tr_istore dX12_readCall_114 (by decide) (by decide) ?_
          refine tr_aload_n dX12_readCall_116 rfl ?_
          refine tr_ldcwS dX12_readCall_117 ld12_356 ?_
          refine q_iconst dX12_readCall_120 (by decide) ?_
          intro v868 h869
          refine q_bipush dX12_readCall_121 (by decide +kernel) ?_
          intro v870 h871
          refine q_callVi hE (M' := mX12_readPart) (as := [_, _, _]) dX12_readCall_123 lk12_249 inX12_readPart seX12_readPart myX12_readPart (by decide) ⟨by decide, by decide⟩ rfl (kR15 hS863.1 ta0) (Nat.le_of_ble_eq_true rfl) rfl rfl (by decide) (by decide) (k_X12_readPart hS863.1 ta0 (by decide)) ?_
          rintro v876 cn' K' N' I872 R873 L874 ⟨rfl, rfl, rfl, rfl, g875, p877, w878, -⟩
          have hS879 := hS863.tr g875 (by decide +kernel) (by decide +kernel)
          have c880 : I872 a1 5 = v3 := (g875.cell ta1 (by decide +kernel)).trans c864
          have w881 : RdI a0 I0 I872 := w865.rd w878
          have gd882 := Gd.go gd866 w878.stick
          have b883 : 0 ≤ v876.toInt ∧ v876.toInt ≤ 99 := by omega
          clear p877
          refine tr_istore dX12_readCall_126 (by decide) (by decide) ?_
          refine tr_aload_n dX12_readCall_128 rfl ?_
          obtain ⟨v884, c885⟩ : ∃ v, I872 a0 9 = v := ⟨_, rfl⟩
          have b886 := iv15_9 hS879.1 ta0 c885
          refine q_getI dX12_readCall_129 fl12_99 (kR15 hS879.1 ta0) c885 ?_
          refine q_iconst dX12_readCall_132 (by decide) ?_
          intro v887 h888
          refine q_icmp_ne 137 dX12_readCall_133 (by decide) (fun h889 => ?_) (fun h889 => ?_)
          · skip
            have p890 := gd882 (by rw [c885]; omega)
            clear gd882
            refine tr_aload_n dX12_readCall_137 rfl ?_
            refine tr_getR dX12_readCall_138 fl12_188 (kR15 hS879.1 ta0) d2 ?_
            obtain ⟨a891, d892, ta891⟩ := rf14_26 hW0 ta1
            refine tr_getR dX12_readCall_141 fl12_358 (kR14 hS879.1 ta1) d892 ?_
            refine tr_aload_n dX12_readCall_144 rfl ?_
            refine tr_getR dX12_readCall_145 fl12_188 (kR15 hS879.1 ta0) d2 ?_
            refine q_getI dX12_readCall_148 fl12_349 (kR14 hS879.1 ta1) c880 ?_
            refine tr_iload_n dX12_readCall_151 rfl ?_
            refine q_iast dX12_readCall_152 (kR69 hS879.1 ta891) (ti_in (nR69 hS879.1 ta891) (by omega) (by omega)) hS879 ta891 (iokF rfl) rfl (by rfl) ?_
            intro I893 hS894 e896 f895
            have c897 : I893 a1 5 = v3 := (f895 _ _ (fun q => by have z := ta1; rw [q.1, ta891] at z; exact absurd z (by decide))).trans c880
            have c898 : I893 a0 9 = v884 := (f895 _ _ (fun q => by have z := ta0; rw [q.1, ta891] at z; exact absurd z (by decide))).trans c885
            have w899 : RdI a0 I0 I893 := w881.keep (f895 _ _ (fun q => by have z := ta0; rw [q.1, ta891] at z; exact absurd z (by decide))) (f895 _ _ (fun q => by have z := ta0; rw [q.1, ta891] at z; exact absurd z (by decide))) (f895 _ _ (fun q => by have z := ta0; rw [q.1, ta891] at z; exact absurd z (by decide)))
            refine tr_aload_n dX12_readCall_153 rfl ?_
            refine tr_getR dX12_readCall_154 fl12_188 (kR15 hS894.1 ta0) d2 ?_
            obtain ⟨a900, d901, ta900⟩ := rf14_27 hW0 ta1
            refine tr_getR dX12_readCall_157 fl12_361 (kR14 hS894.1 ta1) d901 ?_
            refine tr_aload_n dX12_readCall_160 rfl ?_
            refine tr_getR dX12_readCall_161 fl12_188 (kR15 hS894.1 ta0) d2 ?_
            refine q_getI dX12_readCall_164 fl12_349 (kR14 hS894.1 ta1) c897 ?_
            refine tr_iload_n dX12_readCall_167 rfl ?_
            refine q_iast dX12_readCall_168 (kR70 hS894.1 ta900) (ti_in (nR70 hS894.1 ta900) (by omega) (by omega)) hS894 ta900 (iokF rfl) rfl (by rfl) ?_
            intro I902 hS903 e905 f904
            have c906 : I902 a1 5 = v3 := (f904 _ _ (fun q => by have z := ta1; rw [q.1, ta900] at z; exact absurd z (by decide))).trans c897
            have c907 : I902 a0 9 = v884 := (f904 _ _ (fun q => by have z := ta0; rw [q.1, ta900] at z; exact absurd z (by decide))).trans c898
            have w908 : RdI a0 I0 I902 := w899.keep (f904 _ _ (fun q => by have z := ta0; rw [q.1, ta900] at z; exact absurd z (by decide))) (f904 _ _ (fun q => by have z := ta0; rw [q.1, ta900] at z; exact absurd z (by decide))) (f904 _ _ (fun q => by have z := ta0; rw [q.1, ta900] at z; exact absurd z (by decide)))
            refine tr_aload_n dX12_readCall_169 rfl ?_
            refine tr_getR dX12_readCall_170 fl12_188 (kR15 hS903.1 ta0) d2 ?_
            obtain ⟨a909, d910, ta909⟩ := rf14_28 hW0 ta1
            refine tr_getR dX12_readCall_173 fl12_364 (kR14 hS903.1 ta1) d910 ?_
            refine tr_aload_n dX12_readCall_176 rfl ?_
            refine tr_getR dX12_readCall_177 fl12_188 (kR15 hS903.1 ta0) d2 ?_
            refine q_getI dX12_readCall_180 fl12_349 (kR14 hS903.1 ta1) c906 ?_
            refine tr_iload dX12_readCall_183 rfl ?_
            refine q_iast dX12_readCall_185 (kR71 hS903.1 ta909) (ti_in (nR71 hS903.1 ta909) (by omega) (by omega)) hS903 ta909 (iokF rfl) rfl (by rfl) ?_
            intro I911 hS912 e914 f913
            have c915 : I911 a1 5 = v3 := (f913 _ _ (fun q => by have z := ta1; rw [q.1, ta909] at z; exact absurd z (by decide))).trans c906
            have c916 : I911 a0 9 = v884 := (f913 _ _ (fun q => by have z := ta0; rw [q.1, ta909] at z; exact absurd z (by decide))).trans c907
            have w917 : RdI a0 I0 I911 := w908.keep (f913 _ _ (fun q => by have z := ta0; rw [q.1, ta909] at z; exact absurd z (by decide))) (f913 _ _ (fun q => by have z := ta0; rw [q.1, ta909] at z; exact absurd z (by decide))) (f913 _ _ (fun q => by have z := ta0; rw [q.1, ta909] at z; exact absurd z (by decide)))
            refine tr_aload_n dX12_readCall_186 rfl ?_
            refine tr_getR dX12_readCall_187 fl12_188 (kR15 hS912.1 ta0) d2 ?_
            obtain ⟨a918, d919, ta918⟩ := rf14_29 hW0 ta1
            refine tr_getR dX12_readCall_190 fl12_367 (kR14 hS912.1 ta1) d919 ?_
            refine tr_aload_n dX12_readCall_193 rfl ?_
            refine tr_getR dX12_readCall_194 fl12_188 (kR15 hS912.1 ta0) d2 ?_
            refine q_getI dX12_readCall_197 fl12_349 (kR14 hS912.1 ta1) c915 ?_
            refine tr_iload dX12_readCall_200 rfl ?_
            refine q_iast dX12_readCall_202 (kR72 hS912.1 ta918) (ti_in (nR72 hS912.1 ta918) (by omega) (by omega)) hS912 ta918 (iokF rfl) rfl (by rfl) ?_
            intro I920 hS921 e923 f922
            have c924 : I920 a1 5 = v3 := (f922 _ _ (fun q => by have z := ta1; rw [q.1, ta918] at z; exact absurd z (by decide))).trans c915
            have c925 : I920 a0 9 = v884 := (f922 _ _ (fun q => by have z := ta0; rw [q.1, ta918] at z; exact absurd z (by decide))).trans c916
            have w926 : RdI a0 I0 I920 := w917.keep (f922 _ _ (fun q => by have z := ta0; rw [q.1, ta918] at z; exact absurd z (by decide))) (f922 _ _ (fun q => by have z := ta0; rw [q.1, ta918] at z; exact absurd z (by decide))) (f922 _ _ (fun q => by have z := ta0; rw [q.1, ta918] at z; exact absurd z (by decide)))
            refine tr_aload_n dX12_readCall_203 rfl ?_
            refine tr_getR dX12_readCall_204 fl12_188 (kR15 hS921.1 ta0) d2 ?_
            refine tr_dup dX12_readCall_207 rfl ?_
            refine q_getI dX12_readCall_208 fl12_349 (kR14 hS921.1 ta1) c924 ?_
            refine q_iconst dX12_readCall_211 (by decide) ?_
            intro v927 h928
            refine q_iaddE dX12_readCall_212 (by intros; omega) ?_
            intro v929 h930
            refine q_putI dX12_readCall_213 fl12_349 (kR14 hS921.1 ta1) (Or.inl rfl) hS921 ta1 (by show (0 : Int) ≤ v929.toInt ∧ v929.toInt ≤ (6 : Int); omega) rfl (by decide +kernel) ?_
            intro I931 hS932 e933 f934
            have c935 : I931 a0 9 = v884 := (f934 _ _ (fun q => absurd q.2 (by decide))).trans c925
            have w936 : RdI a0 I0 I931 := w926.keep (f934 _ _ (fun q => absurd q.2 (by decide))) (f934 _ _ (fun q => absurd q.2 (by decide))) (f934 _ _ (fun q => absurd q.2 (by decide)))
            exact tr_vret hZ dX12_readCall_216 rfl (by decide) (by decide) ⟨rfl, rfl, rfl, rfl, rfl, hS932, w936, trivial⟩
          · skip
            exact tr_vret hZ dX12_readCall_136 rfl (by decide) (by decide) ⟨rfl, rfl, rfl, rfl, rfl, hS879, w881, trivial⟩
      · skip
        refine tr_aload_n dX12_readCall_55 rfl ?_
        refine q_iconst dX12_readCall_56 (by decide) ?_
        intro v937 h938
        refine q_callVv hE (M' := mX12_flaw) (as := [_]) dX12_readCall_57 lk12_145 inX12_flaw seX12_flaw myX12_flaw (by decide) ⟨by decide, by decide⟩ rfl (kR15 hS630.1 ta0) (Nat.le_of_ble_eq_true rfl) rfl rfl (by decide) (by decide) (k_X12_flaw hS630.1 ta0 (by omega)) ?_
        rintro cn' K' N' I939 R940 L941 ⟨rfl, rfl, rfl, rfl, rfl, g942, p944, p945, w946, -⟩
        have hS947 := hS630.tr g942 (by decide +kernel) (by decide +kernel)
        have c948 : I939 a1 5 = v3 := (g942.cell ta1 (by decide +kernel)).trans c631
        have c949 : I939 a0 8 = v619 := (g942.cell ta0 (by decide +kernel)).trans c632
        have w950 : RdI a0 I0 I939 := w633.rd w946
        have gd951 := Gd.go gd634 w946.stick
        obtain ⟨v952, c953⟩ : ∃ v, I939 a0 9 = v := ⟨_, rfl⟩
        have b954 := iv15_9 hS947.1 ta0 c953
        rw [c953] at p944
        rw [c949] at p945
        rw [c632] at p945
        refine tr_aload_n dX12_readCall_60 rfl ?_
        refine q_getI dX12_readCall_61 fl12_99 (kR15 hS947.1 ta0) c953 ?_
        refine q_iconst dX12_readCall_64 (by decide) ?_
        intro v955 h956
        refine q_icmp_ne 72 dX12_readCall_65 (by decide) (fun h957 => ?_) (fun h957 => ?_)
        · skip
          exfalso; omega
        · skip
          refine q_iconst dX12_readCall_68 (by decide) ?_
          intro v958 h959
          refine tr_goto 81 dX12_readCall_69 (by decide) ?_
          refine tr_istore_n dX12_readCall_81 (by decide) (by decide) ?_
          refine tr_aload_n dX12_readCall_82 rfl ?_
          obtain ⟨v960, c961⟩ : ∃ v, I939 a0 13 = v := ⟨_, rfl⟩
          refine q_callVv hE (M' := mX12_goesOn) (as := []) dX12_readCall_83 lk12_142 inX12_goesOn seX12_goesOn myX12_goesOn (by decide) ⟨by decide, by decide⟩ rfl (kR15 hS947.1 ta0) (Nat.le_of_ble_eq_true rfl) rfl rfl (by decide) (by decide) (k_X12_goesOn hS947.1 ta0) ?_
          rintro cn' K' N' I962 R963 L964 ⟨rfl, rfl, rfl, rfl, g965, p967, p968, w969, -⟩
          have hS970 := hS947.tr g965 (by decide +kernel) (by decide +kernel)
          have c971 : I962 a1 5 = v3 := (g965.cell ta1 (by decide +kernel)).trans c948
          have c972 : I962 a0 13 = v960 := (g965.cell ta0 (by decide +kernel)).trans c961
          have w973 : RdI a0 I0 I962 := w950.rd w969
          have gd974 := Gd.go gd951 w969.stick
          obtain ⟨v975, c976⟩ : ∃ v, I962 a0 9 = v := ⟨_, rfl⟩
          have b977 := iv15_9 hS970.1 ta0 c976
          rw [c953] at p967
          rw [c976] at p967
          obtain ⟨v978, c979⟩ : ∃ v, I962 a0 8 = v := ⟨_, rfl⟩
          have b980 := iv15_8 hS970.1 ta0 c979
          rw [c979] at p968
          rw [c949] at p968
          rw [c972] at p968
          rw [c961] at p968
          refine tr_aload_n dX12_readCall_86 rfl ?_
          refine tr_ldcwS dX12_readCall_87 ld12_352 ?_
          refine q_iconst dX12_readCall_90 (by decide) ?_
          intro v981 h982
          refine tr_aload_n dX12_readCall_91 rfl ?_
          refine tr_getR dX12_readCall_92 fl12_188 (kR15 hS970.1 ta0) d2 ?_
          obtain ⟨v983, c984⟩ : ∃ v, I0 a1 0 = v := ⟨_, rfl⟩
          have b985 := iv14_0 hW0 ta1 c984
          refine q_getI dX12_readCall_95 fl12_192 (kR14 hS970.1 ta1) ((hS970.cell ta1 (by decide +kernel)).trans c984) ?_
          refine q_iconst dX12_readCall_98 (by decide) ?_
          intro v986 h987
          refine q_isubE dX12_readCall_99 (by intros; omega) ?_
          intro v988 h989
          refine q_callVi hE (M' := mX12_readPart) (as := [_, _, _]) dX12_readCall_100 lk12_249 inX12_readPart seX12_readPart myX12_readPart (by decide) ⟨by decide, by decide⟩ rfl (kR15 hS970.1 ta0) (Nat.le_of_ble_eq_true rfl) rfl rfl (by decide) (by decide) (k_X12_readPart hS970.1 ta0 (by decide)) ?_
          rintro v994 cn' K' N' I990 R991 L992 ⟨rfl, rfl, rfl, rfl, g993, p995, w996, -⟩
          have hS997 := hS970.tr g993 (by decide +kernel) (by decide +kernel)
          have c998 : I990 a1 5 = v3 := (g993.cell ta1 (by decide +kernel)).trans c971
          have w999 : RdI a0 I0 I990 := w973.rd w996
          have gd1000 := Gd.go gd974 w996.stick
          have b1001 : 0 ≤ v994.toInt ∧ v994.toInt ≤ 239 := by omega
          clear p995
          refine tr_istore_n dX12_readCall_103 (by decide) (by decide) ?_
          refine tr_aload_n dX12_readCall_104 rfl ?_
          refine tr_ldcwS dX12_readCall_105 ld12_354 ?_
          refine q_iconst dX12_readCall_108 (by decide) ?_
          intro v1002 h1003
          refine q_bipush dX12_readCall_109 (by decide +kernel) ?_
          intro v1004 h1005
          refine q_callVi hE (M' := mX12_readPart) (as := [_, _, _]) dX12_readCall_111 lk12_249 inX12_readPart seX12_readPart myX12_readPart (by decide) ⟨by decide, by decide⟩ rfl (kR15 hS997.1 ta0) (Nat.le_of_ble_eq_true rfl) rfl rfl (by decide) (by decide) (k_X12_readPart hS997.1 ta0 (by decide)) ?_
          rintro v1010 cn' K' N' I1006 R1007 L1008 ⟨rfl, rfl, rfl, rfl, g1009, p1011, w1012, -⟩
          have hS1013 := hS997.tr g1009 (by decide +kernel) (by decide +kernel)
          have c1014 : I1006 a1 5 = v3 := (g1009.cell ta1 (by decide +kernel)).trans c998
          have w1015 : RdI a0 I0 I1006 := w999.rd w1012
          have gd1016 := Gd.go gd1000 w1012.stick
          have b1017 : 1 ≤ v1010.toInt ∧ v1010.toInt ≤ 60 := by omega
          clear p1011
          refine tr_istore dX12_readCall_114 (by decide) (by decide) ?_
          refine tr_aload_n dX12_readCall_116 rfl ?_
          refine tr_ldcwS dX12_readCall_117 ld12_356 ?_
          refine q_iconst dX12_readCall_120 (by decide) ?_
          intro v1018 h1019
          refine q_bipush dX12_readCall_121 (by decide +kernel) ?_
          intro v1020 h1021
          refine q_callVi hE (M' := mX12_readPart) (as := [_, _, _]) dX12_readCall_123 lk12_249 inX12_readPart seX12_readPart myX12_readPart (by decide) ⟨by decide, by decide⟩ rfl (kR15 hS1013.1 ta0) (Nat.le_of_ble_eq_true rfl) rfl rfl (by decide) (by decide) (k_X12_readPart hS1013.1 ta0 (by decide)) ?_
          rintro v1026 cn' K' N' I1022 R1023 L1024 ⟨rfl, rfl, rfl, rfl, g1025, p1027, w1028, -⟩
          have hS1029 := hS1013.tr g1025 (by decide +kernel) (by decide +kernel)
          have c1030 : I1022 a1 5 = v3 := (g1025.cell ta1 (by decide +kernel)).trans c1014
          have w1031 : RdI a0 I0 I1022 := w1015.rd w1028
          have gd1032 := Gd.go gd1016 w1028.stick
          have b1033 : 0 ≤ v1026.toInt ∧ v1026.toInt ≤ 99 := by omega
          clear p1027
          refine tr_istore dX12_readCall_126 (by decide) (by decide) ?_
          refine tr_aload_n dX12_readCall_128 rfl ?_
          obtain ⟨v1034, c1035⟩ : ∃ v, I1022 a0 9 = v := ⟨_, rfl⟩
          have b1036 := iv15_9 hS1029.1 ta0 c1035
          refine q_getI dX12_readCall_129 fl12_99 (kR15 hS1029.1 ta0) c1035 ?_
          refine q_iconst dX12_readCall_132 (by decide) ?_
          intro v1037 h1038
          refine q_icmp_ne 137 dX12_readCall_133 (by decide) (fun h1039 => ?_) (fun h1039 => ?_)
          · skip
            have p1040 := gd1032 (by rw [c1035]; omega)
            clear gd1032
            refine tr_aload_n dX12_readCall_137 rfl ?_
            refine tr_getR dX12_readCall_138 fl12_188 (kR15 hS1029.1 ta0) d2 ?_
            obtain ⟨a1041, d1042, ta1041⟩ := rf14_26 hW0 ta1
            refine tr_getR dX12_readCall_141 fl12_358 (kR14 hS1029.1 ta1) d1042 ?_
            refine tr_aload_n dX12_readCall_144 rfl ?_
            refine tr_getR dX12_readCall_145 fl12_188 (kR15 hS1029.1 ta0) d2 ?_
            refine q_getI dX12_readCall_148 fl12_349 (kR14 hS1029.1 ta1) c1030 ?_
            refine tr_iload_n dX12_readCall_151 rfl ?_
            refine q_iast dX12_readCall_152 (kR69 hS1029.1 ta1041) (ti_in (nR69 hS1029.1 ta1041) (by omega) (by omega)) hS1029 ta1041 (iokF rfl) rfl (by rfl) ?_
            intro I1043 hS1044 e1046 f1045
            have c1047 : I1043 a1 5 = v3 := (f1045 _ _ (fun q => by have z := ta1; rw [q.1, ta1041] at z; exact absurd z (by decide))).trans c1030
            have c1048 : I1043 a0 9 = v1034 := (f1045 _ _ (fun q => by have z := ta0; rw [q.1, ta1041] at z; exact absurd z (by decide))).trans c1035
            have w1049 : RdI a0 I0 I1043 := w1031.keep (f1045 _ _ (fun q => by have z := ta0; rw [q.1, ta1041] at z; exact absurd z (by decide))) (f1045 _ _ (fun q => by have z := ta0; rw [q.1, ta1041] at z; exact absurd z (by decide))) (f1045 _ _ (fun q => by have z := ta0; rw [q.1, ta1041] at z; exact absurd z (by decide)))
            refine tr_aload_n dX12_readCall_153 rfl ?_
            refine tr_getR dX12_readCall_154 fl12_188 (kR15 hS1044.1 ta0) d2 ?_
            obtain ⟨a1050, d1051, ta1050⟩ := rf14_27 hW0 ta1
            refine tr_getR dX12_readCall_157 fl12_361 (kR14 hS1044.1 ta1) d1051 ?_
            refine tr_aload_n dX12_readCall_160 rfl ?_
            refine tr_getR dX12_readCall_161 fl12_188 (kR15 hS1044.1 ta0) d2 ?_
            refine q_getI dX12_readCall_164 fl12_349 (kR14 hS1044.1 ta1) c1047 ?_
            refine tr_iload_n dX12_readCall_167 rfl ?_
            refine q_iast dX12_readCall_168 (kR70 hS1044.1 ta1050) (ti_in (nR70 hS1044.1 ta1050) (by omega) (by omega)) hS1044 ta1050 (iokF rfl) rfl (by rfl) ?_
            intro I1052 hS1053 e1055 f1054
            have c1056 : I1052 a1 5 = v3 := (f1054 _ _ (fun q => by have z := ta1; rw [q.1, ta1050] at z; exact absurd z (by decide))).trans c1047
            have c1057 : I1052 a0 9 = v1034 := (f1054 _ _ (fun q => by have z := ta0; rw [q.1, ta1050] at z; exact absurd z (by decide))).trans c1048
            have w1058 : RdI a0 I0 I1052 := w1049.keep (f1054 _ _ (fun q => by have z := ta0; rw [q.1, ta1050] at z; exact absurd z (by decide))) (f1054 _ _ (fun q => by have z := ta0; rw [q.1, ta1050] at z; exact absurd z (by decide))) (f1054 _ _ (fun q => by have z := ta0; rw [q.1, ta1050] at z; exact absurd z (by decide)))
            refine tr_aload_n dX12_readCall_169 rfl ?_
            refine tr_getR dX12_readCall_170 fl12_188 (kR15 hS1053.1 ta0) d2 ?_
            obtain ⟨a1059, d1060, ta1059⟩ := rf14_28 hW0 ta1
            refine tr_getR dX12_readCall_173 fl12_364 (kR14 hS1053.1 ta1) d1060 ?_
            refine tr_aload_n dX12_readCall_176 rfl ?_
            refine tr_getR dX12_readCall_177 fl12_188 (kR15 hS1053.1 ta0) d2 ?_
            refine q_getI dX12_readCall_180 fl12_349 (kR14 hS1053.1 ta1) c1056 ?_
            refine tr_iload dX12_readCall_183 rfl ?_
            refine q_iast dX12_readCall_185 (kR71 hS1053.1 ta1059) (ti_in (nR71 hS1053.1 ta1059) (by omega) (by omega)) hS1053 ta1059 (iokF rfl) rfl (by rfl) ?_
            intro I1061 hS1062 e1064 f1063
            have c1065 : I1061 a1 5 = v3 := (f1063 _ _ (fun q => by have z := ta1; rw [q.1, ta1059] at z; exact absurd z (by decide))).trans c1056
            have c1066 : I1061 a0 9 = v1034 := (f1063 _ _ (fun q => by have z := ta0; rw [q.1, ta1059] at z; exact absurd z (by decide))).trans c1057
            have w1067 : RdI a0 I0 I1061 := w1058.keep (f1063 _ _ (fun q => by have z := ta0; rw [q.1, ta1059] at z; exact absurd z (by decide))) (f1063 _ _ (fun q => by have z := ta0; rw [q.1, ta1059] at z; exact absurd z (by decide))) (f1063 _ _ (fun q => by have z := ta0; rw [q.1, ta1059] at z; exact absurd z (by decide)))
            refine tr_aload_n dX12_readCall_186 rfl ?_
            refine tr_getR dX12_readCall_187 fl12_188 (kR15 hS1062.1 ta0) d2 ?_
            obtain ⟨a1068, d1069, ta1068⟩ := rf14_29 hW0 ta1
            refine tr_getR dX12_readCall_190 fl12_367 (kR14 hS1062.1 ta1) d1069 ?_
            refine tr_aload_n dX12_readCall_193 rfl ?_
            refine tr_getR dX12_readCall_194 fl12_188 (kR15 hS1062.1 ta0) d2 ?_
            refine q_getI dX12_readCall_197 fl12_349 (kR14 hS1062.1 ta1) c1065 ?_
            refine tr_iload dX12_readCall_200 rfl ?_
            refine q_iast dX12_readCall_202 (kR72 hS1062.1 ta1068) (ti_in (nR72 hS1062.1 ta1068) (by omega) (by omega)) hS1062 ta1068 (iokF rfl) rfl (by rfl) ?_
            intro I1070 hS1071 e1073 f1072
            have c1074 : I1070 a1 5 = v3 := (f1072 _ _ (fun q => by have z := ta1; rw [q.1, ta1068] at z; exact absurd z (by decide))).trans c1065
            have c1075 : I1070 a0 9 = v1034 := (f1072 _ _ (fun q => by have z := ta0; rw [q.1, ta1068] at z; exact absurd z (by decide))).trans c1066
            have w1076 : RdI a0 I0 I1070 := w1067.keep (f1072 _ _ (fun q => by have z := ta0; rw [q.1, ta1068] at z; exact absurd z (by decide))) (f1072 _ _ (fun q => by have z := ta0; rw [q.1, ta1068] at z; exact absurd z (by decide))) (f1072 _ _ (fun q => by have z := ta0; rw [q.1, ta1068] at z; exact absurd z (by decide)))
            refine tr_aload_n dX12_readCall_203 rfl ?_
            refine tr_getR dX12_readCall_204 fl12_188 (kR15 hS1071.1 ta0) d2 ?_
            refine tr_dup dX12_readCall_207 rfl ?_
            refine q_getI dX12_readCall_208 fl12_349 (kR14 hS1071.1 ta1) c1074 ?_
            refine q_iconst dX12_readCall_211 (by decide) ?_
            intro v1077 h1078
            refine q_iaddE dX12_readCall_212 (by intros; omega) ?_
            intro v1079 h1080
            refine q_putI dX12_readCall_213 fl12_349 (kR14 hS1071.1 ta1) (Or.inl rfl) hS1071 ta1 (by show (0 : Int) ≤ v1079.toInt ∧ v1079.toInt ≤ (6 : Int); omega) rfl (by decide +kernel) ?_
            intro I1081 hS1082 e1083 f1084
            have c1085 : I1081 a0 9 = v1034 := (f1084 _ _ (fun q => absurd q.2 (by decide))).trans c1075
            have w1086 : RdI a0 I0 I1081 := w1076.keep (f1084 _ _ (fun q => absurd q.2 (by decide))) (f1084 _ _ (fun q => absurd q.2 (by decide))) (f1084 _ _ (fun q => absurd q.2 (by decide)))
            exact tr_vret hZ dX12_readCall_216 rfl (by decide) (by decide) ⟨rfl, rfl, rfl, rfl, rfl, hS1082, w1086, trivial⟩
          · skip
            exact tr_vret hZ dX12_readCall_136 rfl (by decide) (by decide) ⟨rfl, rfl, rfl, rfl, rfl, hS1029, w1031, trivial⟩
def wi_X12_readFresh : List Nat := [968, 969, 970, 971, 972, 973, 974]
def wr_X12_readFresh : List Nat := []
set_option maxHeartbeats 4000000 in
theorem k_X12_readFresh {l : Launch} {T : Nat → Nat} {cn : Nat} {K N : Nat → Nat} {I0 : cz_I} {R0 : cz_R} {L0 : cz_L} {d : Int} (hW0 : Wf T cn K N I0 R0 d) {a0 : Nat} (ta0 : T a0 = 15) (nn4 : ∃ b, R0 a0 4 = some b) : ConE l mX12_readFresh [.ref a0] cn K N I0 R0 L0 (ca_l (fun v cn' K' N' I' R' L' => cn = cn' ∧ K = K' ∧ N = N' ∧ R0 = R' ∧ St T cn K N d wi_X12_readFresh wr_X12_readFresh I0 R0 I' R0 ∧ RdI a0 I0 I' ∧ True)) := by
  refine ConE.of (by decide +kernel) rfl (Nat.le_of_ble_eq_true rfl) rfl (fun X hX hZ hE => ?_)
  subst hX
  have hS0 : St T cn K N d wi_X12_readFresh wr_X12_readFresh I0 R0 I0 R0 := St.rf0 hW0
  obtain ⟨a1, d2⟩ := nn4
  have ta1 : T a1 = 14 := hW0.rsN ta0 rfl d2
  refine tr_aload_n dX12_readFresh_0 rfl ?_
  refine q_callVi hE (M' := mX12_isName) (as := []) dX12_readFresh_1 lk12_197 inX12_isName seX12_isName myX12_isName (by decide) ⟨by decide, by decide⟩ rfl (kR15 hS0.1 ta0) (Nat.le_of_ble_eq_true rfl) rfl rfl (by decide) (by decide) (k_X12_isName hS0.1 ta0) ?_
  rintro v7 cn' K' N' I3 R4 L5 ⟨rfl, rfl, rfl, rfl, rfl, rfl, h8, -⟩
  refine q_if_ne 12 dX12_readFresh_4 (by decide) (fun h9 => ?_) (fun h9 => ?_)
  · skip
    refine tr_aload_n dX12_readFresh_12 rfl ?_
    refine tr_getR dX12_readFresh_13 fl12_188 (kR15 hS0.1 ta0) d2 ?_
    refine tr_aload_n dX12_readFresh_16 rfl ?_
    refine q_getL dX12_readFresh_17 fl12_118 (kR15 hS0.1 ta0) ?_
    intro y10
    refine q_callVi hE (M' := mX11_find) (as := [_]) dX12_readFresh_20 lk12_201 inX11_find seX11_find myX11_find (by decide) ⟨by decide, by decide⟩ rfl (kR14 hS0.1 ta1) (Nat.le_of_ble_eq_true rfl) rfl rfl (by decide) (by decide) (k_X11_find hS0.1 ta1) ?_
    rintro v15 cn' K' N' I11 R12 L13 ⟨rfl, rfl, rfl, rfl, rfl, rfl, h16, -⟩
    refine q_iconst dX12_readFresh_23 (by decide) ?_
    intro v17 h18
    refine q_icmp_eq 32 dX12_readFresh_24 (by decide) (fun h19 => ?_) (fun h19 => ?_)
    · skip
      refine tr_aload_n dX12_readFresh_32 rfl ?_
      refine q_getL dX12_readFresh_33 fl12_118 (kR15 hS0.1 ta0) ?_
      intro y20
      refine tr_lstore_n dX12_readFresh_36 (by decide) (by decide) (by decide) ?_
      refine tr_aload_n dX12_readFresh_37 rfl ?_
      obtain ⟨v21, c22⟩ : ∃ v, I0 a0 9 = v := ⟨_, rfl⟩
      have b23 := iv15_9 hS0.1 ta0 c22
      obtain ⟨v24, c25⟩ : ∃ v, I0 a0 8 = v := ⟨_, rfl⟩
      have b26 := iv15_8 hS0.1 ta0 c25
      obtain ⟨v27, c28⟩ : ∃ v, I0 a0 13 = v := ⟨_, rfl⟩
      refine q_callVv hE (M' := mX12_goesOn) (as := []) dX12_readFresh_38 lk12_142 inX12_goesOn seX12_goesOn myX12_goesOn (by decide) ⟨by decide, by decide⟩ rfl (kR15 hS0.1 ta0) (Nat.le_of_ble_eq_true rfl) rfl rfl (by decide) (by decide) (k_X12_goesOn hS0.1 ta0) ?_
      rintro cn' K' N' I29 R30 L31 ⟨rfl, rfl, rfl, rfl, g32, p34, p35, w36, -⟩
      have hS37 := hS0.tr g32 (by decide +kernel) (by decide +kernel)
      have c38 : I29 a0 13 = v27 := (g32.cell ta0 (by decide +kernel)).trans c28
      have w39 : RdI a0 I0 I29 := (EwI.rf a0 I0).rd w36
      obtain ⟨v40, c41⟩ : ∃ v, I29 a0 9 = v := ⟨_, rfl⟩
      have b42 := iv15_9 hS37.1 ta0 c41
      rw [c22] at p34
      rw [c41] at p34
      obtain ⟨v43, c44⟩ : ∃ v, I29 a0 8 = v := ⟨_, rfl⟩
      have b45 := iv15_8 hS37.1 ta0 c44
      rw [c44] at p35
      rw [c25] at p35
      rw [c38] at p35
      rw [c28] at p35
      refine tr_lload_n dX12_readFresh_41 rfl ?_
      exact tr_lret hZ dX12_readFresh_42 rfl (by decide) (by decide) ⟨y20, rfl, rfl, rfl, rfl, rfl, hS37, w39, trivial⟩
    · skip
      refine tr_aload_n dX12_readFresh_27 rfl ?_
      refine q_iconst dX12_readFresh_28 (by decide) ?_
      intro v46 h47
      obtain ⟨v48, c49⟩ : ∃ v, I0 a0 8 = v := ⟨_, rfl⟩
      have b50 := iv15_8 hS0.1 ta0 c49
      refine q_callVv hE (M' := mX12_flaw) (as := [_]) dX12_readFresh_29 lk12_145 inX12_flaw seX12_flaw myX12_flaw (by decide) ⟨by decide, by decide⟩ rfl (kR15 hS0.1 ta0) (Nat.le_of_ble_eq_true rfl) rfl rfl (by decide) (by decide) (k_X12_flaw hS0.1 ta0 (by omega)) ?_
      rintro cn' K' N' I51 R52 L53 ⟨rfl, rfl, rfl, rfl, rfl, g54, p56, p57, w58, -⟩
      have hS59 := hS0.tr g54 (by decide +kernel) (by decide +kernel)
      have c60 : I51 a0 8 = v48 := (g54.cell ta0 (by decide +kernel)).trans c49
      have w61 : RdI a0 I0 I51 := (EwI.rf a0 I0).rd w58
      obtain ⟨v62, c63⟩ : ∃ v, I51 a0 9 = v := ⟨_, rfl⟩
      have b64 := iv15_9 hS59.1 ta0 c63
      rw [c63] at p56
      rw [c60] at p57
      rw [c49] at p57
      refine tr_aload_n dX12_readFresh_32 rfl ?_
      refine q_getL dX12_readFresh_33 fl12_118 (kR15 hS59.1 ta0) ?_
      intro y65
      refine tr_lstore_n dX12_readFresh_36 (by decide) (by decide) (by decide) ?_
      refine tr_aload_n dX12_readFresh_37 rfl ?_
      obtain ⟨v66, c67⟩ : ∃ v, I51 a0 13 = v := ⟨_, rfl⟩
      refine q_callVv hE (M' := mX12_goesOn) (as := []) dX12_readFresh_38 lk12_142 inX12_goesOn seX12_goesOn myX12_goesOn (by decide) ⟨by decide, by decide⟩ rfl (kR15 hS59.1 ta0) (Nat.le_of_ble_eq_true rfl) rfl rfl (by decide) (by decide) (k_X12_goesOn hS59.1 ta0) ?_
      rintro cn' K' N' I68 R69 L70 ⟨rfl, rfl, rfl, rfl, g71, p73, p74, w75, -⟩
      have hS76 := hS59.tr g71 (by decide +kernel) (by decide +kernel)
      have c77 : I68 a0 13 = v66 := (g71.cell ta0 (by decide +kernel)).trans c67
      have w78 : RdI a0 I0 I68 := w61.rd w75
      obtain ⟨v79, c80⟩ : ∃ v, I68 a0 9 = v := ⟨_, rfl⟩
      have b81 := iv15_9 hS76.1 ta0 c80
      rw [c63] at p73
      rw [c80] at p73
      obtain ⟨v82, c83⟩ : ∃ v, I68 a0 8 = v := ⟨_, rfl⟩
      have b84 := iv15_8 hS76.1 ta0 c83
      rw [c83] at p74
      rw [c60] at p74
      rw [c77] at p74
      rw [c67] at p74
      refine tr_lload_n dX12_readFresh_41 rfl ?_
      exact tr_lret hZ dX12_readFresh_42 rfl (by decide) (by decide) ⟨y65, rfl, rfl, rfl, rfl, rfl, hS76, w78, trivial⟩
  · skip
    refine tr_aload_n dX12_readFresh_7 rfl ?_
    refine q_iconst dX12_readFresh_8 (by decide) ?_
    intro v85 h86
    obtain ⟨v87, c88⟩ : ∃ v, I0 a0 8 = v := ⟨_, rfl⟩
    have b89 := iv15_8 hS0.1 ta0 c88
    refine q_callVv hE (M' := mX12_flaw) (as := [_]) dX12_readFresh_9 lk12_145 inX12_flaw seX12_flaw myX12_flaw (by decide) ⟨by decide, by decide⟩ rfl (kR15 hS0.1 ta0) (Nat.le_of_ble_eq_true rfl) rfl rfl (by decide) (by decide) (k_X12_flaw hS0.1 ta0 (by omega)) ?_
    rintro cn' K' N' I90 R91 L92 ⟨rfl, rfl, rfl, rfl, rfl, g93, p95, p96, w97, -⟩
    have hS98 := hS0.tr g93 (by decide +kernel) (by decide +kernel)
    have c99 : I90 a0 8 = v87 := (g93.cell ta0 (by decide +kernel)).trans c88
    have w100 : RdI a0 I0 I90 := (EwI.rf a0 I0).rd w97
    obtain ⟨v101, c102⟩ : ∃ v, I90 a0 9 = v := ⟨_, rfl⟩
    have b103 := iv15_9 hS98.1 ta0 c102
    rw [c102] at p95
    rw [c99] at p96
    rw [c88] at p96
    refine tr_aload_n dX12_readFresh_12 rfl ?_
    refine tr_getR dX12_readFresh_13 fl12_188 (kR15 hS98.1 ta0) d2 ?_
    refine tr_aload_n dX12_readFresh_16 rfl ?_
    refine q_getL dX12_readFresh_17 fl12_118 (kR15 hS98.1 ta0) ?_
    intro y104
    refine q_callVi hE (M' := mX11_find) (as := [_]) dX12_readFresh_20 lk12_201 inX11_find seX11_find myX11_find (by decide) ⟨by decide, by decide⟩ rfl (kR14 hS98.1 ta1) (Nat.le_of_ble_eq_true rfl) rfl rfl (by decide) (by decide) (k_X11_find hS98.1 ta1) ?_
    rintro v109 cn' K' N' I105 R106 L107 ⟨rfl, rfl, rfl, rfl, rfl, rfl, h110, -⟩
    refine q_iconst dX12_readFresh_23 (by decide) ?_
    intro v111 h112
    refine q_icmp_eq 32 dX12_readFresh_24 (by decide) (fun h113 => ?_) (fun h113 => ?_)
    · skip
      refine tr_aload_n dX12_readFresh_32 rfl ?_
      refine q_getL dX12_readFresh_33 fl12_118 (kR15 hS98.1 ta0) ?_
      intro y114
      refine tr_lstore_n dX12_readFresh_36 (by decide) (by decide) (by decide) ?_
      refine tr_aload_n dX12_readFresh_37 rfl ?_
      obtain ⟨v115, c116⟩ : ∃ v, I90 a0 13 = v := ⟨_, rfl⟩
      refine q_callVv hE (M' := mX12_goesOn) (as := []) dX12_readFresh_38 lk12_142 inX12_goesOn seX12_goesOn myX12_goesOn (by decide) ⟨by decide, by decide⟩ rfl (kR15 hS98.1 ta0) (Nat.le_of_ble_eq_true rfl) rfl rfl (by decide) (by decide) (k_X12_goesOn hS98.1 ta0) ?_
      rintro cn' K' N' I117 R118 L119 ⟨rfl, rfl, rfl, rfl, g120, p122, p123, w124, -⟩
      have hS125 := hS98.tr g120 (by decide +kernel) (by decide +kernel)
      have c126 : I117 a0 13 = v115 := (g120.cell ta0 (by decide +kernel)).trans c116
      have w127 : RdI a0 I0 I117 := w100.rd w124
      obtain ⟨v128, c129⟩ : ∃ v, I117 a0 9 = v := ⟨_, rfl⟩
      have b130 := iv15_9 hS125.1 ta0 c129
      rw [c102] at p122
      rw [c129] at p122
      obtain ⟨v131, c132⟩ : ∃ v, I117 a0 8 = v := ⟨_, rfl⟩
      have b133 := iv15_8 hS125.1 ta0 c132
      rw [c132] at p123
      rw [c99] at p123
      rw [c126] at p123
      rw [c116] at p123
      refine tr_lload_n dX12_readFresh_41 rfl ?_
      exact tr_lret hZ dX12_readFresh_42 rfl (by decide) (by decide) ⟨y114, rfl, rfl, rfl, rfl, rfl, hS125, w127, trivial⟩
    · skip
      refine tr_aload_n dX12_readFresh_27 rfl ?_
      refine q_iconst dX12_readFresh_28 (by decide) ?_
      intro v134 h135
      refine q_callVv hE (M' := mX12_flaw) (as := [_]) dX12_readFresh_29 lk12_145 inX12_flaw seX12_flaw myX12_flaw (by decide) ⟨by decide, by decide⟩ rfl (kR15 hS98.1 ta0) (Nat.le_of_ble_eq_true rfl) rfl rfl (by decide) (by decide) (k_X12_flaw hS98.1 ta0 (by omega)) ?_
      rintro cn' K' N' I136 R137 L138 ⟨rfl, rfl, rfl, rfl, rfl, g139, p141, p142, w143, -⟩
      have hS144 := hS98.tr g139 (by decide +kernel) (by decide +kernel)
      have c145 : I136 a0 8 = v87 := (g139.cell ta0 (by decide +kernel)).trans c99
      have w146 : RdI a0 I0 I136 := w100.rd w143
      obtain ⟨v147, c148⟩ : ∃ v, I136 a0 9 = v := ⟨_, rfl⟩
      have b149 := iv15_9 hS144.1 ta0 c148
      rw [c148] at p141
      rw [c145] at p142
      rw [c99] at p142
      refine tr_aload_n dX12_readFresh_32 rfl ?_
      refine q_getL dX12_readFresh_33 fl12_118 (kR15 hS144.1 ta0) ?_
      intro y150
      refine tr_lstore_n dX12_readFresh_36 (by decide) (by decide) (by decide) ?_
      refine tr_aload_n dX12_readFresh_37 rfl ?_
      obtain ⟨v151, c152⟩ : ∃ v, I136 a0 13 = v := ⟨_, rfl⟩
      refine q_callVv hE (M' := mX12_goesOn) (as := []) dX12_readFresh_38 lk12_142 inX12_goesOn seX12_goesOn myX12_goesOn (by decide) ⟨by decide, by decide⟩ rfl (kR15 hS144.1 ta0) (Nat.le_of_ble_eq_true rfl) rfl rfl (by decide) (by decide) (k_X12_goesOn hS144.1 ta0) ?_
      rintro cn' K' N' I153 R154 L155 ⟨rfl, rfl, rfl, rfl, g156, p158, p159, w160, -⟩
      have hS161 := hS144.tr g156 (by decide +kernel) (by decide +kernel)
      have c162 : I153 a0 13 = v151 := (g156.cell ta0 (by decide +kernel)).trans c152
      have w163 : RdI a0 I0 I153 := w146.rd w160
      obtain ⟨v164, c165⟩ : ∃ v, I153 a0 9 = v := ⟨_, rfl⟩
      have b166 := iv15_9 hS161.1 ta0 c165
      rw [c148] at p158
      rw [c165] at p158
      obtain ⟨v167, c168⟩ : ∃ v, I153 a0 8 = v := ⟨_, rfl⟩
      have b169 := iv15_8 hS161.1 ta0 c168
      rw [c168] at p159
      rw [c145] at p159
      rw [c162] at p159
      rw [c152] at p159
      refine tr_lload_n dX12_readFresh_41 rfl ?_
      exact tr_lret hZ dX12_readFresh_42 rfl (by decide) (by decide) ⟨y150, rfl, rfl, rfl, rfl, rfl, hS161, w163, trivial⟩
def wi_X12_eatsWord : List Nat := [968, 969, 970, 971, 972]
def wr_X12_eatsWord : List Nat := []
set_option maxHeartbeats 4000000 in
theorem k_X12_eatsWord {l : Launch} {T : Nat → Nat} {cn : Nat} {K N : Nat → Nat} {I0 : cz_I} {R0 : cz_R} {L0 : cz_L} {d : Int} (hW0 : Wf T cn K N I0 R0 d) {a0 : Nat} (ta0 : T a0 = 15) {u1 : UInt32} (hu1 : u1.toNat < cz_NS) : ConE l mX12_eatsWord [.ref a0, .float u1] cn K N I0 R0 L0 (ca_i (fun v cn' K' N' I' R' L' => cn = cn' ∧ K = K' ∧ N = N' ∧ R0 = R' ∧ St T cn K N d wi_X12_eatsWord wr_X12_eatsWord I0 R0 I' R0 ∧ (0 ≤ v.toInt ∧ v.toInt ≤ 1) ∧ EwI a0 I0 I' ∧ True)) := by
  refine ConE.of (by decide +kernel) rfl (Nat.le_of_ble_eq_true rfl) rfl (fun X hX hZ hE => ?_)
  subst hX
  have hS0 : St T cn K N d wi_X12_eatsWord wr_X12_eatsWord I0 R0 I0 R0 := St.rf0 hW0
  refine tr_aload_n dX12_eatsWord_0 rfl ?_
  refine tr_aload_nS dX12_eatsWord_1 rfl ?_
  obtain ⟨v1, c2⟩ : ∃ v, I0 a0 9 = v := ⟨_, rfl⟩
  have b3 := iv15_9 hS0.1 ta0 c2
  refine q_callVi hE (M' := mX12_isWord) (as := [_]) dX12_eatsWord_2 lk12_138 inX12_isWord seX12_isWord myX12_isWord (by decide) ⟨by decide, by decide⟩ rfl (kR15 hS0.1 ta0) (Nat.le_of_ble_eq_true rfl) rfl rfl (by decide) (by decide) (k_X12_isWord hS0.1 ta0 hu1) ?_
  rintro v8 cn' K' N' I4 R5 L6 ⟨rfl, rfl, rfl, rfl, rfl, rfl, h9, p10, -⟩
  rw [c2] at p10
  refine tr_istore_n dX12_eatsWord_5 (by decide) (by decide) ?_
  refine tr_iload_n dX12_eatsWord_6 rfl ?_
  refine q_if_eq 14 dX12_eatsWord_7 (by decide) (fun h11 => ?_) (fun h11 => ?_)
  · skip
    refine tr_iload_n dX12_eatsWord_14 rfl ?_
    exact tr_zret hZ dX12_eatsWord_15 rfl (ti_b01 (by omega) (by omega)) (by decide) (by decide) ⟨v8, rfl, rfl, rfl, rfl, rfl, hS0, (by omega), (EwI.rf a0 I0), trivial⟩
  · skip
    refine tr_aload_n dX12_eatsWord_10 rfl ?_
    obtain ⟨v12, c13⟩ : ∃ v, I0 a0 8 = v := ⟨_, rfl⟩
    have b14 := iv15_8 hS0.1 ta0 c13
    obtain ⟨v15, c16⟩ : ∃ v, I0 a0 13 = v := ⟨_, rfl⟩
    refine q_callVv hE (M' := mX12_goesOn) (as := []) dX12_eatsWord_11 lk12_142 inX12_goesOn seX12_goesOn myX12_goesOn (by decide) ⟨by decide, by decide⟩ rfl (kR15 hS0.1 ta0) (Nat.le_of_ble_eq_true rfl) rfl rfl (by decide) (by decide) (k_X12_goesOn hS0.1 ta0) ?_
    rintro cn' K' N' I17 R18 L19 ⟨rfl, rfl, rfl, rfl, g20, p22, p23, w24, -⟩
    have hS25 := hS0.tr g20 (by decide +kernel) (by decide +kernel)
    have w26 : RdI a0 I0 I17 := (EwI.rf a0 I0).rd w24
    obtain ⟨v27, c28⟩ : ∃ v, I17 a0 9 = v := ⟨_, rfl⟩
    have b29 := iv15_9 hS25.1 ta0 c28
    rw [c2] at p22
    rw [c28] at p22
    obtain ⟨v30, c31⟩ : ∃ v, I17 a0 8 = v := ⟨_, rfl⟩
    have b32 := iv15_8 hS25.1 ta0 c31
    rw [c31] at p23
    rw [c13] at p23
    rw [((hS25.cell ta0 (by decide +kernel)).trans c16)] at p23
    rw [c16] at p23
    refine tr_iload_n dX12_eatsWord_14 rfl ?_
    exact tr_zret hZ dX12_eatsWord_15 rfl (ti_b01 (by omega) (by omega)) (by decide) (by decide) ⟨v8, rfl, rfl, rfl, rfl, rfl, hS25, (by omega), (Or.inr w26), trivial⟩
def wi_X12_names : List Nat := [903, 4799, 4863]
def wr_X12_names : List Nat := []
set_option maxHeartbeats 4000000 in
theorem k_X12_names {l : Launch} {T : Nat → Nat} {cn : Nat} {K N : Nat → Nat} {I0 : cz_I} {R0 : cz_R} {L0 : cz_L} (hW0 : Wf T cn K N I0 R0 0) {a0 : Nat} (ta0 : T a0 = 15) {y1 : Int64} {x2 : Int32} {x3 : Int32} (pre0 : ∀ b1, R0 a0 4 = some b1 → (I0 b1 7).toInt ≤ 12) (nn4 : ∃ b, R0 a0 4 = some b) : ConE l mX12_names [.ref a0, .long y1, .int x2, .int x3] cn K N I0 R0 L0 (ca_v (fun cn' K' N' I' R' L' => cn = cn' ∧ K = K' ∧ N = N' ∧ R0 = R' ∧ St T cn K N 1 wi_X12_names wr_X12_names I0 R0 I' R0 ∧ True)) := by
  refine ConE.of (by decide +kernel) rfl (Nat.le_of_ble_eq_true rfl) rfl (fun X hX hZ hE => ?_)
  subst hX
  have hS0 : St T cn K N 0 wi_X12_names wr_X12_names I0 R0 I0 R0 := St.rf0 hW0
  obtain ⟨a1, d2⟩ := nn4
  have ta1 : T a1 = 14 := hW0.rsN ta0 rfl d2
  obtain ⟨v3, c4⟩ : ∃ v, I0 a1 7 = v := ⟨_, rfl⟩
  have b5 := iv14_7 hS0.1 ta1 c4
  have p6 := pre0 _ d2
  rw [c4] at p6
  refine tr_aload_n dX12_names_0 rfl ?_
  refine tr_getR dX12_names_1 fl12_188 (kR15 hS0.1 ta0) d2 ?_
  obtain ⟨a7, d8, ta7⟩ := rf14_30 hW0 ta1
  refine tr_getR dX12_names_4 fl12_205 (kR14 hS0.1 ta1) d8 ?_
  refine tr_aload_n dX12_names_7 rfl ?_
  refine tr_getR dX12_names_8 fl12_188 (kR15 hS0.1 ta0) d2 ?_
  refine q_getI dX12_names_11 fl12_209 (kR14 hS0.1 ta1) c4 ?_
  refine tr_lload_n dX12_names_14 rfl ?_
  refine q_last dX12_names_15 (kR73 hS0.1 ta7) (ti_in (nR73 hS0.1 ta7) (by omega) (by omega)) ?_
  intro L9
  refine tr_aload_n dX12_names_16 rfl ?_
  refine tr_getR dX12_names_17 fl12_188 (kR15 hS0.1 ta0) d2 ?_
  obtain ⟨a10, d11, ta10⟩ := rf14_31 hW0 ta1
  refine tr_getR dX12_names_20 fl12_212 (kR14 hS0.1 ta1) d11 ?_
  refine tr_aload_n dX12_names_23 rfl ?_
  refine tr_getR dX12_names_24 fl12_188 (kR15 hS0.1 ta0) d2 ?_
  refine q_getI dX12_names_27 fl12_209 (kR14 hS0.1 ta1) c4 ?_
  refine tr_iload_n dX12_names_30 rfl ?_
  refine q_iast dX12_names_31 (kR74 hS0.1 ta10) (ti_in (nR74 hS0.1 ta10) (by omega) (by omega)) hS0 ta10 (iokF rfl) rfl (by rfl) ?_
  intro I12 hS13 e15 f14
  have c16 : I12 a1 7 = v3 := (f14 _ _ (fun q => by have z := ta1; rw [q.1, ta10] at z; exact absurd z (by decide))).trans c4
  refine tr_aload_n dX12_names_32 rfl ?_
  refine tr_getR dX12_names_33 fl12_188 (kR15 hS13.1 ta0) d2 ?_
  obtain ⟨a17, d18, ta17⟩ := rf14_32 hW0 ta1
  refine tr_getR dX12_names_36 fl12_215 (kR14 hS13.1 ta1) d18 ?_
  refine tr_aload_n dX12_names_39 rfl ?_
  refine tr_getR dX12_names_40 fl12_188 (kR15 hS13.1 ta0) d2 ?_
  refine q_getI dX12_names_43 fl12_209 (kR14 hS13.1 ta1) c16 ?_
  refine tr_iload dX12_names_46 rfl ?_
  refine q_iast dX12_names_48 (kR75 hS13.1 ta17) (ti_in (nR75 hS13.1 ta17) (by omega) (by omega)) hS13 ta17 (iokF rfl) rfl (by rfl) ?_
  intro I19 hS20 e22 f21
  have c23 : I19 a1 7 = v3 := (f21 _ _ (fun q => by have z := ta1; rw [q.1, ta17] at z; exact absurd z (by decide))).trans c16
  refine tr_aload_n dX12_names_49 rfl ?_
  refine tr_getR dX12_names_50 fl12_188 (kR15 hS20.1 ta0) d2 ?_
  refine tr_dup dX12_names_53 rfl ?_
  refine q_getI dX12_names_54 fl12_209 (kR14 hS20.1 ta1) c23 ?_
  refine q_iconst dX12_names_57 (by decide) ?_
  intro v24 h25
  refine q_iaddE dX12_names_58 (by intros; omega) ?_
  intro v26 h27
  refine q_putX dX12_names_59 fl12_209 (kR14 hS20.1 ta1) (Or.inl rfl) hS20 ta1 (by decide +kernel) (hS20.1.putN (d' := 1) ta0 d2 (Or.inl rfl) (by rw [c23]; omega) (by decide) (by show (0 : Int) ≤ v26.toInt ∧ v26.toInt ≤ (13 : Int); omega)) ?_
  intro I28 hS29 e30 f31
  exact tr_vret hZ dX12_names_62 rfl (by decide) (by decide) ⟨rfl, rfl, rfl, rfl, rfl, hS29, trivial⟩
def wi_X12_readTurner : List Nat := [900, 903, 968, 969, 970, 971, 972, 973, 974, 4095, 4159, 4223, 4287, 4351, 4415, 4799, 4863]
def wr_X12_readTurner : List Nat := []
set_option maxHeartbeats 4000000 in
theorem k_X12_readTurner {l : Launch} {T : Nat → Nat} {cn : Nat} {K N : Nat → Nat} {I0 : cz_I} {R0 : cz_R} {L0 : cz_L} (hW0 : Wf T cn K N I0 R0 0) {a0 : Nat} (ta0 : T a0 = 15) (nn4 : ∃ b, R0 a0 4 = some b) : ConE l mX12_readTurner [.ref a0] cn K N I0 R0 L0 (ca_v (fun cn' K' N' I' R' L' => cn = cn' ∧ K = K' ∧ N = N' ∧ R0 = R' ∧ St T cn K N 0 wi_X12_readTurner wr_X12_readTurner I0 R0 I' R0 ∧ RdI a0 I0 I' ∧ True)) := by
  refine ConE.of (by decide +kernel) rfl (Nat.le_of_ble_eq_true rfl) rfl (fun X hX hZ hE => ?_)
  subst hX
  have hS0 : St T cn K N 0 wi_X12_readTurner wr_X12_readTurner I0 R0 I0 R0 := St.rf0 hW0
  obtain ⟨a1, d2⟩ := nn4
  have ta1 : T a1 = 14 := hW0.rsN ta0 rfl d2
  refine tr_aload_n dX12_readTurner_0 rfl ?_
  refine tr_aload_n dX12_readTurner_1 rfl ?_
  refine tr_getR dX12_readTurner_2 fl12_188 (kR15 hS0.1 ta0) d2 ?_
  obtain ⟨v3, c4⟩ : ∃ v, I0 a1 4 = v := ⟨_, rfl⟩
  have b5 := iv14_4 hS0.1 ta1 c4
  refine q_getI dX12_readTurner_5 fl12_315 (kR14 hS0.1 ta1) c4 ?_
  refine q_iconst dX12_readTurner_8 (by decide) ?_
  intro v6 h7
  refine q_callVv hE (M' := mX12_begins) (as := [_, _]) dX12_readTurner_9 lk12_268 inX12_begins seX12_begins myX12_begins (by decide) ⟨by decide, by decide⟩ rfl (kR15 hS0.1 ta0) (Nat.le_of_ble_eq_true rfl) rfl rfl (by decide) (by decide) (k_X12_begins hS0.1 ta0 ⟨_, d2⟩) ?_
  rintro cn' K' N' I8 R9 L10 ⟨rfl, rfl, rfl, rfl, g11, p13, w14, -⟩
  have hS15 := hS0.tr g11 (by decide +kernel) (by decide +kernel)
  have c16 : I8 a1 4 = v3 := (g11.cell ta1 (by decide +kernel)).trans c4
  have w17 : RdI a0 I0 I8 := (EwI.rf a0 I0).rd w14
  obtain ⟨v18, c19⟩ : ∃ v, I8 a0 9 = v := ⟨_, rfl⟩
  have b20 := iv15_9 hS15.1 ta0 c19
  have gd21 : Gd (I8 a0 9) (v3.toInt ≠ v6.toInt) := p13
  clear p13
  refine tr_aload_n dX12_readTurner_12 rfl ?_
  refine q_callVl hE (M' := mX12_readFresh) (as := []) dX12_readTurner_13 lk12_285 inX12_readFresh seX12_readFresh myX12_readFresh (by decide) ⟨by decide, by decide⟩ rfl (kR15 hS15.1 ta0) (Nat.le_of_ble_eq_true rfl) rfl rfl (by decide) (by decide) (k_X12_readFresh hS15.1 ta0 ⟨_, d2⟩) ?_
  rintro y26 cn' K' N' I22 R23 L24 ⟨rfl, rfl, rfl, rfl, g25, w27, -⟩
  have hS28 := hS15.tr g25 (by decide +kernel) (by decide +kernel)
  have c29 : I22 a1 4 = v3 := (g25.cell ta1 (by decide +kernel)).trans c16
  have w30 : RdI a0 I0 I22 := w17.rd w27
  have gd31 := Gd.go gd21 w27.stick
  refine tr_lstore_n dX12_readTurner_16 (by decide) (by decide) (by decide) ?_
  refine tr_aload_n dX12_readTurner_17 rfl ?_
  refine tr_ldcwS dX12_readTurner_18 ld12_318 ?_
  refine q_callVi hE (M' := mX12_eatsWord) (as := [_]) dX12_readTurner_21 lk12_290 inX12_eatsWord seX12_eatsWord myX12_eatsWord (by decide) ⟨by decide, by decide⟩ rfl (kR15 hS28.1 ta0) (Nat.le_of_ble_eq_true rfl) rfl rfl (by decide) (by decide) (k_X12_eatsWord hS28.1 ta0 (by decide)) ?_
  rintro v36 cn' K' N' I32 R33 L34 ⟨rfl, rfl, rfl, rfl, g35, h37, w38, -⟩
  have hS39 := hS28.tr g35 (by decide +kernel) (by decide +kernel)
  have c40 : I32 a1 4 = v3 := (g35.cell ta1 (by decide +kernel)).trans c29
  have w41 : RdI a0 I0 I32 := w30.ew w38
  have gd42 := Gd.go gd31 w38.stick
  refine q_if_eq 31 dX12_readTurner_24 (by decide) (fun h43 => ?_) (fun h43 => ?_)
  · skip
    refine tr_aload_n dX12_readTurner_31 rfl ?_
    refine tr_ldcwS dX12_readTurner_32 ld12_320 ?_
    refine q_callVi hE (M' := mX12_eatsWord) (as := [_]) dX12_readTurner_35 lk12_290 inX12_eatsWord seX12_eatsWord myX12_eatsWord (by decide) ⟨by decide, by decide⟩ rfl (kR15 hS39.1 ta0) (Nat.le_of_ble_eq_true rfl) rfl rfl (by decide) (by decide) (k_X12_eatsWord hS39.1 ta0 (by decide)) ?_
    rintro v48 cn' K' N' I44 R45 L46 ⟨rfl, rfl, rfl, rfl, g47, h49, w50, -⟩
    have hS51 := hS39.tr g47 (by decide +kernel) (by decide +kernel)
    have c52 : I44 a1 4 = v3 := (g47.cell ta1 (by decide +kernel)).trans c40
    have w53 : RdI a0 I0 I44 := w41.ew w50
    have gd54 := Gd.go gd42 w50.stick
    refine q_if_eq 45 dX12_readTurner_38 (by decide) (fun h55 => ?_) (fun h55 => ?_)
    · skip
      refine tr_aload_n dX12_readTurner_45 rfl ?_
      refine tr_ldcwS dX12_readTurner_46 ld12_322 ?_
      refine q_callVi hE (M' := mX12_eatsWord) (as := [_]) dX12_readTurner_49 lk12_290 inX12_eatsWord seX12_eatsWord myX12_eatsWord (by decide) ⟨by decide, by decide⟩ rfl (kR15 hS51.1 ta0) (Nat.le_of_ble_eq_true rfl) rfl rfl (by decide) (by decide) (k_X12_eatsWord hS51.1 ta0 (by decide)) ?_
      rintro v60 cn' K' N' I56 R57 L58 ⟨rfl, rfl, rfl, rfl, g59, h61, w62, -⟩
      have hS63 := hS51.tr g59 (by decide +kernel) (by decide +kernel)
      have c64 : I56 a1 4 = v3 := (g59.cell ta1 (by decide +kernel)).trans c52
      have w65 : RdI a0 I0 I56 := w53.ew w62
      have gd66 := Gd.go gd54 w62.stick
      refine q_if_eq 59 dX12_readTurner_52 (by decide) (fun h67 => ?_) (fun h67 => ?_)
      · skip
        refine tr_aload_n dX12_readTurner_59 rfl ?_
        refine tr_ldcS dX12_readTurner_60 ld12_178 ?_
        refine q_callVi hE (M' := mX12_eatsWord) (as := [_]) dX12_readTurner_62 lk12_290 inX12_eatsWord seX12_eatsWord myX12_eatsWord (by decide) ⟨by decide, by decide⟩ rfl (kR15 hS63.1 ta0) (Nat.le_of_ble_eq_true rfl) rfl rfl (by decide) (by decide) (k_X12_eatsWord hS63.1 ta0 (by decide)) ?_
        rintro v72 cn' K' N' I68 R69 L70 ⟨rfl, rfl, rfl, rfl, g71, h73, w74, -⟩
        have hS75 := hS63.tr g71 (by decide +kernel) (by decide +kernel)
        have c76 : I68 a1 4 = v3 := (g71.cell ta1 (by decide +kernel)).trans c64
        have w77 : RdI a0 I0 I68 := w65.ew w74
        have gd78 := Gd.go gd66 w74.stick
        refine q_if_eq 72 dX12_readTurner_65 (by decide) (fun h79 => ?_) (fun h79 => ?_)
        · skip
          refine q_iconst dX12_readTurner_72 (by decide) ?_
          intro v80 h81
          refine tr_istore_n dX12_readTurner_73 (by decide) (by decide) ?_
          refine tr_iload_n dX12_readTurner_74 rfl ?_
          refine q_iconst dX12_readTurner_75 (by decide) ?_
          intro v82 h83
          refine q_icmp_ne 84 dX12_readTurner_76 (by decide) (fun h84 => ?_) (fun h84 => ?_)
          · skip
            exfalso; omega
          · skip
            refine tr_aload_n dX12_readTurner_79 rfl ?_
            refine q_iconst dX12_readTurner_80 (by decide) ?_
            intro v85 h86
            obtain ⟨v87, c88⟩ : ∃ v, I68 a0 8 = v := ⟨_, rfl⟩
            have b89 := iv15_8 hS75.1 ta0 c88
            refine q_callVv hE (M' := mX12_flaw) (as := [_]) dX12_readTurner_81 lk12_145 inX12_flaw seX12_flaw myX12_flaw (by decide) ⟨by decide, by decide⟩ rfl (kR15 hS75.1 ta0) (Nat.le_of_ble_eq_true rfl) rfl rfl (by decide) (by decide) (k_X12_flaw hS75.1 ta0 (by omega)) ?_
            rintro cn' K' N' I90 R91 L92 ⟨rfl, rfl, rfl, rfl, rfl, g93, p95, p96, w97, -⟩
            have hS98 := hS75.tr g93 (by decide +kernel) (by decide +kernel)
            have c99 : I90 a1 4 = v3 := (g93.cell ta1 (by decide +kernel)).trans c76
            have c100 : I90 a0 8 = v87 := (g93.cell ta0 (by decide +kernel)).trans c88
            have w101 : RdI a0 I0 I90 := w77.rd w97
            have gd102 := Gd.go gd78 w97.stick
            obtain ⟨v103, c104⟩ : ∃ v, I90 a0 9 = v := ⟨_, rfl⟩
            have b105 := iv15_9 hS98.1 ta0 c104
            rw [c104] at p95
            rw [c100] at p96
            rw [c88] at p96
            refine tr_aload_n dX12_readTurner_84 rfl ?_
            refine tr_ldcwS dX12_readTurner_85 ld12_324 ?_
            refine q_iconst dX12_readTurner_88 (by decide) ?_
            intro v106 h107
            refine tr_aload_n dX12_readTurner_89 rfl ?_
            refine tr_getR dX12_readTurner_90 fl12_188 (kR15 hS98.1 ta0) d2 ?_
            obtain ⟨v108, c109⟩ : ∃ v, I0 a1 0 = v := ⟨_, rfl⟩
            have b110 := iv14_0 hW0 ta1 c109
            refine q_getI dX12_readTurner_93 fl12_192 (kR14 hS98.1 ta1) ((hS98.cell ta1 (by decide +kernel)).trans c109) ?_
            refine q_iconst dX12_readTurner_96 (by decide) ?_
            intro v111 h112
            refine q_isubE dX12_readTurner_97 (by intros; omega) ?_
            intro v113 h114
            refine q_callVi hE (M' := mX12_readPart) (as := [_, _, _]) dX12_readTurner_98 lk12_249 inX12_readPart seX12_readPart myX12_readPart (by decide) ⟨by decide, by decide⟩ rfl (kR15 hS98.1 ta0) (Nat.le_of_ble_eq_true rfl) rfl rfl (by decide) (by decide) (k_X12_readPart hS98.1 ta0 (by decide)) ?_
            rintro v119 cn' K' N' I115 R116 L117 ⟨rfl, rfl, rfl, rfl, g118, p120, w121, -⟩
            have hS122 := hS98.tr g118 (by decide +kernel) (by decide +kernel)
            have c123 : I115 a1 4 = v3 := (g118.cell ta1 (by decide +kernel)).trans c99
            have w124 : RdI a0 I0 I115 := w101.rd w121
            have gd125 := Gd.go gd102 w121.stick
            have b126 : 0 ≤ v119.toInt ∧ v119.toInt ≤ 239 := by omega
            clear p120
            refine tr_istore dX12_readTurner_101 (by decide) (by decide) ?_
            refine tr_aload_n dX12_readTurner_103 rfl ?_
            refine tr_ldcwS dX12_readTurner_104 ld12_272 ?_
            refine tr_iload dX12_readTurner_107 rfl ?_
            refine q_iconst dX12_readTurner_109 (by decide) ?_
            intro v127 h128
            refine q_iaddE dX12_readTurner_110 (by intros; omega) ?_
            intro v129 h130
            refine tr_aload_n dX12_readTurner_111 rfl ?_
            refine tr_getR dX12_readTurner_112 fl12_188 (kR15 hS122.1 ta0) d2 ?_
            refine q_getI dX12_readTurner_115 fl12_192 (kR14 hS122.1 ta1) ((hS122.cell ta1 (by decide +kernel)).trans c109) ?_
            refine q_callVi hE (M' := mX12_readPart) (as := [_, _, _]) dX12_readTurner_118 lk12_249 inX12_readPart seX12_readPart myX12_readPart (by decide) ⟨by decide, by decide⟩ rfl (kR15 hS122.1 ta0) (Nat.le_of_ble_eq_true rfl) rfl rfl (by decide) (by decide) (k_X12_readPart hS122.1 ta0 (by decide)) ?_
            rintro v135 cn' K' N' I131 R132 L133 ⟨rfl, rfl, rfl, rfl, g134, p136, w137, -⟩
            have hS138 := hS122.tr g134 (by decide +kernel) (by decide +kernel)
            have c139 : I131 a1 4 = v3 := (g134.cell ta1 (by decide +kernel)).trans c123
            have w140 : RdI a0 I0 I131 := w124.rd w137
            have gd141 := Gd.go gd125 w137.stick
            have b142 : 1 ≤ v135.toInt ∧ v135.toInt ≤ 240 := by omega
            clear p136
            refine tr_istore dX12_readTurner_121 (by decide) (by decide) ?_
            refine tr_aload_n dX12_readTurner_123 rfl ?_
            refine tr_ldcwS dX12_readTurner_124 ld12_325 ?_
            refine q_iconst dX12_readTurner_127 (by decide) ?_
            intro v143 h144
            refine q_bipush dX12_readTurner_128 (by decide +kernel) ?_
            intro v145 h146
            refine q_callVi hE (M' := mX12_readPart) (as := [_, _, _]) dX12_readTurner_130 lk12_249 inX12_readPart seX12_readPart myX12_readPart (by decide) ⟨by decide, by decide⟩ rfl (kR15 hS138.1 ta0) (Nat.le_of_ble_eq_true rfl) rfl rfl (by decide) (by decide) (k_X12_readPart hS138.1 ta0 (by decide)) ?_
            rintro v151 cn' K' N' I147 R148 L149 ⟨rfl, rfl, rfl, rfl, g150, p152, w153, -⟩
            have hS154 := hS138.tr g150 (by decide +kernel) (by decide +kernel)
            have c155 : I147 a1 4 = v3 := (g150.cell ta1 (by decide +kernel)).trans c139
            have w156 : RdI a0 I0 I147 := w140.rd w153
            have gd157 := Gd.go gd141 w153.stick
            have b158 : 1 ≤ v151.toInt ∧ v151.toInt ≤ 8 := by omega
            clear p152
            refine tr_istore dX12_readTurner_133 (by decide) (by decide) ?_
            refine tr_aload_n dX12_readTurner_135 rfl ?_
            refine tr_ldcwS dX12_readTurner_136 ld12_327 ?_
            refine q_iconst dX12_readTurner_139 (by decide) ?_
            intro v159 h160
            refine q_bipush dX12_readTurner_140 (by decide +kernel) ?_
            intro v161 h162
            refine q_callVi hE (M' := mX12_readPart) (as := [_, _, _]) dX12_readTurner_142 lk12_249 inX12_readPart seX12_readPart myX12_readPart (by decide) ⟨by decide, by decide⟩ rfl (kR15 hS154.1 ta0) (Nat.le_of_ble_eq_true rfl) rfl rfl (by decide) (by decide) (k_X12_readPart hS154.1 ta0 (by decide)) ?_
            rintro v167 cn' K' N' I163 R164 L165 ⟨rfl, rfl, rfl, rfl, g166, p168, w169, -⟩
            have hS170 := hS154.tr g166 (by decide +kernel) (by decide +kernel)
            have c171 : I163 a1 4 = v3 := (g166.cell ta1 (by decide +kernel)).trans c155
            have w172 : RdI a0 I0 I163 := w156.rd w169
            have gd173 := Gd.go gd157 w169.stick
            have b174 : 1 ≤ v167.toInt ∧ v167.toInt ≤ 20 := by omega
            clear p168
            refine tr_istore dX12_readTurner_145 (by decide) (by decide) ?_
            refine tr_aload_n dX12_readTurner_147 rfl ?_
            refine tr_ldcS dX12_readTurner_148 ld12_253 ?_
            refine q_callVv hE (M' := mX12_needs) (as := [_]) dX12_readTurner_150 lk12_157 inX12_needs seX12_needs myX12_needs (by decide) ⟨by decide, by decide⟩ rfl (kR15 hS170.1 ta0) (Nat.le_of_ble_eq_true rfl) rfl rfl (by decide) (by decide) (k_X12_needs hS170.1 ta0 (by decide)) ?_
            rintro cn' K' N' I175 R176 L177 ⟨rfl, rfl, rfl, rfl, g178, w180, -⟩
            have hS181 := hS170.tr g178 (by decide +kernel) (by decide +kernel)
            have c182 : I175 a1 4 = v3 := (g178.cell ta1 (by decide +kernel)).trans c171
            have w183 : RdI a0 I0 I175 := w172.rd w180
            have gd184 := Gd.go gd173 w180.stick
            refine q_iconst dX12_readTurner_153 (by decide) ?_
            intro v185 h186
            refine tr_istore dX12_readTurner_154 (by decide) (by decide) ?_
            refine q_iconst dX12_readTurner_156 (by decide) ?_
            intro v187 h188
            refine tr_istore dX12_readTurner_157 (by decide) (by decide) ?_
            obtain ⟨v206, c207⟩ : ∃ v, I175 a0 8 = v := ⟨_, rfl⟩
            have b208 := iv15_8 hS181.1 ta0 c207
            have lp211 : ∀ (fu : Nat) (ls : Nat → Option Value) (v189 : Int32) (v190 : Int32) (I200 : cz_I) (L201 : cz_L) (v203 : Int32), ls 0 = some (.ref a0) → ls 1 = some (.long y26) → ls 3 = some (.int v80) → ls 4 = some (.int v119) → ls 5 = some (.int v135) → ls 6 = some (.int v151) → ls 7 = some (.int v167) → ls 8 = some (.int v189) → ls 9 = some (.int v190) → St T cn K N 0 wi_X12_readTurner wr_X12_readTurner I0 R0 I200 R0 → I200 a0 8 = v203 → RdI a0 I0 I200 → 0 ≤ v190.toInt → v190.toInt ≤ 1 → (-v203.toInt + v190.toInt + 900).toNat < fu → Tr X mX12_readTurner 159 ls [] cn K N I200 R0 L201 0 0 := by
              intro fu
              induction fu with
              | zero => intros; rename_i hz; exact absurd hz (Nat.not_lt_zero _)
              | succ fu ih211 =>
                intro ls v189 v190 I200 L201 v203 hl191 hl192 hl193 hl194 hl195 hl196 hl197 hl198 hl199 hS202 c204 w205 g209 g210 hm211
                have b213 := iv15_8 hS202.1 ta0 c204
                refine tr_iload dX12_readTurner_159 hl199 ?_
                refine q_if_eq 227 dX12_readTurner_161 (by decide) (fun h214 => ?_) (fun h214 => ?_)
                · skip
                  refine tr_aload_n dX12_readTurner_227 hl191 ?_
                  obtain ⟨v215, c216⟩ : ∃ v, I200 a0 9 = v := ⟨_, rfl⟩
                  have b217 := iv15_9 hS202.1 ta0 c216
                  refine q_getI dX12_readTurner_228 fl12_99 (kR15 hS202.1 ta0) c216 ?_
                  refine q_iconst dX12_readTurner_231 (by decide) ?_
                  intro v218 h219
                  refine q_icmp_ne 236 dX12_readTurner_232 (by decide) (fun h220 => ?_) (fun h220 => ?_)
                  · skip
                    refine tr_aload_n dX12_readTurner_236 hl191 ?_
                    refine tr_getR dX12_readTurner_237 fl12_188 (kR15 hS202.1 ta0) d2 ?_
                    obtain ⟨v221, c222⟩ : ∃ v, I200 a1 4 = v := ⟨_, rfl⟩
                    have b223 := iv14_4 hS202.1 ta1 c222
                    refine q_getI dX12_readTurner_240 fl12_315 (kR14 hS202.1 ta1) c222 ?_
                    refine tr_istore dX12_readTurner_243 (by decide) (by decide) ?_
                    refine tr_aload_n dX12_readTurner_245 hl191 ?_
                    refine tr_lload_n dX12_readTurner_246 hl192 ?_
                    refine q_iconst dX12_readTurner_247 (by decide) ?_
                    intro v224 h225
                    refine tr_iload dX12_readTurner_248 rfl ?_
                    obtain ⟨v227, c228⟩ : ∃ v, I200 a1 7 = v := ⟨_, rfl⟩
                    have b229 := iv14_7 hS202.1 ta1 c228
                    obtain ⟨v230, c231⟩ : ∃ v, I0 a1 3 = v := ⟨_, rfl⟩
                    have b232 := iv14_3 hW0 ta1 c231
                    have p226 := hS202.1.2.2.2.2.1 a0 ta0 _ d2
                    rw [c228, ((hS202.cell ta1 (by decide +kernel)).trans c231), c222] at p226
                    refine q_callVv hE (M' := mX12_names) (as := [_, _, _]) dX12_readTurner_250 lk12_293 inX12_names seX12_names myX12_names (by decide) ⟨by decide, by decide⟩ rfl (kR15 hS202.1 ta0) (Nat.le_of_ble_eq_true rfl) rfl rfl (by decide) (by decide) (k_X12_names hS202.1 ta0 (fun q0 z0 => by obtain rfl := Option.some.inj ((d2).symm.trans z0); (try rw [c228]); (try omega)) ⟨_, d2⟩) ?_
                    rintro cn' K' N' I233 R234 L235 ⟨rfl, rfl, rfl, rfl, g236, -⟩
                    have hS238 := hS202.tr g236 (by decide +kernel) (by decide +kernel)
                    have c239 : I233 a0 8 = v203 := (g236.cell ta0 (by decide +kernel)).trans c204
                    have c240 : I233 a0 9 = v215 := (g236.cell ta0 (by decide +kernel)).trans c216
                    have c241 : I233 a1 4 = v221 := (g236.cell ta1 (by decide +kernel)).trans c222
                    have w242 : RdI a0 I0 I233 := w205.keep (g236.cell ta0 (by decide +kernel)) (g236.cell ta0 (by decide +kernel)) (g236.cell ta0 (by decide +kernel))
                    have w243 : EwI a0 I200 I233 := (EwI.rf a0 I200).keep (g236.cell ta0 (by decide +kernel)) (g236.cell ta0 (by decide +kernel)) (g236.cell ta0 (by decide +kernel))
                    refine tr_aload_n dX12_readTurner_253 hl191 ?_
                    refine tr_getR dX12_readTurner_254 fl12_188 (kR15 hS238.1 ta0) d2 ?_
                    obtain ⟨a244, d245, ta244⟩ := rf14_20 hW0 ta1
                    refine tr_getR dX12_readTurner_257 fl12_333 (kR14 hS238.1 ta1) d245 ?_
                    refine tr_iload dX12_readTurner_260 rfl ?_
                    refine tr_iload_n dX12_readTurner_262 hl193 ?_
                    refine q_iast dX12_readTurner_263 (kR63 hS238.1 ta244) (ti_in (nR63 hS238.1 ta244) (by omega) (by omega)) hS238 ta244 (iokF rfl) rfl (by rfl) ?_
                    intro I246 hS247 e249 f248
                    have c250 : I246 a0 8 = v203 := (f248 _ _ (fun q => by have z := ta0; rw [q.1, ta244] at z; exact absurd z (by decide))).trans c239
                    have c251 : I246 a0 9 = v215 := (f248 _ _ (fun q => by have z := ta0; rw [q.1, ta244] at z; exact absurd z (by decide))).trans c240
                    have c252 : I246 a1 4 = v221 := (f248 _ _ (fun q => by have z := ta1; rw [q.1, ta244] at z; exact absurd z (by decide))).trans c241
                    have w253 : RdI a0 I0 I246 := w242.keep (f248 _ _ (fun q => by have z := ta0; rw [q.1, ta244] at z; exact absurd z (by decide))) (f248 _ _ (fun q => by have z := ta0; rw [q.1, ta244] at z; exact absurd z (by decide))) (f248 _ _ (fun q => by have z := ta0; rw [q.1, ta244] at z; exact absurd z (by decide)))
                    have w254 : EwI a0 I200 I246 := w243.keep (f248 _ _ (fun q => by have z := ta0; rw [q.1, ta244] at z; exact absurd z (by decide))) (f248 _ _ (fun q => by have z := ta0; rw [q.1, ta244] at z; exact absurd z (by decide))) (f248 _ _ (fun q => by have z := ta0; rw [q.1, ta244] at z; exact absurd z (by decide)))
                    refine tr_aload_n dX12_readTurner_264 hl191 ?_
                    refine tr_getR dX12_readTurner_265 fl12_188 (kR15 hS247.1 ta0) d2 ?_
                    obtain ⟨a255, d256, ta255⟩ := rf14_21 hW0 ta1
                    refine tr_getR dX12_readTurner_268 fl12_336 (kR14 hS247.1 ta1) d256 ?_
                    refine tr_iload dX12_readTurner_271 rfl ?_
                    refine tr_iload dX12_readTurner_273 hl194 ?_
                    refine q_iast dX12_readTurner_275 (kR64 hS247.1 ta255) (ti_in (nR64 hS247.1 ta255) (by omega) (by omega)) hS247 ta255 (iokF rfl) rfl (by rfl) ?_
                    intro I257 hS258 e260 f259
                    have c261 : I257 a0 8 = v203 := (f259 _ _ (fun q => by have z := ta0; rw [q.1, ta255] at z; exact absurd z (by decide))).trans c250
                    have c262 : I257 a0 9 = v215 := (f259 _ _ (fun q => by have z := ta0; rw [q.1, ta255] at z; exact absurd z (by decide))).trans c251
                    have c263 : I257 a1 4 = v221 := (f259 _ _ (fun q => by have z := ta1; rw [q.1, ta255] at z; exact absurd z (by decide))).trans c252
                    have w264 : RdI a0 I0 I257 := w253.keep (f259 _ _ (fun q => by have z := ta0; rw [q.1, ta255] at z; exact absurd z (by decide))) (f259 _ _ (fun q => by have z := ta0; rw [q.1, ta255] at z; exact absurd z (by decide))) (f259 _ _ (fun q => by have z := ta0; rw [q.1, ta255] at z; exact absurd z (by decide)))
                    have w265 : EwI a0 I200 I257 := w254.keep (f259 _ _ (fun q => by have z := ta0; rw [q.1, ta255] at z; exact absurd z (by decide))) (f259 _ _ (fun q => by have z := ta0; rw [q.1, ta255] at z; exact absurd z (by decide))) (f259 _ _ (fun q => by have z := ta0; rw [q.1, ta255] at z; exact absurd z (by decide)))
                    refine tr_aload_n dX12_readTurner_276 hl191 ?_
                    refine tr_getR dX12_readTurner_277 fl12_188 (kR15 hS258.1 ta0) d2 ?_
                    obtain ⟨a266, d267, ta266⟩ := rf14_22 hW0 ta1
                    refine tr_getR dX12_readTurner_280 fl12_339 (kR14 hS258.1 ta1) d267 ?_
                    refine tr_iload dX12_readTurner_283 rfl ?_
                    refine tr_iload dX12_readTurner_285 hl195 ?_
                    refine q_iast dX12_readTurner_287 (kR65 hS258.1 ta266) (ti_in (nR65 hS258.1 ta266) (by omega) (by omega)) hS258 ta266 (iokF rfl) rfl (by rfl) ?_
                    intro I268 hS269 e271 f270
                    have c272 : I268 a0 8 = v203 := (f270 _ _ (fun q => by have z := ta0; rw [q.1, ta266] at z; exact absurd z (by decide))).trans c261
                    have c273 : I268 a0 9 = v215 := (f270 _ _ (fun q => by have z := ta0; rw [q.1, ta266] at z; exact absurd z (by decide))).trans c262
                    have c274 : I268 a1 4 = v221 := (f270 _ _ (fun q => by have z := ta1; rw [q.1, ta266] at z; exact absurd z (by decide))).trans c263
                    have w275 : RdI a0 I0 I268 := w264.keep (f270 _ _ (fun q => by have z := ta0; rw [q.1, ta266] at z; exact absurd z (by decide))) (f270 _ _ (fun q => by have z := ta0; rw [q.1, ta266] at z; exact absurd z (by decide))) (f270 _ _ (fun q => by have z := ta0; rw [q.1, ta266] at z; exact absurd z (by decide)))
                    have w276 : EwI a0 I200 I268 := w265.keep (f270 _ _ (fun q => by have z := ta0; rw [q.1, ta266] at z; exact absurd z (by decide))) (f270 _ _ (fun q => by have z := ta0; rw [q.1, ta266] at z; exact absurd z (by decide))) (f270 _ _ (fun q => by have z := ta0; rw [q.1, ta266] at z; exact absurd z (by decide)))
                    refine tr_aload_n dX12_readTurner_288 hl191 ?_
                    refine tr_getR dX12_readTurner_289 fl12_188 (kR15 hS269.1 ta0) d2 ?_
                    obtain ⟨a277, d278, ta277⟩ := rf14_23 hW0 ta1
                    refine tr_getR dX12_readTurner_292 fl12_342 (kR14 hS269.1 ta1) d278 ?_
                    refine tr_iload dX12_readTurner_295 rfl ?_
                    refine tr_iload dX12_readTurner_297 hl196 ?_
                    refine q_iast dX12_readTurner_299 (kR66 hS269.1 ta277) (ti_in (nR66 hS269.1 ta277) (by omega) (by omega)) hS269 ta277 (iokF rfl) rfl (by rfl) ?_
                    intro I279 hS280 e282 f281
                    have c283 : I279 a0 8 = v203 := (f281 _ _ (fun q => by have z := ta0; rw [q.1, ta277] at z; exact absurd z (by decide))).trans c272
                    have c284 : I279 a0 9 = v215 := (f281 _ _ (fun q => by have z := ta0; rw [q.1, ta277] at z; exact absurd z (by decide))).trans c273
                    have c285 : I279 a1 4 = v221 := (f281 _ _ (fun q => by have z := ta1; rw [q.1, ta277] at z; exact absurd z (by decide))).trans c274
                    have w286 : RdI a0 I0 I279 := w275.keep (f281 _ _ (fun q => by have z := ta0; rw [q.1, ta277] at z; exact absurd z (by decide))) (f281 _ _ (fun q => by have z := ta0; rw [q.1, ta277] at z; exact absurd z (by decide))) (f281 _ _ (fun q => by have z := ta0; rw [q.1, ta277] at z; exact absurd z (by decide)))
                    have w287 : EwI a0 I200 I279 := w276.keep (f281 _ _ (fun q => by have z := ta0; rw [q.1, ta277] at z; exact absurd z (by decide))) (f281 _ _ (fun q => by have z := ta0; rw [q.1, ta277] at z; exact absurd z (by decide))) (f281 _ _ (fun q => by have z := ta0; rw [q.1, ta277] at z; exact absurd z (by decide)))
                    refine tr_aload_n dX12_readTurner_300 hl191 ?_
                    refine tr_getR dX12_readTurner_301 fl12_188 (kR15 hS280.1 ta0) d2 ?_
                    obtain ⟨a288, d289, ta288⟩ := rf14_24 hW0 ta1
                    refine tr_getR dX12_readTurner_304 fl12_344 (kR14 hS280.1 ta1) d289 ?_
                    refine tr_iload dX12_readTurner_307 rfl ?_
                    refine tr_iload dX12_readTurner_309 hl197 ?_
                    refine q_iast dX12_readTurner_311 (kR67 hS280.1 ta288) (ti_in (nR67 hS280.1 ta288) (by omega) (by omega)) hS280 ta288 (iokF rfl) rfl (by rfl) ?_
                    intro I290 hS291 e293 f292
                    have c294 : I290 a0 8 = v203 := (f292 _ _ (fun q => by have z := ta0; rw [q.1, ta288] at z; exact absurd z (by decide))).trans c283
                    have c295 : I290 a0 9 = v215 := (f292 _ _ (fun q => by have z := ta0; rw [q.1, ta288] at z; exact absurd z (by decide))).trans c284
                    have c296 : I290 a1 4 = v221 := (f292 _ _ (fun q => by have z := ta1; rw [q.1, ta288] at z; exact absurd z (by decide))).trans c285
                    have w297 : RdI a0 I0 I290 := w286.keep (f292 _ _ (fun q => by have z := ta0; rw [q.1, ta288] at z; exact absurd z (by decide))) (f292 _ _ (fun q => by have z := ta0; rw [q.1, ta288] at z; exact absurd z (by decide))) (f292 _ _ (fun q => by have z := ta0; rw [q.1, ta288] at z; exact absurd z (by decide)))
                    have w298 : EwI a0 I200 I290 := w287.keep (f292 _ _ (fun q => by have z := ta0; rw [q.1, ta288] at z; exact absurd z (by decide))) (f292 _ _ (fun q => by have z := ta0; rw [q.1, ta288] at z; exact absurd z (by decide))) (f292 _ _ (fun q => by have z := ta0; rw [q.1, ta288] at z; exact absurd z (by decide)))
                    refine tr_aload_n dX12_readTurner_312 hl191 ?_
                    refine tr_getR dX12_readTurner_313 fl12_188 (kR15 hS291.1 ta0) d2 ?_
                    obtain ⟨a299, d300, ta299⟩ := rf14_25 hW0 ta1
                    refine tr_getR dX12_readTurner_316 fl12_346 (kR14 hS291.1 ta1) d300 ?_
                    refine tr_iload dX12_readTurner_319 rfl ?_
                    refine tr_iload dX12_readTurner_321 hl198 ?_
                    refine q_iast dX12_readTurner_323 (kR68 hS291.1 ta299) (ti_in (nR68 hS291.1 ta299) (by omega) (by omega)) hS291 ta299 (iokF rfl) rfl (by rfl) ?_
                    intro I301 hS302 e304 f303
                    have c305 : I301 a0 8 = v203 := (f303 _ _ (fun q => by have z := ta0; rw [q.1, ta299] at z; exact absurd z (by decide))).trans c294
                    have c306 : I301 a0 9 = v215 := (f303 _ _ (fun q => by have z := ta0; rw [q.1, ta299] at z; exact absurd z (by decide))).trans c295
                    have c307 : I301 a1 4 = v221 := (f303 _ _ (fun q => by have z := ta1; rw [q.1, ta299] at z; exact absurd z (by decide))).trans c296
                    have w308 : RdI a0 I0 I301 := w297.keep (f303 _ _ (fun q => by have z := ta0; rw [q.1, ta299] at z; exact absurd z (by decide))) (f303 _ _ (fun q => by have z := ta0; rw [q.1, ta299] at z; exact absurd z (by decide))) (f303 _ _ (fun q => by have z := ta0; rw [q.1, ta299] at z; exact absurd z (by decide)))
                    have w309 : EwI a0 I200 I301 := w298.keep (f303 _ _ (fun q => by have z := ta0; rw [q.1, ta299] at z; exact absurd z (by decide))) (f303 _ _ (fun q => by have z := ta0; rw [q.1, ta299] at z; exact absurd z (by decide))) (f303 _ _ (fun q => by have z := ta0; rw [q.1, ta299] at z; exact absurd z (by decide)))
                    refine tr_aload_n dX12_readTurner_324 hl191 ?_
                    refine tr_getR dX12_readTurner_325 fl12_188 (kR15 hS302.1 ta0) d2 ?_
                    refine tr_dup dX12_readTurner_328 rfl ?_
                    refine q_getI dX12_readTurner_329 fl12_315 (kR14 hS302.1 ta1) c307 ?_
                    refine q_iconst dX12_readTurner_332 (by decide) ?_
                    intro v310 h311
                    refine q_iaddE dX12_readTurner_333 (by intros; omega) ?_
                    intro v312 h313
                    refine q_putX dX12_readTurner_334 fl12_315 (kR14 hS302.1 ta1) (Or.inl rfl) hS302 ta1 (by decide +kernel) (hS302.1.putN (d' := 0) ta0 d2 (Or.inr (Or.inr rfl)) (by rw [c307]; omega) (by decide) (by show (0 : Int) ≤ v312.toInt ∧ v312.toInt ≤ (5 : Int); omega)) ?_
                    intro I314 hS315 e316 f317
                    have c318 : I314 a0 8 = v203 := (f317 _ _ (fun q => absurd q.2 (by decide))).trans c305
                    have c319 : I314 a0 9 = v215 := (f317 _ _ (fun q => absurd q.2 (by decide))).trans c306
                    have w320 : RdI a0 I0 I314 := w308.keep (f317 _ _ (fun q => absurd q.2 (by decide))) (f317 _ _ (fun q => absurd q.2 (by decide))) (f317 _ _ (fun q => absurd q.2 (by decide)))
                    have w321 : EwI a0 I200 I314 := w309.keep (f317 _ _ (fun q => absurd q.2 (by decide))) (f317 _ _ (fun q => absurd q.2 (by decide))) (f317 _ _ (fun q => absurd q.2 (by decide)))
                    exact tr_vret hZ dX12_readTurner_337 rfl (by decide) (by decide) ⟨rfl, rfl, rfl, rfl, rfl, hS315, w320, trivial⟩
                  · skip
                    exact tr_vret hZ dX12_readTurner_235 rfl (by decide) (by decide) ⟨rfl, rfl, rfl, rfl, rfl, hS202, w205, trivial⟩
                · skip
                  refine tr_aload_n dX12_readTurner_164 hl191 ?_
                  obtain ⟨v322, c323⟩ : ∃ v, I200 a0 9 = v := ⟨_, rfl⟩
                  have b324 := iv15_9 hS202.1 ta0 c323
                  refine q_getI dX12_readTurner_165 fl12_99 (kR15 hS202.1 ta0) c323 ?_
                  refine q_iconst dX12_readTurner_168 (by decide) ?_
                  intro v325 h326
                  refine q_icmp_eq 227 dX12_readTurner_169 (by decide) (fun h327 => ?_) (fun h327 => ?_)
                  · skip
                    refine tr_aload_n dX12_readTurner_227 hl191 ?_
                    refine q_getI dX12_readTurner_228 fl12_99 (kR15 hS202.1 ta0) c323 ?_
                    refine q_iconst dX12_readTurner_231 (by decide) ?_
                    intro v328 h329
                    refine q_icmp_ne 236 dX12_readTurner_232 (by decide) (fun h330 => ?_) (fun h330 => ?_)
                    · skip
                      exfalso; omega
                    · skip
                      exact tr_vret hZ dX12_readTurner_235 rfl (by decide) (by decide) ⟨rfl, rfl, rfl, rfl, rfl, hS202, w205, trivial⟩
                  · skip
                    refine tr_aload_n dX12_readTurner_172 hl191 ?_
                    refine q_iconst dX12_readTurner_173 (by decide) ?_
                    intro v331 h332
                    refine tr_aload_n dX12_readTurner_174 hl191 ?_
                    refine tr_getR dX12_readTurner_175 fl12_188 (kR15 hS202.1 ta0) d2 ?_
                    obtain ⟨v333, c334⟩ : ∃ v, I0 a1 1 = v := ⟨_, rfl⟩
                    have b335 := iv14_1 hW0 ta1 c334
                    refine q_getI dX12_readTurner_178 fl12_263 (kR14 hS202.1 ta1) ((hS202.cell ta1 (by decide +kernel)).trans c334) ?_
                    refine q_iconst dX12_readTurner_181 (by decide) ?_
                    intro v336 h337
                    refine q_isubE dX12_readTurner_182 (by intros; omega) ?_
                    intro v338 h339
                    refine q_callVi hE (M' := mX12_bounded) (as := [_, _]) dX12_readTurner_183 lk12_153 inX12_bounded seX12_bounded myX12_bounded (by decide) ⟨by decide, by decide⟩ rfl (kR15 hS202.1 ta0) (Nat.le_of_ble_eq_true rfl) rfl rfl (by decide) (by decide) (k_X12_bounded hS202.1 ta0) ?_
                    rintro v344 cn' K' N' I340 R341 L342 ⟨rfl, rfl, rfl, rfl, rfl, g343, p345, p346, w347, -⟩
                    have hS348 := hS202.tr g343 (by decide +kernel) (by decide +kernel)
                    have c349 : I340 a0 8 = v203 := (g343.cell ta0 (by decide +kernel)).trans c204
                    have w350 : RdI a0 I0 I340 := w205.ew w347
                    have w351 : EwI a0 I200 I340 := (EwI.rf a0 I200).ew w347
                    have b352 : 0 ≤ v344.toInt ∧ v344.toInt ≤ 3 := by omega
                    clear p345
                    obtain ⟨v353, c354⟩ : ∃ v, I340 a0 9 = v := ⟨_, rfl⟩
                    have b355 := iv15_9 hS348.1 ta0 c354
                    have gd356 : Gd (I340 a0 9) ((v331.toInt ≤ v344.toInt ∧ v344.toInt ≤ v338.toInt)) := p346
                    clear p346
                    refine tr_istore dX12_readTurner_186 (by decide) (by decide) ?_
                    refine tr_iload dX12_readTurner_188 hl198 ?_
                    refine tr_iload dX12_readTurner_190 rfl ?_
                    refine q_callSi hE (M' := mX12_has) (as := [_, _]) dX12_readTurner_192 lk12_329 inX12_has myX12_has ⟨by decide, by decide⟩ rfl (Nat.le_of_ble_eq_true rfl) rfl rfl (by decide) (by decide) (k_X12_has hS348.1 ) ?_
                    rintro v361 cn' K' N' I357 R358 L359 ⟨rfl, rfl, rfl, rfl, rfl, rfl, h362, -⟩
                    refine q_if_eq 203 dX12_readTurner_195 (by decide) (fun h363 => ?_) (fun h363 => ?_)
                    · skip
                      refine tr_aload_n dX12_readTurner_203 hl191 ?_
                      obtain ⟨v364, c365⟩ : ∃ v, I340 a0 13 = v := ⟨_, rfl⟩
                      refine q_callVv hE (M' := mX12_goesOn) (as := []) dX12_readTurner_204 lk12_142 inX12_goesOn seX12_goesOn myX12_goesOn (by decide) ⟨by decide, by decide⟩ rfl (kR15 hS348.1 ta0) (Nat.le_of_ble_eq_true rfl) rfl rfl (by decide) (by decide) (k_X12_goesOn hS348.1 ta0) ?_
                      rintro cn' K' N' I366 R367 L368 ⟨rfl, rfl, rfl, rfl, g369, p371, p372, w373, -⟩
                      have hS374 := hS348.tr g369 (by decide +kernel) (by decide +kernel)
                      have c375 : I366 a0 13 = v364 := (g369.cell ta0 (by decide +kernel)).trans c365
                      have w376 : RdI a0 I0 I366 := w350.rd w373
                      have w377 : RdI a0 I200 I366 := w351.rd w373
                      have gd378 := Gd.go gd356 w373.stick
                      obtain ⟨v379, c380⟩ : ∃ v, I366 a0 9 = v := ⟨_, rfl⟩
                      have b381 := iv15_9 hS374.1 ta0 c380
                      rw [c354] at p371
                      rw [c380] at p371
                      obtain ⟨v382, c383⟩ : ∃ v, I366 a0 8 = v := ⟨_, rfl⟩
                      have b384 := iv15_8 hS374.1 ta0 c383
                      rw [c383] at p372
                      rw [c349] at p372
                      rw [c375] at p372
                      rw [c365] at p372
                      refine tr_iload dX12_readTurner_207 hl198 ?_
                      refine q_iconst dX12_readTurner_209 (by decide) ?_
                      intro v385 h386
                      refine tr_iload dX12_readTurner_210 rfl ?_
                      refine q_ishlE dX12_readTurner_212 (by omega) (by omega) ?_
                      intro v387 h388
                      refine q_ior dX12_readTurner_213 ?_
                      intro v389
                      refine tr_istore dX12_readTurner_214 (by decide) (by decide) ?_
                      refine tr_aload_n dX12_readTurner_216 hl191 ?_
                      refine q_bipush dX12_readTurner_217 (by decide +kernel) ?_
                      intro v390 h391
                      have z392 := w377.2.2.1
                      (try rw [c204] at z392)
                      (try rw [c383] at z392)
                      (try rw [c380] at z392)
                      refine q_callVi hE (M' := mX12_eatsSign) (as := [_]) dX12_readTurner_219 lk12_221 inX12_eatsSign seX12_eatsSign myX12_eatsSign (by decide) ⟨by decide, by decide⟩ rfl (kR15 hS374.1 ta0) (Nat.le_of_ble_eq_true rfl) rfl rfl (by decide) (by decide) (k_X12_eatsSign hS374.1 ta0) ?_
                      rintro v397 cn' K' N' I393 R394 L395 ⟨rfl, rfl, rfl, rfl, g396, h398, p399, p400, w401, -⟩
                      have hS402 := hS374.tr g396 (by decide +kernel) (by decide +kernel)
                      have c403 : I393 a0 13 = v364 := (g396.cell ta0 (by decide +kernel)).trans c375
                      have w404 : RdI a0 I0 I393 := w376.ew w401
                      have w405 : RdI a0 I200 I393 := w377.ew w401
                      have gd406 := Gd.go gd378 w401.stick
                      rw [c380] at p399
                      obtain ⟨v407, c408⟩ : ∃ v, I393 a0 8 = v := ⟨_, rfl⟩
                      have b409 := iv15_8 hS402.1 ta0 c408
                      rw [c408] at p400
                      rw [c383] at p400
                      refine tr_istore dX12_readTurner_222 (by decide) (by decide) ?_
                      refine tr_goto 159 dX12_readTurner_224 (by decide) ?_
                      exact ih211 _ v389 v397 I393 L395 v407 hl191 hl192 hl193 hl194 hl195 hl196 hl197 rfl rfl hS402 c408 w404 (by omega) (by omega) (by omega)
                    · skip
                      refine tr_aload_n dX12_readTurner_198 hl191 ?_
                      refine q_iconst dX12_readTurner_199 (by decide) ?_
                      intro v410 h411
                      refine q_callVv hE (M' := mX12_flaw) (as := [_]) dX12_readTurner_200 lk12_145 inX12_flaw seX12_flaw myX12_flaw (by decide) ⟨by decide, by decide⟩ rfl (kR15 hS348.1 ta0) (Nat.le_of_ble_eq_true rfl) rfl rfl (by decide) (by decide) (k_X12_flaw hS348.1 ta0 (by omega)) ?_
                      rintro cn' K' N' I412 R413 L414 ⟨rfl, rfl, rfl, rfl, rfl, g415, p417, p418, w419, -⟩
                      have hS420 := hS348.tr g415 (by decide +kernel) (by decide +kernel)
                      have c421 : I412 a0 8 = v203 := (g415.cell ta0 (by decide +kernel)).trans c349
                      have w422 : RdI a0 I0 I412 := w350.rd w419
                      have w423 : RdI a0 I200 I412 := w351.rd w419
                      have gd424 := Gd.go gd356 w419.stick
                      obtain ⟨v425, c426⟩ : ∃ v, I412 a0 9 = v := ⟨_, rfl⟩
                      have b427 := iv15_9 hS420.1 ta0 c426
                      rw [c426] at p417
                      rw [c421] at p418
                      rw [c349] at p418
                      refine tr_aload_n dX12_readTurner_203 hl191 ?_
                      obtain ⟨v428, c429⟩ : ∃ v, I412 a0 13 = v := ⟨_, rfl⟩
                      refine q_callVv hE (M' := mX12_goesOn) (as := []) dX12_readTurner_204 lk12_142 inX12_goesOn seX12_goesOn myX12_goesOn (by decide) ⟨by decide, by decide⟩ rfl (kR15 hS420.1 ta0) (Nat.le_of_ble_eq_true rfl) rfl rfl (by decide) (by decide) (k_X12_goesOn hS420.1 ta0) ?_
                      rintro cn' K' N' I430 R431 L432 ⟨rfl, rfl, rfl, rfl, g433, p435, p436, w437, -⟩
                      have hS438 := hS420.tr g433 (by decide +kernel) (by decide +kernel)
                      have c439 : I430 a0 13 = v428 := (g433.cell ta0 (by decide +kernel)).trans c429
                      have w440 : RdI a0 I0 I430 := w422.rd w437
                      have w441 : RdI a0 I200 I430 := w423.rd w437
                      have gd442 := Gd.go gd424 w437.stick
                      obtain ⟨v443, c444⟩ : ∃ v, I430 a0 9 = v := ⟨_, rfl⟩
                      have b445 := iv15_9 hS438.1 ta0 c444
                      rw [c426] at p435
                      rw [c444] at p435
                      obtain ⟨v446, c447⟩ : ∃ v, I430 a0 8 = v := ⟨_, rfl⟩
                      have b448 := iv15_8 hS438.1 ta0 c447
                      rw [c447] at p436
                      rw [c421] at p436
                      rw [c439] at p436
                      rw [c429] at p436
                      refine tr_iload dX12_readTurner_207 hl198 ?_
                      refine q_iconst dX12_readTurner_209 (by decide) ?_
                      intro v449 h450
                      refine tr_iload dX12_readTurner_210 rfl ?_
                      refine q_ishlE dX12_readTurner_212 (by omega) (by omega) ?_
                      intro v451 h452
                      refine q_ior dX12_readTurner_213 ?_
                      intro v453
                      refine tr_istore dX12_readTurner_214 (by decide) (by decide) ?_
                      refine tr_aload_n dX12_readTurner_216 hl191 ?_
                      refine q_bipush dX12_readTurner_217 (by decide +kernel) ?_
                      intro v454 h455
                      have z456 := w441.2.2.1
                      (try rw [c204] at z456)
                      (try rw [c447] at z456)
                      (try rw [c444] at z456)
                      refine q_callVi hE (M' := mX12_eatsSign) (as := [_]) dX12_readTurner_219 lk12_221 inX12_eatsSign seX12_eatsSign myX12_eatsSign (by decide) ⟨by decide, by decide⟩ rfl (kR15 hS438.1 ta0) (Nat.le_of_ble_eq_true rfl) rfl rfl (by decide) (by decide) (k_X12_eatsSign hS438.1 ta0) ?_
                      rintro v461 cn' K' N' I457 R458 L459 ⟨rfl, rfl, rfl, rfl, g460, h462, p463, p464, w465, -⟩
                      have hS466 := hS438.tr g460 (by decide +kernel) (by decide +kernel)
                      have c467 : I457 a0 13 = v428 := (g460.cell ta0 (by decide +kernel)).trans c439
                      have w468 : RdI a0 I0 I457 := w440.ew w465
                      have w469 : RdI a0 I200 I457 := w441.ew w465
                      have gd470 := Gd.go gd442 w465.stick
                      rw [c444] at p463
                      obtain ⟨v471, c472⟩ : ∃ v, I457 a0 8 = v := ⟨_, rfl⟩
                      have b473 := iv15_8 hS466.1 ta0 c472
                      rw [c472] at p464
                      rw [c447] at p464
                      refine tr_istore dX12_readTurner_222 (by decide) (by decide) ?_
                      refine tr_goto 159 dX12_readTurner_224 (by decide) ?_
                      exact ih211 _ v453 v461 I457 L459 v471 hl191 hl192 hl193 hl194 hl195 hl196 hl197 rfl rfl hS466 c472 w468 (by omega) (by omega) (by omega)
            exact lp211 _ _ v185 v187 I175 L177 v206 rfl rfl rfl rfl rfl rfl rfl rfl rfl hS181 c207 w183 (by omega) (by omega) (Nat.lt_succ_self _)
        · skip
          refine q_iconst dX12_readTurner_68 (by decide) ?_
          intro v474 h475
          refine tr_goto 73 dX12_readTurner_69 (by decide) ?_
          refine tr_istore_n dX12_readTurner_73 (by decide) (by decide) ?_
          refine tr_iload_n dX12_readTurner_74 rfl ?_
          refine q_iconst dX12_readTurner_75 (by decide) ?_
          intro v476 h477
          refine q_icmp_ne 84 dX12_readTurner_76 (by decide) (fun h478 => ?_) (fun h478 => ?_)
          · skip
            refine tr_aload_n dX12_readTurner_84 rfl ?_
            refine tr_ldcwS dX12_readTurner_85 ld12_324 ?_
            refine q_iconst dX12_readTurner_88 (by decide) ?_
            intro v479 h480
            refine tr_aload_n dX12_readTurner_89 rfl ?_
            refine tr_getR dX12_readTurner_90 fl12_188 (kR15 hS75.1 ta0) d2 ?_
            obtain ⟨v481, c482⟩ : ∃ v, I0 a1 0 = v := ⟨_, rfl⟩
            have b483 := iv14_0 hW0 ta1 c482
            refine q_getI dX12_readTurner_93 fl12_192 (kR14 hS75.1 ta1) ((hS75.cell ta1 (by decide +kernel)).trans c482) ?_
            refine q_iconst dX12_readTurner_96 (by decide) ?_
            intro v484 h485
            refine q_isubE dX12_readTurner_97 (by intros; omega) ?_
            intro v486 h487
            refine q_callVi hE (M' := mX12_readPart) (as := [_, _, _]) dX12_readTurner_98 lk12_249 inX12_readPart seX12_readPart myX12_readPart (by decide) ⟨by decide, by decide⟩ rfl (kR15 hS75.1 ta0) (Nat.le_of_ble_eq_true rfl) rfl rfl (by decide) (by decide) (k_X12_readPart hS75.1 ta0 (by decide)) ?_
            rintro v492 cn' K' N' I488 R489 L490 ⟨rfl, rfl, rfl, rfl, g491, p493, w494, -⟩
            have hS495 := hS75.tr g491 (by decide +kernel) (by decide +kernel)
            have c496 : I488 a1 4 = v3 := (g491.cell ta1 (by decide +kernel)).trans c76
            have w497 : RdI a0 I0 I488 := w77.rd w494
            have gd498 := Gd.go gd78 w494.stick
            have b499 : 0 ≤ v492.toInt ∧ v492.toInt ≤ 239 := by omega
            clear p493
            refine tr_istore dX12_readTurner_101 (by decide) (by decide) ?_
            refine tr_aload_n dX12_readTurner_103 rfl ?_
            refine tr_ldcwS dX12_readTurner_104 ld12_272 ?_
            refine tr_iload dX12_readTurner_107 rfl ?_
            refine q_iconst dX12_readTurner_109 (by decide) ?_
            intro v500 h501
            refine q_iaddE dX12_readTurner_110 (by intros; omega) ?_
            intro v502 h503
            refine tr_aload_n dX12_readTurner_111 rfl ?_
            refine tr_getR dX12_readTurner_112 fl12_188 (kR15 hS495.1 ta0) d2 ?_
            refine q_getI dX12_readTurner_115 fl12_192 (kR14 hS495.1 ta1) ((hS495.cell ta1 (by decide +kernel)).trans c482) ?_
            refine q_callVi hE (M' := mX12_readPart) (as := [_, _, _]) dX12_readTurner_118 lk12_249 inX12_readPart seX12_readPart myX12_readPart (by decide) ⟨by decide, by decide⟩ rfl (kR15 hS495.1 ta0) (Nat.le_of_ble_eq_true rfl) rfl rfl (by decide) (by decide) (k_X12_readPart hS495.1 ta0 (by decide)) ?_
            rintro v508 cn' K' N' I504 R505 L506 ⟨rfl, rfl, rfl, rfl, g507, p509, w510, -⟩
            have hS511 := hS495.tr g507 (by decide +kernel) (by decide +kernel)
            have c512 : I504 a1 4 = v3 := (g507.cell ta1 (by decide +kernel)).trans c496
            have w513 : RdI a0 I0 I504 := w497.rd w510
            have gd514 := Gd.go gd498 w510.stick
            have b515 : 1 ≤ v508.toInt ∧ v508.toInt ≤ 240 := by omega
            clear p509
            refine tr_istore dX12_readTurner_121 (by decide) (by decide) ?_
            refine tr_aload_n dX12_readTurner_123 rfl ?_
            refine tr_ldcwS dX12_readTurner_124 ld12_325 ?_
            refine q_iconst dX12_readTurner_127 (by decide) ?_
            intro v516 h517
            refine q_bipush dX12_readTurner_128 (by decide +kernel) ?_
            intro v518 h519
            refine q_callVi hE (M' := mX12_readPart) (as := [_, _, _]) dX12_readTurner_130 lk12_249 inX12_readPart seX12_readPart myX12_readPart (by decide) ⟨by decide, by decide⟩ rfl (kR15 hS511.1 ta0) (Nat.le_of_ble_eq_true rfl) rfl rfl (by decide) (by decide) (k_X12_readPart hS511.1 ta0 (by decide)) ?_
            rintro v524 cn' K' N' I520 R521 L522 ⟨rfl, rfl, rfl, rfl, g523, p525, w526, -⟩
            have hS527 := hS511.tr g523 (by decide +kernel) (by decide +kernel)
            have c528 : I520 a1 4 = v3 := (g523.cell ta1 (by decide +kernel)).trans c512
            have w529 : RdI a0 I0 I520 := w513.rd w526
            have gd530 := Gd.go gd514 w526.stick
            have b531 : 1 ≤ v524.toInt ∧ v524.toInt ≤ 8 := by omega
            clear p525
            refine tr_istore dX12_readTurner_133 (by decide) (by decide) ?_
            refine tr_aload_n dX12_readTurner_135 rfl ?_
            refine tr_ldcwS dX12_readTurner_136 ld12_327 ?_
            refine q_iconst dX12_readTurner_139 (by decide) ?_
            intro v532 h533
            refine q_bipush dX12_readTurner_140 (by decide +kernel) ?_
            intro v534 h535
            refine q_callVi hE (M' := mX12_readPart) (as := [_, _, _]) dX12_readTurner_142 lk12_249 inX12_readPart seX12_readPart myX12_readPart (by decide) ⟨by decide, by decide⟩ rfl (kR15 hS527.1 ta0) (Nat.le_of_ble_eq_true rfl) rfl rfl (by decide) (by decide) (k_X12_readPart hS527.1 ta0 (by decide)) ?_
            rintro v540 cn' K' N' I536 R537 L538 ⟨rfl, rfl, rfl, rfl, g539, p541, w542, -⟩
            have hS543 := hS527.tr g539 (by decide +kernel) (by decide +kernel)
            have c544 : I536 a1 4 = v3 := (g539.cell ta1 (by decide +kernel)).trans c528
            have w545 : RdI a0 I0 I536 := w529.rd w542
            have gd546 := Gd.go gd530 w542.stick
            have b547 : 1 ≤ v540.toInt ∧ v540.toInt ≤ 20 := by omega
            clear p541
            refine tr_istore dX12_readTurner_145 (by decide) (by decide) ?_
            refine tr_aload_n dX12_readTurner_147 rfl ?_
            refine tr_ldcS dX12_readTurner_148 ld12_253 ?_
            refine q_callVv hE (M' := mX12_needs) (as := [_]) dX12_readTurner_150 lk12_157 inX12_needs seX12_needs myX12_needs (by decide) ⟨by decide, by decide⟩ rfl (kR15 hS543.1 ta0) (Nat.le_of_ble_eq_true rfl) rfl rfl (by decide) (by decide) (k_X12_needs hS543.1 ta0 (by decide)) ?_
            rintro cn' K' N' I548 R549 L550 ⟨rfl, rfl, rfl, rfl, g551, w553, -⟩
            have hS554 := hS543.tr g551 (by decide +kernel) (by decide +kernel)
            have c555 : I548 a1 4 = v3 := (g551.cell ta1 (by decide +kernel)).trans c544
            have w556 : RdI a0 I0 I548 := w545.rd w553
            have gd557 := Gd.go gd546 w553.stick
            refine q_iconst dX12_readTurner_153 (by decide) ?_
            intro v558 h559
            refine tr_istore dX12_readTurner_154 (by decide) (by decide) ?_
            refine q_iconst dX12_readTurner_156 (by decide) ?_
            intro v560 h561
            refine tr_istore dX12_readTurner_157 (by decide) (by decide) ?_
            obtain ⟨v579, c580⟩ : ∃ v, I548 a0 8 = v := ⟨_, rfl⟩
            have b581 := iv15_8 hS554.1 ta0 c580
            have lp584 : ∀ (fu : Nat) (ls : Nat → Option Value) (v562 : Int32) (v563 : Int32) (I573 : cz_I) (L574 : cz_L) (v576 : Int32), ls 0 = some (.ref a0) → ls 1 = some (.long y26) → ls 3 = some (.int v474) → ls 4 = some (.int v492) → ls 5 = some (.int v508) → ls 6 = some (.int v524) → ls 7 = some (.int v540) → ls 8 = some (.int v562) → ls 9 = some (.int v563) → St T cn K N 0 wi_X12_readTurner wr_X12_readTurner I0 R0 I573 R0 → I573 a0 8 = v576 → RdI a0 I0 I573 → 0 ≤ v563.toInt → v563.toInt ≤ 1 → (-v576.toInt + v563.toInt + 900).toNat < fu → Tr X mX12_readTurner 159 ls [] cn K N I573 R0 L574 0 0 := by
              intro fu
              induction fu with
              | zero => intros; rename_i hz; exact absurd hz (Nat.not_lt_zero _)
              | succ fu ih584 =>
                intro ls v562 v563 I573 L574 v576 hl564 hl565 hl566 hl567 hl568 hl569 hl570 hl571 hl572 hS575 c577 w578 g582 g583 hm584
                have b586 := iv15_8 hS575.1 ta0 c577
                refine tr_iload dX12_readTurner_159 hl572 ?_
                refine q_if_eq 227 dX12_readTurner_161 (by decide) (fun h587 => ?_) (fun h587 => ?_)
                · skip
                  refine tr_aload_n dX12_readTurner_227 hl564 ?_
                  obtain ⟨v588, c589⟩ : ∃ v, I573 a0 9 = v := ⟨_, rfl⟩
                  have b590 := iv15_9 hS575.1 ta0 c589
                  refine q_getI dX12_readTurner_228 fl12_99 (kR15 hS575.1 ta0) c589 ?_
                  refine q_iconst dX12_readTurner_231 (by decide) ?_
                  intro v591 h592
                  refine q_icmp_ne 236 dX12_readTurner_232 (by decide) (fun h593 => ?_) (fun h593 => ?_)
                  · skip
                    refine tr_aload_n dX12_readTurner_236 hl564 ?_
                    refine tr_getR dX12_readTurner_237 fl12_188 (kR15 hS575.1 ta0) d2 ?_
                    obtain ⟨v594, c595⟩ : ∃ v, I573 a1 4 = v := ⟨_, rfl⟩
                    have b596 := iv14_4 hS575.1 ta1 c595
                    refine q_getI dX12_readTurner_240 fl12_315 (kR14 hS575.1 ta1) c595 ?_
                    refine tr_istore dX12_readTurner_243 (by decide) (by decide) ?_
                    refine tr_aload_n dX12_readTurner_245 hl564 ?_
                    refine tr_lload_n dX12_readTurner_246 hl565 ?_
                    refine q_iconst dX12_readTurner_247 (by decide) ?_
                    intro v597 h598
                    refine tr_iload dX12_readTurner_248 rfl ?_
                    obtain ⟨v600, c601⟩ : ∃ v, I573 a1 7 = v := ⟨_, rfl⟩
                    have b602 := iv14_7 hS575.1 ta1 c601
                    obtain ⟨v603, c604⟩ : ∃ v, I0 a1 3 = v := ⟨_, rfl⟩
                    have b605 := iv14_3 hW0 ta1 c604
                    have p599 := hS575.1.2.2.2.2.1 a0 ta0 _ d2
                    rw [c601, ((hS575.cell ta1 (by decide +kernel)).trans c604), c595] at p599
                    refine q_callVv hE (M' := mX12_names) (as := [_, _, _]) dX12_readTurner_250 lk12_293 inX12_names seX12_names myX12_names (by decide) ⟨by decide, by decide⟩ rfl (kR15 hS575.1 ta0) (Nat.le_of_ble_eq_true rfl) rfl rfl (by decide) (by decide) (k_X12_names hS575.1 ta0 (fun q0 z0 => by obtain rfl := Option.some.inj ((d2).symm.trans z0); (try rw [c601]); (try omega)) ⟨_, d2⟩) ?_
                    rintro cn' K' N' I606 R607 L608 ⟨rfl, rfl, rfl, rfl, g609, -⟩
                    have hS611 := hS575.tr g609 (by decide +kernel) (by decide +kernel)
                    have c612 : I606 a0 8 = v576 := (g609.cell ta0 (by decide +kernel)).trans c577
                    have c613 : I606 a0 9 = v588 := (g609.cell ta0 (by decide +kernel)).trans c589
                    have c614 : I606 a1 4 = v594 := (g609.cell ta1 (by decide +kernel)).trans c595
                    have w615 : RdI a0 I0 I606 := w578.keep (g609.cell ta0 (by decide +kernel)) (g609.cell ta0 (by decide +kernel)) (g609.cell ta0 (by decide +kernel))
                    have w616 : EwI a0 I573 I606 := (EwI.rf a0 I573).keep (g609.cell ta0 (by decide +kernel)) (g609.cell ta0 (by decide +kernel)) (g609.cell ta0 (by decide +kernel))
                    refine tr_aload_n dX12_readTurner_253 hl564 ?_
                    refine tr_getR dX12_readTurner_254 fl12_188 (kR15 hS611.1 ta0) d2 ?_
                    obtain ⟨a617, d618, ta617⟩ := rf14_20 hW0 ta1
                    refine tr_getR dX12_readTurner_257 fl12_333 (kR14 hS611.1 ta1) d618 ?_
                    refine tr_iload dX12_readTurner_260 rfl ?_
                    refine tr_iload_n dX12_readTurner_262 hl566 ?_
                    refine q_iast dX12_readTurner_263 (kR63 hS611.1 ta617) (ti_in (nR63 hS611.1 ta617) (by omega) (by omega)) hS611 ta617 (iokF rfl) rfl (by rfl) ?_
                    intro I619 hS620 e622 f621
                    have c623 : I619 a0 8 = v576 := (f621 _ _ (fun q => by have z := ta0; rw [q.1, ta617] at z; exact absurd z (by decide))).trans c612
                    have c624 : I619 a0 9 = v588 := (f621 _ _ (fun q => by have z := ta0; rw [q.1, ta617] at z; exact absurd z (by decide))).trans c613
                    have c625 : I619 a1 4 = v594 := (f621 _ _ (fun q => by have z := ta1; rw [q.1, ta617] at z; exact absurd z (by decide))).trans c614
                    have w626 : RdI a0 I0 I619 := w615.keep (f621 _ _ (fun q => by have z := ta0; rw [q.1, ta617] at z; exact absurd z (by decide))) (f621 _ _ (fun q => by have z := ta0; rw [q.1, ta617] at z; exact absurd z (by decide))) (f621 _ _ (fun q => by have z := ta0; rw [q.1, ta617] at z; exact absurd z (by decide)))
                    have w627 : EwI a0 I573 I619 := w616.keep (f621 _ _ (fun q => by have z := ta0; rw [q.1, ta617] at z; exact absurd z (by decide))) (f621 _ _ (fun q => by have z := ta0; rw [q.1, ta617] at z; exact absurd z (by decide))) (f621 _ _ (fun q => by have z := ta0; rw [q.1, ta617] at z; exact absurd z (by decide)))
                    refine tr_aload_n dX12_readTurner_264 hl564 ?_
                    refine tr_getR dX12_readTurner_265 fl12_188 (kR15 hS620.1 ta0) d2 ?_
                    obtain ⟨a628, d629, ta628⟩ := rf14_21 hW0 ta1
                    refine tr_getR dX12_readTurner_268 fl12_336 (kR14 hS620.1 ta1) d629 ?_
                    refine tr_iload dX12_readTurner_271 rfl ?_
                    refine tr_iload dX12_readTurner_273 hl567 ?_
                    refine q_iast dX12_readTurner_275 (kR64 hS620.1 ta628) (ti_in (nR64 hS620.1 ta628) (by omega) (by omega)) hS620 ta628 (iokF rfl) rfl (by rfl) ?_
                    intro I630 hS631 e633 f632
                    have c634 : I630 a0 8 = v576 := (f632 _ _ (fun q => by have z := ta0; rw [q.1, ta628] at z; exact absurd z (by decide))).trans c623
                    have c635 : I630 a0 9 = v588 := (f632 _ _ (fun q => by have z := ta0; rw [q.1, ta628] at z; exact absurd z (by decide))).trans c624
                    have c636 : I630 a1 4 = v594 := (f632 _ _ (fun q => by have z := ta1; rw [q.1, ta628] at z; exact absurd z (by decide))).trans c625
                    have w637 : RdI a0 I0 I630 := w626.keep (f632 _ _ (fun q => by have z := ta0; rw [q.1, ta628] at z; exact absurd z (by decide))) (f632 _ _ (fun q => by have z := ta0; rw [q.1, ta628] at z; exact absurd z (by decide))) (f632 _ _ (fun q => by have z := ta0; rw [q.1, ta628] at z; exact absurd z (by decide)))
                    have w638 : EwI a0 I573 I630 := w627.keep (f632 _ _ (fun q => by have z := ta0; rw [q.1, ta628] at z; exact absurd z (by decide))) (f632 _ _ (fun q => by have z := ta0; rw [q.1, ta628] at z; exact absurd z (by decide))) (f632 _ _ (fun q => by have z := ta0; rw [q.1, ta628] at z; exact absurd z (by decide)))
                    refine tr_aload_n dX12_readTurner_276 hl564 ?_
                    refine tr_getR dX12_readTurner_277 fl12_188 (kR15 hS631.1 ta0) d2 ?_
                    obtain ⟨a639, d640, ta639⟩ := rf14_22 hW0 ta1
                    refine tr_getR dX12_readTurner_280 fl12_339 (kR14 hS631.1 ta1) d640 ?_
                    refine tr_iload dX12_readTurner_283 rfl ?_
                    refine tr_iload dX12_readTurner_285 hl568 ?_
                    refine q_iast dX12_readTurner_287 (kR65 hS631.1 ta639) (ti_in (nR65 hS631.1 ta639) (by omega) (by omega)) hS631 ta639 (iokF rfl) rfl (by rfl) ?_
                    intro I641 hS642 e644 f643
                    have c645 : I641 a0 8 = v576 := (f643 _ _ (fun q => by have z := ta0; rw [q.1, ta639] at z; exact absurd z (by decide))).trans c634
                    have c646 : I641 a0 9 = v588 := (f643 _ _ (fun q => by have z := ta0; rw [q.1, ta639] at z; exact absurd z (by decide))).trans c635
                    have c647 : I641 a1 4 = v594 := (f643 _ _ (fun q => by have z := ta1; rw [q.1, ta639] at z; exact absurd z (by decide))).trans c636
                    have w648 : RdI a0 I0 I641 := w637.keep (f643 _ _ (fun q => by have z := ta0; rw [q.1, ta639] at z; exact absurd z (by decide))) (f643 _ _ (fun q => by have z := ta0; rw [q.1, ta639] at z; exact absurd z (by decide))) (f643 _ _ (fun q => by have z := ta0; rw [q.1, ta639] at z; exact absurd z (by decide)))
                    have w649 : EwI a0 I573 I641 := w638.keep (f643 _ _ (fun q => by have z := ta0; rw [q.1, ta639] at z; exact absurd z (by decide))) (f643 _ _ (fun q => by have z := ta0; rw [q.1, ta639] at z; exact absurd z (by decide))) (f643 _ _ (fun q => by have z := ta0; rw [q.1, ta639] at z; exact absurd z (by decide)))
                    refine tr_aload_n dX12_readTurner_288 hl564 ?_
                    refine tr_getR dX12_readTurner_289 fl12_188 (kR15 hS642.1 ta0) d2 ?_
                    obtain ⟨a650, d651, ta650⟩ := rf14_23 hW0 ta1
                    refine tr_getR dX12_readTurner_292 fl12_342 (kR14 hS642.1 ta1) d651 ?_
                    refine tr_iload dX12_readTurner_295 rfl ?_
                    refine tr_iload dX12_readTurner_297 hl569 ?_
                    refine q_iast dX12_readTurner_299 (kR66 hS642.1 ta650) (ti_in (nR66 hS642.1 ta650) (by omega) (by omega)) hS642 ta650 (iokF rfl) rfl (by rfl) ?_
                    intro I652 hS653 e655 f654
                    have c656 : I652 a0 8 = v576 := (f654 _ _ (fun q => by have z := ta0; rw [q.1, ta650] at z; exact absurd z (by decide))).trans c645
                    have c657 : I652 a0 9 = v588 := (f654 _ _ (fun q => by have z := ta0; rw [q.1, ta650] at z; exact absurd z (by decide))).trans c646
                    have c658 : I652 a1 4 = v594 := (f654 _ _ (fun q => by have z := ta1; rw [q.1, ta650] at z; exact absurd z (by decide))).trans c647
                    have w659 : RdI a0 I0 I652 := w648.keep (f654 _ _ (fun q => by have z := ta0; rw [q.1, ta650] at z; exact absurd z (by decide))) (f654 _ _ (fun q => by have z := ta0; rw [q.1, ta650] at z; exact absurd z (by decide))) (f654 _ _ (fun q => by have z := ta0; rw [q.1, ta650] at z; exact absurd z (by decide)))
                    have w660 : EwI a0 I573 I652 := w649.keep (f654 _ _ (fun q => by have z := ta0; rw [q.1, ta650] at z; exact absurd z (by decide))) (f654 _ _ (fun q => by have z := ta0; rw [q.1, ta650] at z; exact absurd z (by decide))) (f654 _ _ (fun q => by have z := ta0; rw [q.1, ta650] at z; exact absurd z (by decide)))
                    refine tr_aload_n dX12_readTurner_300 hl564 ?_
                    refine tr_getR dX12_readTurner_301 fl12_188 (kR15 hS653.1 ta0) d2 ?_
                    obtain ⟨a661, d662, ta661⟩ := rf14_24 hW0 ta1
                    refine tr_getR dX12_readTurner_304 fl12_344 (kR14 hS653.1 ta1) d662 ?_
                    refine tr_iload dX12_readTurner_307 rfl ?_
                    refine tr_iload dX12_readTurner_309 hl570 ?_
                    refine q_iast dX12_readTurner_311 (kR67 hS653.1 ta661) (ti_in (nR67 hS653.1 ta661) (by omega) (by omega)) hS653 ta661 (iokF rfl) rfl (by rfl) ?_
                    intro I663 hS664 e666 f665
                    have c667 : I663 a0 8 = v576 := (f665 _ _ (fun q => by have z := ta0; rw [q.1, ta661] at z; exact absurd z (by decide))).trans c656
                    have c668 : I663 a0 9 = v588 := (f665 _ _ (fun q => by have z := ta0; rw [q.1, ta661] at z; exact absurd z (by decide))).trans c657
                    have c669 : I663 a1 4 = v594 := (f665 _ _ (fun q => by have z := ta1; rw [q.1, ta661] at z; exact absurd z (by decide))).trans c658
                    have w670 : RdI a0 I0 I663 := w659.keep (f665 _ _ (fun q => by have z := ta0; rw [q.1, ta661] at z; exact absurd z (by decide))) (f665 _ _ (fun q => by have z := ta0; rw [q.1, ta661] at z; exact absurd z (by decide))) (f665 _ _ (fun q => by have z := ta0; rw [q.1, ta661] at z; exact absurd z (by decide)))
                    have w671 : EwI a0 I573 I663 := w660.keep (f665 _ _ (fun q => by have z := ta0; rw [q.1, ta661] at z; exact absurd z (by decide))) (f665 _ _ (fun q => by have z := ta0; rw [q.1, ta661] at z; exact absurd z (by decide))) (f665 _ _ (fun q => by have z := ta0; rw [q.1, ta661] at z; exact absurd z (by decide)))
                    refine tr_aload_n dX12_readTurner_312 hl564 ?_
                    refine tr_getR dX12_readTurner_313 fl12_188 (kR15 hS664.1 ta0) d2 ?_
                    obtain ⟨a672, d673, ta672⟩ := rf14_25 hW0 ta1
                    refine tr_getR dX12_readTurner_316 fl12_346 (kR14 hS664.1 ta1) d673 ?_
                    refine tr_iload dX12_readTurner_319 rfl ?_
                    refine tr_iload dX12_readTurner_321 hl571 ?_
                    refine q_iast dX12_readTurner_323 (kR68 hS664.1 ta672) (ti_in (nR68 hS664.1 ta672) (by omega) (by omega)) hS664 ta672 (iokF rfl) rfl (by rfl) ?_
                    intro I674 hS675 e677 f676
                    have c678 : I674 a0 8 = v576 := (f676 _ _ (fun q => by have z := ta0; rw [q.1, ta672] at z; exact absurd z (by decide))).trans c667
                    have c679 : I674 a0 9 = v588 := (f676 _ _ (fun q => by have z := ta0; rw [q.1, ta672] at z; exact absurd z (by decide))).trans c668
                    have c680 : I674 a1 4 = v594 := (f676 _ _ (fun q => by have z := ta1; rw [q.1, ta672] at z; exact absurd z (by decide))).trans c669
                    have w681 : RdI a0 I0 I674 := w670.keep (f676 _ _ (fun q => by have z := ta0; rw [q.1, ta672] at z; exact absurd z (by decide))) (f676 _ _ (fun q => by have z := ta0; rw [q.1, ta672] at z; exact absurd z (by decide))) (f676 _ _ (fun q => by have z := ta0; rw [q.1, ta672] at z; exact absurd z (by decide)))
                    have w682 : EwI a0 I573 I674 := w671.keep (f676 _ _ (fun q => by have z := ta0; rw [q.1, ta672] at z; exact absurd z (by decide))) (f676 _ _ (fun q => by have z := ta0; rw [q.1, ta672] at z; exact absurd z (by decide))) (f676 _ _ (fun q => by have z := ta0; rw [q.1, ta672] at z; exact absurd z (by decide)))
                    refine tr_aload_n dX12_readTurner_324 hl564 ?_
                    refine tr_getR dX12_readTurner_325 fl12_188 (kR15 hS675.1 ta0) d2 ?_
                    refine tr_dup dX12_readTurner_328 rfl ?_
                    refine q_getI dX12_readTurner_329 fl12_315 (kR14 hS675.1 ta1) c680 ?_
                    refine q_iconst dX12_readTurner_332 (by decide) ?_
                    intro v683 h684
                    refine q_iaddE dX12_readTurner_333 (by intros; omega) ?_
                    intro v685 h686
                    refine q_putX dX12_readTurner_334 fl12_315 (kR14 hS675.1 ta1) (Or.inl rfl) hS675 ta1 (by decide +kernel) (hS675.1.putN (d' := 0) ta0 d2 (Or.inr (Or.inr rfl)) (by rw [c680]; omega) (by decide) (by show (0 : Int) ≤ v685.toInt ∧ v685.toInt ≤ (5 : Int); omega)) ?_
                    intro I687 hS688 e689 f690
                    have c691 : I687 a0 8 = v576 := (f690 _ _ (fun q => absurd q.2 (by decide))).trans c678
                    have c692 : I687 a0 9 = v588 := (f690 _ _ (fun q => absurd q.2 (by decide))).trans c679
                    have w693 : RdI a0 I0 I687 := w681.keep (f690 _ _ (fun q => absurd q.2 (by decide))) (f690 _ _ (fun q => absurd q.2 (by decide))) (f690 _ _ (fun q => absurd q.2 (by decide)))
                    have w694 : EwI a0 I573 I687 := w682.keep (f690 _ _ (fun q => absurd q.2 (by decide))) (f690 _ _ (fun q => absurd q.2 (by decide))) (f690 _ _ (fun q => absurd q.2 (by decide)))
                    exact tr_vret hZ dX12_readTurner_337 rfl (by decide) (by decide) ⟨rfl, rfl, rfl, rfl, rfl, hS688, w693, trivial⟩
                  · skip
                    exact tr_vret hZ dX12_readTurner_235 rfl (by decide) (by decide) ⟨rfl, rfl, rfl, rfl, rfl, hS575, w578, trivial⟩
                · skip
                  refine tr_aload_n dX12_readTurner_164 hl564 ?_
                  obtain ⟨v695, c696⟩ : ∃ v, I573 a0 9 = v := ⟨_, rfl⟩
                  have b697 := iv15_9 hS575.1 ta0 c696
                  refine q_getI dX12_readTurner_165 fl12_99 (kR15 hS575.1 ta0) c696 ?_
                  refine q_iconst dX12_readTurner_168 (by decide) ?_
                  intro v698 h699
                  refine q_icmp_eq 227 dX12_readTurner_169 (by decide) (fun h700 => ?_) (fun h700 => ?_)
                  · skip
                    refine tr_aload_n dX12_readTurner_227 hl564 ?_
                    refine q_getI dX12_readTurner_228 fl12_99 (kR15 hS575.1 ta0) c696 ?_
                    refine q_iconst dX12_readTurner_231 (by decide) ?_
                    intro v701 h702
                    refine q_icmp_ne 236 dX12_readTurner_232 (by decide) (fun h703 => ?_) (fun h703 => ?_)
                    · skip
                      exfalso; omega
                    · skip
                      exact tr_vret hZ dX12_readTurner_235 rfl (by decide) (by decide) ⟨rfl, rfl, rfl, rfl, rfl, hS575, w578, trivial⟩
                  · skip
                    refine tr_aload_n dX12_readTurner_172 hl564 ?_
                    refine q_iconst dX12_readTurner_173 (by decide) ?_
                    intro v704 h705
                    refine tr_aload_n dX12_readTurner_174 hl564 ?_
                    refine tr_getR dX12_readTurner_175 fl12_188 (kR15 hS575.1 ta0) d2 ?_
                    obtain ⟨v706, c707⟩ : ∃ v, I0 a1 1 = v := ⟨_, rfl⟩
                    have b708 := iv14_1 hW0 ta1 c707
                    refine q_getI dX12_readTurner_178 fl12_263 (kR14 hS575.1 ta1) ((hS575.cell ta1 (by decide +kernel)).trans c707) ?_
                    refine q_iconst dX12_readTurner_181 (by decide) ?_
                    intro v709 h710
                    refine q_isubE dX12_readTurner_182 (by intros; omega) ?_
                    intro v711 h712
                    refine q_callVi hE (M' := mX12_bounded) (as := [_, _]) dX12_readTurner_183 lk12_153 inX12_bounded seX12_bounded myX12_bounded (by decide) ⟨by decide, by decide⟩ rfl (kR15 hS575.1 ta0) (Nat.le_of_ble_eq_true rfl) rfl rfl (by decide) (by decide) (k_X12_bounded hS575.1 ta0) ?_
                    rintro v717 cn' K' N' I713 R714 L715 ⟨rfl, rfl, rfl, rfl, rfl, g716, p718, p719, w720, -⟩
                    have hS721 := hS575.tr g716 (by decide +kernel) (by decide +kernel)
                    have c722 : I713 a0 8 = v576 := (g716.cell ta0 (by decide +kernel)).trans c577
                    have w723 : RdI a0 I0 I713 := w578.ew w720
                    have w724 : EwI a0 I573 I713 := (EwI.rf a0 I573).ew w720
                    have b725 : 0 ≤ v717.toInt ∧ v717.toInt ≤ 3 := by omega
                    clear p718
                    obtain ⟨v726, c727⟩ : ∃ v, I713 a0 9 = v := ⟨_, rfl⟩
                    have b728 := iv15_9 hS721.1 ta0 c727
                    have gd729 : Gd (I713 a0 9) ((v704.toInt ≤ v717.toInt ∧ v717.toInt ≤ v711.toInt)) := p719
                    clear p719
                    refine tr_istore dX12_readTurner_186 (by decide) (by decide) ?_
                    refine tr_iload dX12_readTurner_188 hl571 ?_
                    refine tr_iload dX12_readTurner_190 rfl ?_
                    refine q_callSi hE (M' := mX12_has) (as := [_, _]) dX12_readTurner_192 lk12_329 inX12_has myX12_has ⟨by decide, by decide⟩ rfl (Nat.le_of_ble_eq_true rfl) rfl rfl (by decide) (by decide) (k_X12_has hS721.1 ) ?_
                    rintro v734 cn' K' N' I730 R731 L732 ⟨rfl, rfl, rfl, rfl, rfl, rfl, h735, -⟩
                    refine q_if_eq 203 dX12_readTurner_195 (by decide) (fun h736 => ?_) (fun h736 => ?_)
                    · skip
                      refine tr_aload_n dX12_readTurner_203 hl564 ?_
                      obtain ⟨v737, c738⟩ : ∃ v, I713 a0 13 = v := ⟨_, rfl⟩
                      refine q_callVv hE (M' := mX12_goesOn) (as := []) dX12_readTurner_204 lk12_142 inX12_goesOn seX12_goesOn myX12_goesOn (by decide) ⟨by decide, by decide⟩ rfl (kR15 hS721.1 ta0) (Nat.le_of_ble_eq_true rfl) rfl rfl (by decide) (by decide) (k_X12_goesOn hS721.1 ta0) ?_
                      rintro cn' K' N' I739 R740 L741 ⟨rfl, rfl, rfl, rfl, g742, p744, p745, w746, -⟩
                      have hS747 := hS721.tr g742 (by decide +kernel) (by decide +kernel)
                      have c748 : I739 a0 13 = v737 := (g742.cell ta0 (by decide +kernel)).trans c738
                      have w749 : RdI a0 I0 I739 := w723.rd w746
                      have w750 : RdI a0 I573 I739 := w724.rd w746
                      have gd751 := Gd.go gd729 w746.stick
                      obtain ⟨v752, c753⟩ : ∃ v, I739 a0 9 = v := ⟨_, rfl⟩
                      have b754 := iv15_9 hS747.1 ta0 c753
                      rw [c727] at p744
                      rw [c753] at p744
                      obtain ⟨v755, c756⟩ : ∃ v, I739 a0 8 = v := ⟨_, rfl⟩
                      have b757 := iv15_8 hS747.1 ta0 c756
                      rw [c756] at p745
                      rw [c722] at p745
                      rw [c748] at p745
                      rw [c738] at p745
                      refine tr_iload dX12_readTurner_207 hl571 ?_
                      refine q_iconst dX12_readTurner_209 (by decide) ?_
                      intro v758 h759
                      refine tr_iload dX12_readTurner_210 rfl ?_
                      refine q_ishlE dX12_readTurner_212 (by omega) (by omega) ?_
                      intro v760 h761
                      refine q_ior dX12_readTurner_213 ?_
                      intro v762
                      refine tr_istore dX12_readTurner_214 (by decide) (by decide) ?_
                      refine tr_aload_n dX12_readTurner_216 hl564 ?_
                      refine q_bipush dX12_readTurner_217 (by decide +kernel) ?_
                      intro v763 h764
                      have z765 := w750.2.2.1
                      (try rw [c577] at z765)
                      (try rw [c756] at z765)
                      (try rw [c753] at z765)
                      refine q_callVi hE (M' := mX12_eatsSign) (as := [_]) dX12_readTurner_219 lk12_221 inX12_eatsSign seX12_eatsSign myX12_eatsSign (by decide) ⟨by decide, by decide⟩ rfl (kR15 hS747.1 ta0) (Nat.le_of_ble_eq_true rfl) rfl rfl (by decide) (by decide) (k_X12_eatsSign hS747.1 ta0) ?_
                      rintro v770 cn' K' N' I766 R767 L768 ⟨rfl, rfl, rfl, rfl, g769, h771, p772, p773, w774, -⟩
                      have hS775 := hS747.tr g769 (by decide +kernel) (by decide +kernel)
                      have c776 : I766 a0 13 = v737 := (g769.cell ta0 (by decide +kernel)).trans c748
                      have w777 : RdI a0 I0 I766 := w749.ew w774
                      have w778 : RdI a0 I573 I766 := w750.ew w774
                      have gd779 := Gd.go gd751 w774.stick
                      rw [c753] at p772
                      obtain ⟨v780, c781⟩ : ∃ v, I766 a0 8 = v := ⟨_, rfl⟩
                      have b782 := iv15_8 hS775.1 ta0 c781
                      rw [c781] at p773
                      rw [c756] at p773
                      refine tr_istore dX12_readTurner_222 (by decide) (by decide) ?_
                      refine tr_goto 159 dX12_readTurner_224 (by decide) ?_
                      exact ih584 _ v762 v770 I766 L768 v780 hl564 hl565 hl566 hl567 hl568 hl569 hl570 rfl rfl hS775 c781 w777 (by omega) (by omega) (by omega)
                    · skip
                      refine tr_aload_n dX12_readTurner_198 hl564 ?_
                      refine q_iconst dX12_readTurner_199 (by decide) ?_
                      intro v783 h784
                      refine q_callVv hE (M' := mX12_flaw) (as := [_]) dX12_readTurner_200 lk12_145 inX12_flaw seX12_flaw myX12_flaw (by decide) ⟨by decide, by decide⟩ rfl (kR15 hS721.1 ta0) (Nat.le_of_ble_eq_true rfl) rfl rfl (by decide) (by decide) (k_X12_flaw hS721.1 ta0 (by omega)) ?_
                      rintro cn' K' N' I785 R786 L787 ⟨rfl, rfl, rfl, rfl, rfl, g788, p790, p791, w792, -⟩
                      have hS793 := hS721.tr g788 (by decide +kernel) (by decide +kernel)
                      have c794 : I785 a0 8 = v576 := (g788.cell ta0 (by decide +kernel)).trans c722
                      have w795 : RdI a0 I0 I785 := w723.rd w792
                      have w796 : RdI a0 I573 I785 := w724.rd w792
                      have gd797 := Gd.go gd729 w792.stick
                      obtain ⟨v798, c799⟩ : ∃ v, I785 a0 9 = v := ⟨_, rfl⟩
                      have b800 := iv15_9 hS793.1 ta0 c799
                      rw [c799] at p790
                      rw [c794] at p791
                      rw [c722] at p791
                      refine tr_aload_n dX12_readTurner_203 hl564 ?_
                      obtain ⟨v801, c802⟩ : ∃ v, I785 a0 13 = v := ⟨_, rfl⟩
                      refine q_callVv hE (M' := mX12_goesOn) (as := []) dX12_readTurner_204 lk12_142 inX12_goesOn seX12_goesOn myX12_goesOn (by decide) ⟨by decide, by decide⟩ rfl (kR15 hS793.1 ta0) (Nat.le_of_ble_eq_true rfl) rfl rfl (by decide) (by decide) (k_X12_goesOn hS793.1 ta0) ?_
                      rintro cn' K' N' I803 R804 L805 ⟨rfl, rfl, rfl, rfl, g806, p808, p809, w810, -⟩
                      have hS811 := hS793.tr g806 (by decide +kernel) (by decide +kernel)
                      have c812 : I803 a0 13 = v801 := (g806.cell ta0 (by decide +kernel)).trans c802
                      have w813 : RdI a0 I0 I803 := w795.rd w810
                      have w814 : RdI a0 I573 I803 := w796.rd w810
                      have gd815 := Gd.go gd797 w810.stick
                      obtain ⟨v816, c817⟩ : ∃ v, I803 a0 9 = v := ⟨_, rfl⟩
                      have b818 := iv15_9 hS811.1 ta0 c817
                      rw [c799] at p808
                      rw [c817] at p808
                      obtain ⟨v819, c820⟩ : ∃ v, I803 a0 8 = v := ⟨_, rfl⟩
                      have b821 := iv15_8 hS811.1 ta0 c820
                      rw [c820] at p809
                      rw [c794] at p809
                      rw [c812] at p809
                      rw [c802] at p809
                      refine tr_iload dX12_readTurner_207 hl571 ?_
                      refine q_iconst dX12_readTurner_209 (by decide) ?_
                      intro v822 h823
                      refine tr_iload dX12_readTurner_210 rfl ?_
                      refine q_ishlE dX12_readTurner_212 (by omega) (by omega) ?_
                      intro v824 h825
                      refine q_ior dX12_readTurner_213 ?_
                      intro v826
                      refine tr_istore dX12_readTurner_214 (by decide) (by decide) ?_
                      refine tr_aload_n dX12_readTurner_216 hl564 ?_
                      refine q_bipush dX12_readTurner_217 (by decide +kernel) ?_
                      intro v827 h828
                      have z829 := w814.2.2.1
                      (try rw [c577] at z829)
                      (try rw [c820] at z829)
                      (try rw [c817] at z829)
                      refine q_callVi hE (M' := mX12_eatsSign) (as := [_]) dX12_readTurner_219 lk12_221 inX12_eatsSign seX12_eatsSign myX12_eatsSign (by decide) ⟨by decide, by decide⟩ rfl (kR15 hS811.1 ta0) (Nat.le_of_ble_eq_true rfl) rfl rfl (by decide) (by decide) (k_X12_eatsSign hS811.1 ta0) ?_
                      rintro v834 cn' K' N' I830 R831 L832 ⟨rfl, rfl, rfl, rfl, g833, h835, p836, p837, w838, -⟩
                      have hS839 := hS811.tr g833 (by decide +kernel) (by decide +kernel)
                      have c840 : I830 a0 13 = v801 := (g833.cell ta0 (by decide +kernel)).trans c812
                      have w841 : RdI a0 I0 I830 := w813.ew w838
                      have w842 : RdI a0 I573 I830 := w814.ew w838
                      have gd843 := Gd.go gd815 w838.stick
                      rw [c817] at p836
                      obtain ⟨v844, c845⟩ : ∃ v, I830 a0 8 = v := ⟨_, rfl⟩
                      have b846 := iv15_8 hS839.1 ta0 c845
                      rw [c845] at p837
                      rw [c820] at p837
                      refine tr_istore dX12_readTurner_222 (by decide) (by decide) ?_
                      refine tr_goto 159 dX12_readTurner_224 (by decide) ?_
                      exact ih584 _ v826 v834 I830 L832 v844 hl564 hl565 hl566 hl567 hl568 hl569 hl570 rfl rfl hS839 c845 w841 (by omega) (by omega) (by omega)
            exact lp584 _ _ v558 v560 I548 L550 v579 rfl rfl rfl rfl rfl rfl rfl rfl rfl hS554 c580 w556 (by omega) (by omega) (Nat.lt_succ_self _)
          · skip
            exfalso; omega
      · skip
        refine q_iconst dX12_readTurner_55 (by decide) ?_
        intro v847 h848
        refine tr_goto 73 dX12_readTurner_56 (by decide) ?_
        refine tr_istore_n dX12_readTurner_73 (by decide) (by decide) ?_
        refine tr_iload_n dX12_readTurner_74 rfl ?_
        refine q_iconst dX12_readTurner_75 (by decide) ?_
        intro v849 h850
        refine q_icmp_ne 84 dX12_readTurner_76 (by decide) (fun h851 => ?_) (fun h851 => ?_)
        · skip
          refine tr_aload_n dX12_readTurner_84 rfl ?_
          refine tr_ldcwS dX12_readTurner_85 ld12_324 ?_
          refine q_iconst dX12_readTurner_88 (by decide) ?_
          intro v852 h853
          refine tr_aload_n dX12_readTurner_89 rfl ?_
          refine tr_getR dX12_readTurner_90 fl12_188 (kR15 hS63.1 ta0) d2 ?_
          obtain ⟨v854, c855⟩ : ∃ v, I0 a1 0 = v := ⟨_, rfl⟩
          have b856 := iv14_0 hW0 ta1 c855
          refine q_getI dX12_readTurner_93 fl12_192 (kR14 hS63.1 ta1) ((hS63.cell ta1 (by decide +kernel)).trans c855) ?_
          refine q_iconst dX12_readTurner_96 (by decide) ?_
          intro v857 h858
          refine q_isubE dX12_readTurner_97 (by intros; omega) ?_
          intro v859 h860
          refine q_callVi hE (M' := mX12_readPart) (as := [_, _, _]) dX12_readTurner_98 lk12_249 inX12_readPart seX12_readPart myX12_readPart (by decide) ⟨by decide, by decide⟩ rfl (kR15 hS63.1 ta0) (Nat.le_of_ble_eq_true rfl) rfl rfl (by decide) (by decide) (k_X12_readPart hS63.1 ta0 (by decide)) ?_
          rintro v865 cn' K' N' I861 R862 L863 ⟨rfl, rfl, rfl, rfl, g864, p866, w867, -⟩
          have hS868 := hS63.tr g864 (by decide +kernel) (by decide +kernel)
          have c869 : I861 a1 4 = v3 := (g864.cell ta1 (by decide +kernel)).trans c64
          have w870 : RdI a0 I0 I861 := w65.rd w867
          have gd871 := Gd.go gd66 w867.stick
          have b872 : 0 ≤ v865.toInt ∧ v865.toInt ≤ 239 := by omega
          clear p866
          refine tr_istore dX12_readTurner_101 (by decide) (by decide) ?_
          refine tr_aload_n dX12_readTurner_103 rfl ?_
          refine tr_ldcwS dX12_readTurner_104 ld12_272 ?_
          refine tr_iload dX12_readTurner_107 rfl ?_
          refine q_iconst dX12_readTurner_109 (by decide) ?_
          intro v873 h874
          refine q_iaddE dX12_readTurner_110 (by intros; omega) ?_
          intro v875 h876
          refine tr_aload_n dX12_readTurner_111 rfl ?_
          refine tr_getR dX12_readTurner_112 fl12_188 (kR15 hS868.1 ta0) d2 ?_
          refine q_getI dX12_readTurner_115 fl12_192 (kR14 hS868.1 ta1) ((hS868.cell ta1 (by decide +kernel)).trans c855) ?_
          refine q_callVi hE (M' := mX12_readPart) (as := [_, _, _]) dX12_readTurner_118 lk12_249 inX12_readPart seX12_readPart myX12_readPart (by decide) ⟨by decide, by decide⟩ rfl (kR15 hS868.1 ta0) (Nat.le_of_ble_eq_true rfl) rfl rfl (by decide) (by decide) (k_X12_readPart hS868.1 ta0 (by decide)) ?_
          rintro v881 cn' K' N' I877 R878 L879 ⟨rfl, rfl, rfl, rfl, g880, p882, w883, -⟩
          have hS884 := hS868.tr g880 (by decide +kernel) (by decide +kernel)
          have c885 : I877 a1 4 = v3 := (g880.cell ta1 (by decide +kernel)).trans c869
          have w886 : RdI a0 I0 I877 := w870.rd w883
          have gd887 := Gd.go gd871 w883.stick
          have b888 : 1 ≤ v881.toInt ∧ v881.toInt ≤ 240 := by omega
          clear p882
          refine tr_istore dX12_readTurner_121 (by decide) (by decide) ?_
          refine tr_aload_n dX12_readTurner_123 rfl ?_
          refine tr_ldcwS dX12_readTurner_124 ld12_325 ?_
          refine q_iconst dX12_readTurner_127 (by decide) ?_
          intro v889 h890
          refine q_bipush dX12_readTurner_128 (by decide +kernel) ?_
          intro v891 h892
          refine q_callVi hE (M' := mX12_readPart) (as := [_, _, _]) dX12_readTurner_130 lk12_249 inX12_readPart seX12_readPart myX12_readPart (by decide) ⟨by decide, by decide⟩ rfl (kR15 hS884.1 ta0) (Nat.le_of_ble_eq_true rfl) rfl rfl (by decide) (by decide) (k_X12_readPart hS884.1 ta0 (by decide)) ?_
          rintro v897 cn' K' N' I893 R894 L895 ⟨rfl, rfl, rfl, rfl, g896, p898, w899, -⟩
          have hS900 := hS884.tr g896 (by decide +kernel) (by decide +kernel)
          have c901 : I893 a1 4 = v3 := (g896.cell ta1 (by decide +kernel)).trans c885
          have w902 : RdI a0 I0 I893 := w886.rd w899
          have gd903 := Gd.go gd887 w899.stick
          have b904 : 1 ≤ v897.toInt ∧ v897.toInt ≤ 8 := by omega
          clear p898
          refine tr_istore dX12_readTurner_133 (by decide) (by decide) ?_
          refine tr_aload_n dX12_readTurner_135 rfl ?_
          refine tr_ldcwS dX12_readTurner_136 ld12_327 ?_
          refine q_iconst dX12_readTurner_139 (by decide) ?_
          intro v905 h906
          refine q_bipush dX12_readTurner_140 (by decide +kernel) ?_
          intro v907 h908
          refine q_callVi hE (M' := mX12_readPart) (as := [_, _, _]) dX12_readTurner_142 lk12_249 inX12_readPart seX12_readPart myX12_readPart (by decide) ⟨by decide, by decide⟩ rfl (kR15 hS900.1 ta0) (Nat.le_of_ble_eq_true rfl) rfl rfl (by decide) (by decide) (k_X12_readPart hS900.1 ta0 (by decide)) ?_
          rintro v913 cn' K' N' I909 R910 L911 ⟨rfl, rfl, rfl, rfl, g912, p914, w915, -⟩
          have hS916 := hS900.tr g912 (by decide +kernel) (by decide +kernel)
          have c917 : I909 a1 4 = v3 := (g912.cell ta1 (by decide +kernel)).trans c901
          have w918 : RdI a0 I0 I909 := w902.rd w915
          have gd919 := Gd.go gd903 w915.stick
          have b920 : 1 ≤ v913.toInt ∧ v913.toInt ≤ 20 := by omega
          clear p914
          refine tr_istore dX12_readTurner_145 (by decide) (by decide) ?_
          refine tr_aload_n dX12_readTurner_147 rfl ?_
          refine tr_ldcS dX12_readTurner_148 ld12_253 ?_
          refine q_callVv hE (M' := mX12_needs) (as := [_]) dX12_readTurner_150 lk12_157 inX12_needs seX12_needs myX12_needs (by decide) ⟨by decide, by decide⟩ rfl (kR15 hS916.1 ta0) (Nat.le_of_ble_eq_true rfl) rfl rfl (by decide) (by decide) (k_X12_needs hS916.1 ta0 (by decide)) ?_
          rintro cn' K' N' I921 R922 L923 ⟨rfl, rfl, rfl, rfl, g924, w926, -⟩
          have hS927 := hS916.tr g924 (by decide +kernel) (by decide +kernel)
          have c928 : I921 a1 4 = v3 := (g924.cell ta1 (by decide +kernel)).trans c917
          have w929 : RdI a0 I0 I921 := w918.rd w926
          have gd930 := Gd.go gd919 w926.stick
          refine q_iconst dX12_readTurner_153 (by decide) ?_
          intro v931 h932
          refine tr_istore dX12_readTurner_154 (by decide) (by decide) ?_
          refine q_iconst dX12_readTurner_156 (by decide) ?_
          intro v933 h934
          refine tr_istore dX12_readTurner_157 (by decide) (by decide) ?_
          obtain ⟨v952, c953⟩ : ∃ v, I921 a0 8 = v := ⟨_, rfl⟩
          have b954 := iv15_8 hS927.1 ta0 c953
          have lp957 : ∀ (fu : Nat) (ls : Nat → Option Value) (v935 : Int32) (v936 : Int32) (I946 : cz_I) (L947 : cz_L) (v949 : Int32), ls 0 = some (.ref a0) → ls 1 = some (.long y26) → ls 3 = some (.int v847) → ls 4 = some (.int v865) → ls 5 = some (.int v881) → ls 6 = some (.int v897) → ls 7 = some (.int v913) → ls 8 = some (.int v935) → ls 9 = some (.int v936) → St T cn K N 0 wi_X12_readTurner wr_X12_readTurner I0 R0 I946 R0 → I946 a0 8 = v949 → RdI a0 I0 I946 → 0 ≤ v936.toInt → v936.toInt ≤ 1 → (-v949.toInt + v936.toInt + 900).toNat < fu → Tr X mX12_readTurner 159 ls [] cn K N I946 R0 L947 0 0 := by
            intro fu
            induction fu with
            | zero => intros; rename_i hz; exact absurd hz (Nat.not_lt_zero _)
            | succ fu ih957 =>
              intro ls v935 v936 I946 L947 v949 hl937 hl938 hl939 hl940 hl941 hl942 hl943 hl944 hl945 hS948 c950 w951 g955 g956 hm957
              have b959 := iv15_8 hS948.1 ta0 c950
              refine tr_iload dX12_readTurner_159 hl945 ?_
              refine q_if_eq 227 dX12_readTurner_161 (by decide) (fun h960 => ?_) (fun h960 => ?_)
              · skip
                refine tr_aload_n dX12_readTurner_227 hl937 ?_
                obtain ⟨v961, c962⟩ : ∃ v, I946 a0 9 = v := ⟨_, rfl⟩
                have b963 := iv15_9 hS948.1 ta0 c962
                refine q_getI dX12_readTurner_228 fl12_99 (kR15 hS948.1 ta0) c962 ?_
                refine q_iconst dX12_readTurner_231 (by decide) ?_
                intro v964 h965
                refine q_icmp_ne 236 dX12_readTurner_232 (by decide) (fun h966 => ?_) (fun h966 => ?_)
                · skip
                  refine tr_aload_n dX12_readTurner_236 hl937 ?_
                  refine tr_getR dX12_readTurner_237 fl12_188 (kR15 hS948.1 ta0) d2 ?_
                  obtain ⟨v967, c968⟩ : ∃ v, I946 a1 4 = v := ⟨_, rfl⟩
                  have b969 := iv14_4 hS948.1 ta1 c968
                  refine q_getI dX12_readTurner_240 fl12_315 (kR14 hS948.1 ta1) c968 ?_
                  refine tr_istore dX12_readTurner_243 (by decide) (by decide) ?_
                  refine tr_aload_n dX12_readTurner_245 hl937 ?_
                  refine tr_lload_n dX12_readTurner_246 hl938 ?_
                  refine q_iconst dX12_readTurner_247 (by decide) ?_
                  intro v970 h971
                  refine tr_iload dX12_readTurner_248 rfl ?_
                  obtain ⟨v973, c974⟩ : ∃ v, I946 a1 7 = v := ⟨_, rfl⟩
                  have b975 := iv14_7 hS948.1 ta1 c974
                  obtain ⟨v976, c977⟩ : ∃ v, I0 a1 3 = v := ⟨_, rfl⟩
                  have b978 := iv14_3 hW0 ta1 c977
                  have p972 := hS948.1.2.2.2.2.1 a0 ta0 _ d2
                  rw [c974, ((hS948.cell ta1 (by decide +kernel)).trans c977), c968] at p972
                  refine q_callVv hE (M' := mX12_names) (as := [_, _, _]) dX12_readTurner_250 lk12_293 inX12_names seX12_names myX12_names (by decide) ⟨by decide, by decide⟩ rfl (kR15 hS948.1 ta0) (Nat.le_of_ble_eq_true rfl) rfl rfl (by decide) (by decide) (k_X12_names hS948.1 ta0 (fun q0 z0 => by obtain rfl := Option.some.inj ((d2).symm.trans z0); (try rw [c974]); (try omega)) ⟨_, d2⟩) ?_
                  rintro cn' K' N' I979 R980 L981 ⟨rfl, rfl, rfl, rfl, g982, -⟩
                  have hS984 := hS948.tr g982 (by decide +kernel) (by decide +kernel)
                  have c985 : I979 a0 8 = v949 := (g982.cell ta0 (by decide +kernel)).trans c950
                  have c986 : I979 a0 9 = v961 := (g982.cell ta0 (by decide +kernel)).trans c962
                  have c987 : I979 a1 4 = v967 := (g982.cell ta1 (by decide +kernel)).trans c968
                  have w988 : RdI a0 I0 I979 := w951.keep (g982.cell ta0 (by decide +kernel)) (g982.cell ta0 (by decide +kernel)) (g982.cell ta0 (by decide +kernel))
                  have w989 : EwI a0 I946 I979 := (EwI.rf a0 I946).keep (g982.cell ta0 (by decide +kernel)) (g982.cell ta0 (by decide +kernel)) (g982.cell ta0 (by decide +kernel))
                  refine tr_aload_n dX12_readTurner_253 hl937 ?_
                  refine tr_getR dX12_readTurner_254 fl12_188 (kR15 hS984.1 ta0) d2 ?_
                  obtain ⟨a990, d991, ta990⟩ := rf14_20 hW0 ta1
                  refine tr_getR dX12_readTurner_257 fl12_333 (kR14 hS984.1 ta1) d991 ?_
                  refine tr_iload dX12_readTurner_260 rfl ?_
                  refine tr_iload_n dX12_readTurner_262 hl939 ?_
                  refine q_iast dX12_readTurner_263 (kR63 hS984.1 ta990) (ti_in (nR63 hS984.1 ta990) (by omega) (by omega)) hS984 ta990 (iokF rfl) rfl (by rfl) ?_
                  intro I992 hS993 e995 f994
                  have c996 : I992 a0 8 = v949 := (f994 _ _ (fun q => by have z := ta0; rw [q.1, ta990] at z; exact absurd z (by decide))).trans c985
                  have c997 : I992 a0 9 = v961 := (f994 _ _ (fun q => by have z := ta0; rw [q.1, ta990] at z; exact absurd z (by decide))).trans c986
                  have c998 : I992 a1 4 = v967 := (f994 _ _ (fun q => by have z := ta1; rw [q.1, ta990] at z; exact absurd z (by decide))).trans c987
                  have w999 : RdI a0 I0 I992 := w988.keep (f994 _ _ (fun q => by have z := ta0; rw [q.1, ta990] at z; exact absurd z (by decide))) (f994 _ _ (fun q => by have z := ta0; rw [q.1, ta990] at z; exact absurd z (by decide))) (f994 _ _ (fun q => by have z := ta0; rw [q.1, ta990] at z; exact absurd z (by decide)))
                  have w1000 : EwI a0 I946 I992 := w989.keep (f994 _ _ (fun q => by have z := ta0; rw [q.1, ta990] at z; exact absurd z (by decide))) (f994 _ _ (fun q => by have z := ta0; rw [q.1, ta990] at z; exact absurd z (by decide))) (f994 _ _ (fun q => by have z := ta0; rw [q.1, ta990] at z; exact absurd z (by decide)))
                  refine tr_aload_n dX12_readTurner_264 hl937 ?_
                  refine tr_getR dX12_readTurner_265 fl12_188 (kR15 hS993.1 ta0) d2 ?_
                  obtain ⟨a1001, d1002, ta1001⟩ := rf14_21 hW0 ta1
                  refine tr_getR dX12_readTurner_268 fl12_336 (kR14 hS993.1 ta1) d1002 ?_
                  refine tr_iload dX12_readTurner_271 rfl ?_
                  refine tr_iload dX12_readTurner_273 hl940 ?_
                  refine q_iast dX12_readTurner_275 (kR64 hS993.1 ta1001) (ti_in (nR64 hS993.1 ta1001) (by omega) (by omega)) hS993 ta1001 (iokF rfl) rfl (by rfl) ?_
                  intro I1003 hS1004 e1006 f1005
                  have c1007 : I1003 a0 8 = v949 := (f1005 _ _ (fun q => by have z := ta0; rw [q.1, ta1001] at z; exact absurd z (by decide))).trans c996
                  have c1008 : I1003 a0 9 = v961 := (f1005 _ _ (fun q => by have z := ta0; rw [q.1, ta1001] at z; exact absurd z (by decide))).trans c997
                  have c1009 : I1003 a1 4 = v967 := (f1005 _ _ (fun q => by have z := ta1; rw [q.1, ta1001] at z; exact absurd z (by decide))).trans c998
                  have w1010 : RdI a0 I0 I1003 := w999.keep (f1005 _ _ (fun q => by have z := ta0; rw [q.1, ta1001] at z; exact absurd z (by decide))) (f1005 _ _ (fun q => by have z := ta0; rw [q.1, ta1001] at z; exact absurd z (by decide))) (f1005 _ _ (fun q => by have z := ta0; rw [q.1, ta1001] at z; exact absurd z (by decide)))
                  have w1011 : EwI a0 I946 I1003 := w1000.keep (f1005 _ _ (fun q => by have z := ta0; rw [q.1, ta1001] at z; exact absurd z (by decide))) (f1005 _ _ (fun q => by have z := ta0; rw [q.1, ta1001] at z; exact absurd z (by decide))) (f1005 _ _ (fun q => by have z := ta0; rw [q.1, ta1001] at z; exact absurd z (by decide)))
                  refine tr_aload_n dX12_readTurner_276 hl937 ?_
                  refine tr_getR dX12_readTurner_277 fl12_188 (kR15 hS1004.1 ta0) d2 ?_
                  obtain ⟨a1012, d1013, ta1012⟩ := rf14_22 hW0 ta1
                  refine tr_getR dX12_readTurner_280 fl12_339 (kR14 hS1004.1 ta1) d1013 ?_
                  refine tr_iload dX12_readTurner_283 rfl ?_
                  refine tr_iload dX12_readTurner_285 hl941 ?_
                  refine q_iast dX12_readTurner_287 (kR65 hS1004.1 ta1012) (ti_in (nR65 hS1004.1 ta1012) (by omega) (by omega)) hS1004 ta1012 (iokF rfl) rfl (by rfl) ?_
                  intro I1014 hS1015 e1017 f1016
                  have c1018 : I1014 a0 8 = v949 := (f1016 _ _ (fun q => by have z := ta0; rw [q.1, ta1012] at z; exact absurd z (by decide))).trans c1007
                  have c1019 : I1014 a0 9 = v961 := (f1016 _ _ (fun q => by have z := ta0; rw [q.1, ta1012] at z; exact absurd z (by decide))).trans c1008
                  have c1020 : I1014 a1 4 = v967 := (f1016 _ _ (fun q => by have z := ta1; rw [q.1, ta1012] at z; exact absurd z (by decide))).trans c1009
                  have w1021 : RdI a0 I0 I1014 := w1010.keep (f1016 _ _ (fun q => by have z := ta0; rw [q.1, ta1012] at z; exact absurd z (by decide))) (f1016 _ _ (fun q => by have z := ta0; rw [q.1, ta1012] at z; exact absurd z (by decide))) (f1016 _ _ (fun q => by have z := ta0; rw [q.1, ta1012] at z; exact absurd z (by decide)))
                  have w1022 : EwI a0 I946 I1014 := w1011.keep (f1016 _ _ (fun q => by have z := ta0; rw [q.1, ta1012] at z; exact absurd z (by decide))) (f1016 _ _ (fun q => by have z := ta0; rw [q.1, ta1012] at z; exact absurd z (by decide))) (f1016 _ _ (fun q => by have z := ta0; rw [q.1, ta1012] at z; exact absurd z (by decide)))
                  refine tr_aload_n dX12_readTurner_288 hl937 ?_
                  refine tr_getR dX12_readTurner_289 fl12_188 (kR15 hS1015.1 ta0) d2 ?_
                  obtain ⟨a1023, d1024, ta1023⟩ := rf14_23 hW0 ta1
                  refine tr_getR dX12_readTurner_292 fl12_342 (kR14 hS1015.1 ta1) d1024 ?_
                  refine tr_iload dX12_readTurner_295 rfl ?_
                  refine tr_iload dX12_readTurner_297 hl942 ?_
                  refine q_iast dX12_readTurner_299 (kR66 hS1015.1 ta1023) (ti_in (nR66 hS1015.1 ta1023) (by omega) (by omega)) hS1015 ta1023 (iokF rfl) rfl (by rfl) ?_
                  intro I1025 hS1026 e1028 f1027
                  have c1029 : I1025 a0 8 = v949 := (f1027 _ _ (fun q => by have z := ta0; rw [q.1, ta1023] at z; exact absurd z (by decide))).trans c1018
                  have c1030 : I1025 a0 9 = v961 := (f1027 _ _ (fun q => by have z := ta0; rw [q.1, ta1023] at z; exact absurd z (by decide))).trans c1019
                  have c1031 : I1025 a1 4 = v967 := (f1027 _ _ (fun q => by have z := ta1; rw [q.1, ta1023] at z; exact absurd z (by decide))).trans c1020
                  have w1032 : RdI a0 I0 I1025 := w1021.keep (f1027 _ _ (fun q => by have z := ta0; rw [q.1, ta1023] at z; exact absurd z (by decide))) (f1027 _ _ (fun q => by have z := ta0; rw [q.1, ta1023] at z; exact absurd z (by decide))) (f1027 _ _ (fun q => by have z := ta0; rw [q.1, ta1023] at z; exact absurd z (by decide)))
                  have w1033 : EwI a0 I946 I1025 := w1022.keep (f1027 _ _ (fun q => by have z := ta0; rw [q.1, ta1023] at z; exact absurd z (by decide))) (f1027 _ _ (fun q => by have z := ta0; rw [q.1, ta1023] at z; exact absurd z (by decide))) (f1027 _ _ (fun q => by have z := ta0; rw [q.1, ta1023] at z; exact absurd z (by decide)))
                  refine tr_aload_n dX12_readTurner_300 hl937 ?_
                  refine tr_getR dX12_readTurner_301 fl12_188 (kR15 hS1026.1 ta0) d2 ?_
                  obtain ⟨a1034, d1035, ta1034⟩ := rf14_24 hW0 ta1
                  refine tr_getR dX12_readTurner_304 fl12_344 (kR14 hS1026.1 ta1) d1035 ?_
                  refine tr_iload dX12_readTurner_307 rfl ?_
                  refine tr_iload dX12_readTurner_309 hl943 ?_
                  refine q_iast dX12_readTurner_311 (kR67 hS1026.1 ta1034) (ti_in (nR67 hS1026.1 ta1034) (by omega) (by omega)) hS1026 ta1034 (iokF rfl) rfl (by rfl) ?_
                  intro I1036 hS1037 e1039 f1038
                  have c1040 : I1036 a0 8 = v949 := (f1038 _ _ (fun q => by have z := ta0; rw [q.1, ta1034] at z; exact absurd z (by decide))).trans c1029
                  have c1041 : I1036 a0 9 = v961 := (f1038 _ _ (fun q => by have z := ta0; rw [q.1, ta1034] at z; exact absurd z (by decide))).trans c1030
                  have c1042 : I1036 a1 4 = v967 := (f1038 _ _ (fun q => by have z := ta1; rw [q.1, ta1034] at z; exact absurd z (by decide))).trans c1031
                  have w1043 : RdI a0 I0 I1036 := w1032.keep (f1038 _ _ (fun q => by have z := ta0; rw [q.1, ta1034] at z; exact absurd z (by decide))) (f1038 _ _ (fun q => by have z := ta0; rw [q.1, ta1034] at z; exact absurd z (by decide))) (f1038 _ _ (fun q => by have z := ta0; rw [q.1, ta1034] at z; exact absurd z (by decide)))
                  have w1044 : EwI a0 I946 I1036 := w1033.keep (f1038 _ _ (fun q => by have z := ta0; rw [q.1, ta1034] at z; exact absurd z (by decide))) (f1038 _ _ (fun q => by have z := ta0; rw [q.1, ta1034] at z; exact absurd z (by decide))) (f1038 _ _ (fun q => by have z := ta0; rw [q.1, ta1034] at z; exact absurd z (by decide)))
                  refine tr_aload_n dX12_readTurner_312 hl937 ?_
                  refine tr_getR dX12_readTurner_313 fl12_188 (kR15 hS1037.1 ta0) d2 ?_
                  obtain ⟨a1045, d1046, ta1045⟩ := rf14_25 hW0 ta1
                  refine tr_getR dX12_readTurner_316 fl12_346 (kR14 hS1037.1 ta1) d1046 ?_
                  refine tr_iload dX12_readTurner_319 rfl ?_
                  refine tr_iload dX12_readTurner_321 hl944 ?_
                  refine q_iast dX12_readTurner_323 (kR68 hS1037.1 ta1045) (ti_in (nR68 hS1037.1 ta1045) (by omega) (by omega)) hS1037 ta1045 (iokF rfl) rfl (by rfl) ?_
                  intro I1047 hS1048 e1050 f1049
                  have c1051 : I1047 a0 8 = v949 := (f1049 _ _ (fun q => by have z := ta0; rw [q.1, ta1045] at z; exact absurd z (by decide))).trans c1040
                  have c1052 : I1047 a0 9 = v961 := (f1049 _ _ (fun q => by have z := ta0; rw [q.1, ta1045] at z; exact absurd z (by decide))).trans c1041
                  have c1053 : I1047 a1 4 = v967 := (f1049 _ _ (fun q => by have z := ta1; rw [q.1, ta1045] at z; exact absurd z (by decide))).trans c1042
                  have w1054 : RdI a0 I0 I1047 := w1043.keep (f1049 _ _ (fun q => by have z := ta0; rw [q.1, ta1045] at z; exact absurd z (by decide))) (f1049 _ _ (fun q => by have z := ta0; rw [q.1, ta1045] at z; exact absurd z (by decide))) (f1049 _ _ (fun q => by have z := ta0; rw [q.1, ta1045] at z; exact absurd z (by decide)))
                  have w1055 : EwI a0 I946 I1047 := w1044.keep (f1049 _ _ (fun q => by have z := ta0; rw [q.1, ta1045] at z; exact absurd z (by decide))) (f1049 _ _ (fun q => by have z := ta0; rw [q.1, ta1045] at z; exact absurd z (by decide))) (f1049 _ _ (fun q => by have z := ta0; rw [q.1, ta1045] at z; exact absurd z (by decide)))
                  refine tr_aload_n dX12_readTurner_324 hl937 ?_
                  refine tr_getR dX12_readTurner_325 fl12_188 (kR15 hS1048.1 ta0) d2 ?_
                  refine tr_dup dX12_readTurner_328 rfl ?_
                  refine q_getI dX12_readTurner_329 fl12_315 (kR14 hS1048.1 ta1) c1053 ?_
                  refine q_iconst dX12_readTurner_332 (by decide) ?_
                  intro v1056 h1057
                  refine q_iaddE dX12_readTurner_333 (by intros; omega) ?_
                  intro v1058 h1059
                  refine q_putX dX12_readTurner_334 fl12_315 (kR14 hS1048.1 ta1) (Or.inl rfl) hS1048 ta1 (by decide +kernel) (hS1048.1.putN (d' := 0) ta0 d2 (Or.inr (Or.inr rfl)) (by rw [c1053]; omega) (by decide) (by show (0 : Int) ≤ v1058.toInt ∧ v1058.toInt ≤ (5 : Int); omega)) ?_
                  intro I1060 hS1061 e1062 f1063
                  have c1064 : I1060 a0 8 = v949 := (f1063 _ _ (fun q => absurd q.2 (by decide))).trans c1051
                  have c1065 : I1060 a0 9 = v961 := (f1063 _ _ (fun q => absurd q.2 (by decide))).trans c1052
                  have w1066 : RdI a0 I0 I1060 := w1054.keep (f1063 _ _ (fun q => absurd q.2 (by decide))) (f1063 _ _ (fun q => absurd q.2 (by decide))) (f1063 _ _ (fun q => absurd q.2 (by decide)))
                  have w1067 : EwI a0 I946 I1060 := w1055.keep (f1063 _ _ (fun q => absurd q.2 (by decide))) (f1063 _ _ (fun q => absurd q.2 (by decide))) (f1063 _ _ (fun q => absurd q.2 (by decide)))
                  exact tr_vret hZ dX12_readTurner_337 rfl (by decide) (by decide) ⟨rfl, rfl, rfl, rfl, rfl, hS1061, w1066, trivial⟩
                · skip
                  exact tr_vret hZ dX12_readTurner_235 rfl (by decide) (by decide) ⟨rfl, rfl, rfl, rfl, rfl, hS948, w951, trivial⟩
              · skip
                refine tr_aload_n dX12_readTurner_164 hl937 ?_
                obtain ⟨v1068, c1069⟩ : ∃ v, I946 a0 9 = v := ⟨_, rfl⟩
                have b1070 := iv15_9 hS948.1 ta0 c1069
                refine q_getI dX12_readTurner_165 fl12_99 (kR15 hS948.1 ta0) c1069 ?_
                refine q_iconst dX12_readTurner_168 (by decide) ?_
                intro v1071 h1072
                refine q_icmp_eq 227 dX12_readTurner_169 (by decide) (fun h1073 => ?_) (fun h1073 => ?_)
                · skip
                  refine tr_aload_n dX12_readTurner_227 hl937 ?_
                  refine q_getI dX12_readTurner_228 fl12_99 (kR15 hS948.1 ta0) c1069 ?_
                  refine q_iconst dX12_readTurner_231 (by decide) ?_
                  intro v1074 h1075
                  refine q_icmp_ne 236 dX12_readTurner_232 (by decide) (fun h1076 => ?_) (fun h1076 => ?_)
                  · skip
                    exfalso; omega
                  · skip
                    exact tr_vret hZ dX12_readTurner_235 rfl (by decide) (by decide) ⟨rfl, rfl, rfl, rfl, rfl, hS948, w951, trivial⟩
                · skip
                  refine tr_aload_n dX12_readTurner_172 hl937 ?_
                  refine q_iconst dX12_readTurner_173 (by decide) ?_
                  intro v1077 h1078
                  refine tr_aload_n dX12_readTurner_174 hl937 ?_
                  refine tr_getR dX12_readTurner_175 fl12_188 (kR15 hS948.1 ta0) d2 ?_
                  obtain ⟨v1079, c1080⟩ : ∃ v, I0 a1 1 = v := ⟨_, rfl⟩
                  have b1081 := iv14_1 hW0 ta1 c1080
                  refine q_getI dX12_readTurner_178 fl12_263 (kR14 hS948.1 ta1) ((hS948.cell ta1 (by decide +kernel)).trans c1080) ?_
                  refine q_iconst dX12_readTurner_181 (by decide) ?_
                  intro v1082 h1083
                  refine q_isubE dX12_readTurner_182 (by intros; omega) ?_
                  intro v1084 h1085
                  refine q_callVi hE (M' := mX12_bounded) (as := [_, _]) dX12_readTurner_183 lk12_153 inX12_bounded seX12_bounded myX12_bounded (by decide) ⟨by decide, by decide⟩ rfl (kR15 hS948.1 ta0) (Nat.le_of_ble_eq_true rfl) rfl rfl (by decide) (by decide) (k_X12_bounded hS948.1 ta0) ?_
                  rintro v1090 cn' K' N' I1086 R1087 L1088 ⟨rfl, rfl, rfl, rfl, rfl, g1089, p1091, p1092, w1093, -⟩
                  have hS1094 := hS948.tr g1089 (by decide +kernel) (by decide +kernel)
                  have c1095 : I1086 a0 8 = v949 := (g1089.cell ta0 (by decide +kernel)).trans c950
                  have w1096 : RdI a0 I0 I1086 := w951.ew w1093
                  have w1097 : EwI a0 I946 I1086 := (EwI.rf a0 I946).ew w1093
                  have b1098 : 0 ≤ v1090.toInt ∧ v1090.toInt ≤ 3 := by omega
                  clear p1091
                  obtain ⟨v1099, c1100⟩ : ∃ v, I1086 a0 9 = v := ⟨_, rfl⟩
                  have b1101 := iv15_9 hS1094.1 ta0 c1100
                  have gd1102 : Gd (I1086 a0 9) ((v1077.toInt ≤ v1090.toInt ∧ v1090.toInt ≤ v1084.toInt)) := p1092
                  clear p1092
                  refine tr_istore dX12_readTurner_186 (by decide) (by decide) ?_
                  refine tr_iload dX12_readTurner_188 hl944 ?_
                  refine tr_iload dX12_readTurner_190 rfl ?_
                  refine q_callSi hE (M' := mX12_has) (as := [_, _]) dX12_readTurner_192 lk12_329 inX12_has myX12_has ⟨by decide, by decide⟩ rfl (Nat.le_of_ble_eq_true rfl) rfl rfl (by decide) (by decide) (k_X12_has hS1094.1 ) ?_
                  rintro v1107 cn' K' N' I1103 R1104 L1105 ⟨rfl, rfl, rfl, rfl, rfl, rfl, h1108, -⟩
                  refine q_if_eq 203 dX12_readTurner_195 (by decide) (fun h1109 => ?_) (fun h1109 => ?_)
                  · skip
                    refine tr_aload_n dX12_readTurner_203 hl937 ?_
                    obtain ⟨v1110, c1111⟩ : ∃ v, I1086 a0 13 = v := ⟨_, rfl⟩
                    refine q_callVv hE (M' := mX12_goesOn) (as := []) dX12_readTurner_204 lk12_142 inX12_goesOn seX12_goesOn myX12_goesOn (by decide) ⟨by decide, by decide⟩ rfl (kR15 hS1094.1 ta0) (Nat.le_of_ble_eq_true rfl) rfl rfl (by decide) (by decide) (k_X12_goesOn hS1094.1 ta0) ?_
                    rintro cn' K' N' I1112 R1113 L1114 ⟨rfl, rfl, rfl, rfl, g1115, p1117, p1118, w1119, -⟩
                    have hS1120 := hS1094.tr g1115 (by decide +kernel) (by decide +kernel)
                    have c1121 : I1112 a0 13 = v1110 := (g1115.cell ta0 (by decide +kernel)).trans c1111
                    have w1122 : RdI a0 I0 I1112 := w1096.rd w1119
                    have w1123 : RdI a0 I946 I1112 := w1097.rd w1119
                    have gd1124 := Gd.go gd1102 w1119.stick
                    obtain ⟨v1125, c1126⟩ : ∃ v, I1112 a0 9 = v := ⟨_, rfl⟩
                    have b1127 := iv15_9 hS1120.1 ta0 c1126
                    rw [c1100] at p1117
                    rw [c1126] at p1117
                    obtain ⟨v1128, c1129⟩ : ∃ v, I1112 a0 8 = v := ⟨_, rfl⟩
                    have b1130 := iv15_8 hS1120.1 ta0 c1129
                    rw [c1129] at p1118
                    rw [c1095] at p1118
                    rw [c1121] at p1118
                    rw [c1111] at p1118
                    refine tr_iload dX12_readTurner_207 hl944 ?_
                    refine q_iconst dX12_readTurner_209 (by decide) ?_
                    intro v1131 h1132
                    refine tr_iload dX12_readTurner_210 rfl ?_
                    refine q_ishlE dX12_readTurner_212 (by omega) (by omega) ?_
                    intro v1133 h1134
                    refine q_ior dX12_readTurner_213 ?_
                    intro v1135
                    refine tr_istore dX12_readTurner_214 (by decide) (by decide) ?_
                    refine tr_aload_n dX12_readTurner_216 hl937 ?_
                    refine q_bipush dX12_readTurner_217 (by decide +kernel) ?_
                    intro v1136 h1137
                    have z1138 := w1123.2.2.1
                    (try rw [c950] at z1138)
                    (try rw [c1129] at z1138)
                    (try rw [c1126] at z1138)
                    refine q_callVi hE (M' := mX12_eatsSign) (as := [_]) dX12_readTurner_219 lk12_221 inX12_eatsSign seX12_eatsSign myX12_eatsSign (by decide) ⟨by decide, by decide⟩ rfl (kR15 hS1120.1 ta0) (Nat.le_of_ble_eq_true rfl) rfl rfl (by decide) (by decide) (k_X12_eatsSign hS1120.1 ta0) ?_
                    rintro v1143 cn' K' N' I1139 R1140 L1141 ⟨rfl, rfl, rfl, rfl, g1142, h1144, p1145, p1146, w1147, -⟩
                    have hS1148 := hS1120.tr g1142 (by decide +kernel) (by decide +kernel)
                    have c1149 : I1139 a0 13 = v1110 := (g1142.cell ta0 (by decide +kernel)).trans c1121
                    have w1150 : RdI a0 I0 I1139 := w1122.ew w1147
                    have w1151 : RdI a0 I946 I1139 := w1123.ew w1147
                    have gd1152 := Gd.go gd1124 w1147.stick
                    rw [c1126] at p1145
                    obtain ⟨v1153, c1154⟩ : ∃ v, I1139 a0 8 = v := ⟨_, rfl⟩
                    have b1155 := iv15_8 hS1148.1 ta0 c1154
                    rw [c1154] at p1146
                    rw [c1129] at p1146
                    refine tr_istore dX12_readTurner_222 (by decide) (by decide) ?_
                    refine tr_goto 159 dX12_readTurner_224 (by decide) ?_
                    exact ih957 _ v1135 v1143 I1139 L1141 v1153 hl937 hl938 hl939 hl940 hl941 hl942 hl943 rfl rfl hS1148 c1154 w1150 (by omega) (by omega) (by omega)
                  · skip
                    refine tr_aload_n dX12_readTurner_198 hl937 ?_
                    refine q_iconst dX12_readTurner_199 (by decide) ?_
                    intro v1156 h1157
                    refine q_callVv hE (M' := mX12_flaw) (as := [_]) dX12_readTurner_200 lk12_145 inX12_flaw seX12_flaw myX12_flaw (by decide) ⟨by decide, by decide⟩ rfl (kR15 hS1094.1 ta0) (Nat.le_of_ble_eq_true rfl) rfl rfl (by decide) (by decide) (k_X12_flaw hS1094.1 ta0 (by omega)) ?_
                    rintro cn' K' N' I1158 R1159 L1160 ⟨rfl, rfl, rfl, rfl, rfl, g1161, p1163, p1164, w1165, -⟩
                    have hS1166 := hS1094.tr g1161 (by decide +kernel) (by decide +kernel)
                    have c1167 : I1158 a0 8 = v949 := (g1161.cell ta0 (by decide +kernel)).trans c1095
                    have w1168 : RdI a0 I0 I1158 := w1096.rd w1165
                    have w1169 : RdI a0 I946 I1158 := w1097.rd w1165
                    have gd1170 := Gd.go gd1102 w1165.stick
                    obtain ⟨v1171, c1172⟩ : ∃ v, I1158 a0 9 = v := ⟨_, rfl⟩
                    have b1173 := iv15_9 hS1166.1 ta0 c1172
                    rw [c1172] at p1163
                    rw [c1167] at p1164
                    rw [c1095] at p1164
                    refine tr_aload_n dX12_readTurner_203 hl937 ?_
                    obtain ⟨v1174, c1175⟩ : ∃ v, I1158 a0 13 = v := ⟨_, rfl⟩
                    refine q_callVv hE (M' := mX12_goesOn) (as := []) dX12_readTurner_204 lk12_142 inX12_goesOn seX12_goesOn myX12_goesOn (by decide) ⟨by decide, by decide⟩ rfl (kR15 hS1166.1 ta0) (Nat.le_of_ble_eq_true rfl) rfl rfl (by decide) (by decide) (k_X12_goesOn hS1166.1 ta0) ?_
                    rintro cn' K' N' I1176 R1177 L1178 ⟨rfl, rfl, rfl, rfl, g1179, p1181, p1182, w1183, -⟩
                    have hS1184 := hS1166.tr g1179 (by decide +kernel) (by decide +kernel)
                    have c1185 : I1176 a0 13 = v1174 := (g1179.cell ta0 (by decide +kernel)).trans c1175
                    have w1186 : RdI a0 I0 I1176 := w1168.rd w1183
                    have w1187 : RdI a0 I946 I1176 := w1169.rd w1183
                    have gd1188 := Gd.go gd1170 w1183.stick
                    obtain ⟨v1189, c1190⟩ : ∃ v, I1176 a0 9 = v := ⟨_, rfl⟩
                    have b1191 := iv15_9 hS1184.1 ta0 c1190
                    rw [c1172] at p1181
                    rw [c1190] at p1181
                    obtain ⟨v1192, c1193⟩ : ∃ v, I1176 a0 8 = v := ⟨_, rfl⟩
                    have b1194 := iv15_8 hS1184.1 ta0 c1193
                    rw [c1193] at p1182
                    rw [c1167] at p1182
                    rw [c1185] at p1182
                    rw [c1175] at p1182
                    refine tr_iload dX12_readTurner_207 hl944 ?_
                    refine q_iconst dX12_readTurner_209 (by decide) ?_
                    intro v1195 h1196
                    refine tr_iload dX12_readTurner_210 rfl ?_
                    refine q_ishlE dX12_readTurner_212 (by omega) (by omega) ?_
                    intro v1197 h1198
                    refine q_ior dX12_readTurner_213 ?_
                    intro v1199
                    refine tr_istore dX12_readTurner_214 (by decide) (by decide) ?_
                    refine tr_aload_n dX12_readTurner_216 hl937 ?_
                    refine q_bipush dX12_readTurner_217 (by decide +kernel) ?_
                    intro v1200 h1201
                    have z1202 := w1187.2.2.1
                    (try rw [c950] at z1202)
                    (try rw [c1193] at z1202)
                    (try rw [c1190] at z1202)
                    refine q_callVi hE (M' := mX12_eatsSign) (as := [_]) dX12_readTurner_219 lk12_221 inX12_eatsSign seX12_eatsSign myX12_eatsSign (by decide) ⟨by decide, by decide⟩ rfl (kR15 hS1184.1 ta0) (Nat.le_of_ble_eq_true rfl) rfl rfl (by decide) (by decide) (k_X12_eatsSign hS1184.1 ta0) ?_
                    rintro v1207 cn' K' N' I1203 R1204 L1205 ⟨rfl, rfl, rfl, rfl, g1206, h1208, p1209, p1210, w1211, -⟩
                    have hS1212 := hS1184.tr g1206 (by decide +kernel) (by decide +kernel)
                    have c1213 : I1203 a0 13 = v1174 := (g1206.cell ta0 (by decide +kernel)).trans c1185
                    have w1214 : RdI a0 I0 I1203 := w1186.ew w1211
                    have w1215 : RdI a0 I946 I1203 := w1187.ew w1211
                    have gd1216 := Gd.go gd1188 w1211.stick
                    rw [c1190] at p1209
                    obtain ⟨v1217, c1218⟩ : ∃ v, I1203 a0 8 = v := ⟨_, rfl⟩
                    have b1219 := iv15_8 hS1212.1 ta0 c1218
                    rw [c1218] at p1210
                    rw [c1193] at p1210
                    refine tr_istore dX12_readTurner_222 (by decide) (by decide) ?_
                    refine tr_goto 159 dX12_readTurner_224 (by decide) ?_
                    exact ih957 _ v1199 v1207 I1203 L1205 v1217 hl937 hl938 hl939 hl940 hl941 hl942 hl943 rfl rfl hS1212 c1218 w1214 (by omega) (by omega) (by omega)
          exact lp957 _ _ v931 v933 I921 L923 v952 rfl rfl rfl rfl rfl rfl rfl rfl rfl hS927 c953 w929 (by omega) (by omega) (Nat.lt_succ_self _)
        · skip
          exfalso; omega
    · skip
      refine q_iconst dX12_readTurner_41 (by decide) ?_
      intro v1220 h1221
      refine tr_goto 73 dX12_readTurner_42 (by decide) ?_
      refine tr_istore_n dX12_readTurner_73 (by decide) (by decide) ?_
      refine tr_iload_n dX12_readTurner_74 rfl ?_
      refine q_iconst dX12_readTurner_75 (by decide) ?_
      intro v1222 h1223
      refine q_icmp_ne 84 dX12_readTurner_76 (by decide) (fun h1224 => ?_) (fun h1224 => ?_)
      · skip
        refine tr_aload_n dX12_readTurner_84 rfl ?_
        refine tr_ldcwS dX12_readTurner_85 ld12_324 ?_
        refine q_iconst dX12_readTurner_88 (by decide) ?_
        intro v1225 h1226
        refine tr_aload_n dX12_readTurner_89 rfl ?_
        refine tr_getR dX12_readTurner_90 fl12_188 (kR15 hS51.1 ta0) d2 ?_
        obtain ⟨v1227, c1228⟩ : ∃ v, I0 a1 0 = v := ⟨_, rfl⟩
        have b1229 := iv14_0 hW0 ta1 c1228
        refine q_getI dX12_readTurner_93 fl12_192 (kR14 hS51.1 ta1) ((hS51.cell ta1 (by decide +kernel)).trans c1228) ?_
        refine q_iconst dX12_readTurner_96 (by decide) ?_
        intro v1230 h1231
        refine q_isubE dX12_readTurner_97 (by intros; omega) ?_
        intro v1232 h1233
        refine q_callVi hE (M' := mX12_readPart) (as := [_, _, _]) dX12_readTurner_98 lk12_249 inX12_readPart seX12_readPart myX12_readPart (by decide) ⟨by decide, by decide⟩ rfl (kR15 hS51.1 ta0) (Nat.le_of_ble_eq_true rfl) rfl rfl (by decide) (by decide) (k_X12_readPart hS51.1 ta0 (by decide)) ?_
        rintro v1238 cn' K' N' I1234 R1235 L1236 ⟨rfl, rfl, rfl, rfl, g1237, p1239, w1240, -⟩
        have hS1241 := hS51.tr g1237 (by decide +kernel) (by decide +kernel)
        have c1242 : I1234 a1 4 = v3 := (g1237.cell ta1 (by decide +kernel)).trans c52
        have w1243 : RdI a0 I0 I1234 := w53.rd w1240
        have gd1244 := Gd.go gd54 w1240.stick
        have b1245 : 0 ≤ v1238.toInt ∧ v1238.toInt ≤ 239 := by omega
        clear p1239
        refine tr_istore dX12_readTurner_101 (by decide) (by decide) ?_
        refine tr_aload_n dX12_readTurner_103 rfl ?_
        refine tr_ldcwS dX12_readTurner_104 ld12_272 ?_
        refine tr_iload dX12_readTurner_107 rfl ?_
        refine q_iconst dX12_readTurner_109 (by decide) ?_
        intro v1246 h1247
        refine q_iaddE dX12_readTurner_110 (by intros; omega) ?_
        intro v1248 h1249
        refine tr_aload_n dX12_readTurner_111 rfl ?_
        refine tr_getR dX12_readTurner_112 fl12_188 (kR15 hS1241.1 ta0) d2 ?_
        refine q_getI dX12_readTurner_115 fl12_192 (kR14 hS1241.1 ta1) ((hS1241.cell ta1 (by decide +kernel)).trans c1228) ?_
        refine q_callVi hE (M' := mX12_readPart) (as := [_, _, _]) dX12_readTurner_118 lk12_249 inX12_readPart seX12_readPart myX12_readPart (by decide) ⟨by decide, by decide⟩ rfl (kR15 hS1241.1 ta0) (Nat.le_of_ble_eq_true rfl) rfl rfl (by decide) (by decide) (k_X12_readPart hS1241.1 ta0 (by decide)) ?_
        rintro v1254 cn' K' N' I1250 R1251 L1252 ⟨rfl, rfl, rfl, rfl, g1253, p1255, w1256, -⟩
        have hS1257 := hS1241.tr g1253 (by decide +kernel) (by decide +kernel)
        have c1258 : I1250 a1 4 = v3 := (g1253.cell ta1 (by decide +kernel)).trans c1242
        have w1259 : RdI a0 I0 I1250 := w1243.rd w1256
        have gd1260 := Gd.go gd1244 w1256.stick
        have b1261 : 1 ≤ v1254.toInt ∧ v1254.toInt ≤ 240 := by omega
        clear p1255
        refine tr_istore dX12_readTurner_121 (by decide) (by decide) ?_
        refine tr_aload_n dX12_readTurner_123 rfl ?_
        refine tr_ldcwS dX12_readTurner_124 ld12_325 ?_
        refine q_iconst dX12_readTurner_127 (by decide) ?_
        intro v1262 h1263
        refine q_bipush dX12_readTurner_128 (by decide +kernel) ?_
        intro v1264 h1265
        refine q_callVi hE (M' := mX12_readPart) (as := [_, _, _]) dX12_readTurner_130 lk12_249 inX12_readPart seX12_readPart myX12_readPart (by decide) ⟨by decide, by decide⟩ rfl (kR15 hS1257.1 ta0) (Nat.le_of_ble_eq_true rfl) rfl rfl (by decide) (by decide) (k_X12_readPart hS1257.1 ta0 (by decide)) ?_
        rintro v1270 cn' K' N' I1266 R1267 L1268 ⟨rfl, rfl, rfl, rfl, g1269, p1271, w1272, -⟩
        have hS1273 := hS1257.tr g1269 (by decide +kernel) (by decide +kernel)
        have c1274 : I1266 a1 4 = v3 := (g1269.cell ta1 (by decide +kernel)).trans c1258
        have w1275 : RdI a0 I0 I1266 := w1259.rd w1272
        have gd1276 := Gd.go gd1260 w1272.stick
        have b1277 : 1 ≤ v1270.toInt ∧ v1270.toInt ≤ 8 := by omega
        clear p1271
        refine tr_istore dX12_readTurner_133 (by decide) (by decide) ?_
        refine tr_aload_n dX12_readTurner_135 rfl ?_
        refine tr_ldcwS dX12_readTurner_136 ld12_327 ?_
        refine q_iconst dX12_readTurner_139 (by decide) ?_
        intro v1278 h1279
        refine q_bipush dX12_readTurner_140 (by decide +kernel) ?_
        intro v1280 h1281
        refine q_callVi hE (M' := mX12_readPart) (as := [_, _, _]) dX12_readTurner_142 lk12_249 inX12_readPart seX12_readPart myX12_readPart (by decide) ⟨by decide, by decide⟩ rfl (kR15 hS1273.1 ta0) (Nat.le_of_ble_eq_true rfl) rfl rfl (by decide) (by decide) (k_X12_readPart hS1273.1 ta0 (by decide)) ?_
        rintro v1286 cn' K' N' I1282 R1283 L1284 ⟨rfl, rfl, rfl, rfl, g1285, p1287, w1288, -⟩
        have hS1289 := hS1273.tr g1285 (by decide +kernel) (by decide +kernel)
        have c1290 : I1282 a1 4 = v3 := (g1285.cell ta1 (by decide +kernel)).trans c1274
        have w1291 : RdI a0 I0 I1282 := w1275.rd w1288
        have gd1292 := Gd.go gd1276 w1288.stick
        have b1293 : 1 ≤ v1286.toInt ∧ v1286.toInt ≤ 20 := by omega
        clear p1287
        refine tr_istore dX12_readTurner_145 (by decide) (by decide) ?_
        refine tr_aload_n dX12_readTurner_147 rfl ?_
        refine tr_ldcS dX12_readTurner_148 ld12_253 ?_
        refine q_callVv hE (M' := mX12_needs) (as := [_]) dX12_readTurner_150 lk12_157 inX12_needs seX12_needs myX12_needs (by decide) ⟨by decide, by decide⟩ rfl (kR15 hS1289.1 ta0) (Nat.le_of_ble_eq_true rfl) rfl rfl (by decide) (by decide) (k_X12_needs hS1289.1 ta0 (by decide)) ?_
        rintro cn' K' N' I1294 R1295 L1296 ⟨rfl, rfl, rfl, rfl, g1297, w1299, -⟩
        have hS1300 := hS1289.tr g1297 (by decide +kernel) (by decide +kernel)
        have c1301 : I1294 a1 4 = v3 := (g1297.cell ta1 (by decide +kernel)).trans c1290
        have w1302 : RdI a0 I0 I1294 := w1291.rd w1299
        have gd1303 := Gd.go gd1292 w1299.stick
        refine q_iconst dX12_readTurner_153 (by decide) ?_
        intro v1304 h1305
        refine tr_istore dX12_readTurner_154 (by decide) (by decide) ?_
        refine q_iconst dX12_readTurner_156 (by decide) ?_
        intro v1306 h1307
        refine tr_istore dX12_readTurner_157 (by decide) (by decide) ?_
        obtain ⟨v1325, c1326⟩ : ∃ v, I1294 a0 8 = v := ⟨_, rfl⟩
        have b1327 := iv15_8 hS1300.1 ta0 c1326
        have lp1330 : ∀ (fu : Nat) (ls : Nat → Option Value) (v1308 : Int32) (v1309 : Int32) (I1319 : cz_I) (L1320 : cz_L) (v1322 : Int32), ls 0 = some (.ref a0) → ls 1 = some (.long y26) → ls 3 = some (.int v1220) → ls 4 = some (.int v1238) → ls 5 = some (.int v1254) → ls 6 = some (.int v1270) → ls 7 = some (.int v1286) → ls 8 = some (.int v1308) → ls 9 = some (.int v1309) → St T cn K N 0 wi_X12_readTurner wr_X12_readTurner I0 R0 I1319 R0 → I1319 a0 8 = v1322 → RdI a0 I0 I1319 → 0 ≤ v1309.toInt → v1309.toInt ≤ 1 → (-v1322.toInt + v1309.toInt + 900).toNat < fu → Tr X mX12_readTurner 159 ls [] cn K N I1319 R0 L1320 0 0 := by
          intro fu
          induction fu with
          | zero => intros; rename_i hz; exact absurd hz (Nat.not_lt_zero _)
          | succ fu ih1330 =>
            intro ls v1308 v1309 I1319 L1320 v1322 hl1310 hl1311 hl1312 hl1313 hl1314 hl1315 hl1316 hl1317 hl1318 hS1321 c1323 w1324 g1328 g1329 hm1330
            have b1332 := iv15_8 hS1321.1 ta0 c1323
            refine tr_iload dX12_readTurner_159 hl1318 ?_
            refine q_if_eq 227 dX12_readTurner_161 (by decide) (fun h1333 => ?_) (fun h1333 => ?_)
            · skip
              refine tr_aload_n dX12_readTurner_227 hl1310 ?_
              obtain ⟨v1334, c1335⟩ : ∃ v, I1319 a0 9 = v := ⟨_, rfl⟩
              have b1336 := iv15_9 hS1321.1 ta0 c1335
              refine q_getI dX12_readTurner_228 fl12_99 (kR15 hS1321.1 ta0) c1335 ?_
              refine q_iconst dX12_readTurner_231 (by decide) ?_
              intro v1337 h1338
              refine q_icmp_ne 236 dX12_readTurner_232 (by decide) (fun h1339 => ?_) (fun h1339 => ?_)
              · skip
                refine tr_aload_n dX12_readTurner_236 hl1310 ?_
                refine tr_getR dX12_readTurner_237 fl12_188 (kR15 hS1321.1 ta0) d2 ?_
                obtain ⟨v1340, c1341⟩ : ∃ v, I1319 a1 4 = v := ⟨_, rfl⟩
                have b1342 := iv14_4 hS1321.1 ta1 c1341
                refine q_getI dX12_readTurner_240 fl12_315 (kR14 hS1321.1 ta1) c1341 ?_
                refine tr_istore dX12_readTurner_243 (by decide) (by decide) ?_
                refine tr_aload_n dX12_readTurner_245 hl1310 ?_
                refine tr_lload_n dX12_readTurner_246 hl1311 ?_
                refine q_iconst dX12_readTurner_247 (by decide) ?_
                intro v1343 h1344
                refine tr_iload dX12_readTurner_248 rfl ?_
                obtain ⟨v1346, c1347⟩ : ∃ v, I1319 a1 7 = v := ⟨_, rfl⟩
                have b1348 := iv14_7 hS1321.1 ta1 c1347
                obtain ⟨v1349, c1350⟩ : ∃ v, I0 a1 3 = v := ⟨_, rfl⟩
                have b1351 := iv14_3 hW0 ta1 c1350
                have p1345 := hS1321.1.2.2.2.2.1 a0 ta0 _ d2
                rw [c1347, ((hS1321.cell ta1 (by decide +kernel)).trans c1350), c1341] at p1345
                refine q_callVv hE (M' := mX12_names) (as := [_, _, _]) dX12_readTurner_250 lk12_293 inX12_names seX12_names myX12_names (by decide) ⟨by decide, by decide⟩ rfl (kR15 hS1321.1 ta0) (Nat.le_of_ble_eq_true rfl) rfl rfl (by decide) (by decide) (k_X12_names hS1321.1 ta0 (fun q0 z0 => by obtain rfl := Option.some.inj ((d2).symm.trans z0); (try rw [c1347]); (try omega)) ⟨_, d2⟩) ?_
                rintro cn' K' N' I1352 R1353 L1354 ⟨rfl, rfl, rfl, rfl, g1355, -⟩
                have hS1357 := hS1321.tr g1355 (by decide +kernel) (by decide +kernel)
                have c1358 : I1352 a0 8 = v1322 := (g1355.cell ta0 (by decide +kernel)).trans c1323
                have c1359 : I1352 a0 9 = v1334 := (g1355.cell ta0 (by decide +kernel)).trans c1335
                have c1360 : I1352 a1 4 = v1340 := (g1355.cell ta1 (by decide +kernel)).trans c1341
                have w1361 : RdI a0 I0 I1352 := w1324.keep (g1355.cell ta0 (by decide +kernel)) (g1355.cell ta0 (by decide +kernel)) (g1355.cell ta0 (by decide +kernel))
                have w1362 : EwI a0 I1319 I1352 := (EwI.rf a0 I1319).keep (g1355.cell ta0 (by decide +kernel)) (g1355.cell ta0 (by decide +kernel)) (g1355.cell ta0 (by decide +kernel))
                refine tr_aload_n dX12_readTurner_253 hl1310 ?_
                refine tr_getR dX12_readTurner_254 fl12_188 (kR15 hS1357.1 ta0) d2 ?_
                obtain ⟨a1363, d1364, ta1363⟩ := rf14_20 hW0 ta1
                refine tr_getR dX12_readTurner_257 fl12_333 (kR14 hS1357.1 ta1) d1364 ?_
                refine tr_iload dX12_readTurner_260 rfl ?_
                refine tr_iload_n dX12_readTurner_262 hl1312 ?_
                refine q_iast dX12_readTurner_263 (kR63 hS1357.1 ta1363) (ti_in (nR63 hS1357.1 ta1363) (by omega) (by omega)) hS1357 ta1363 (iokF rfl) rfl (by rfl) ?_
                intro I1365 hS1366 e1368 f1367
                have c1369 : I1365 a0 8 = v1322 := (f1367 _ _ (fun q => by have z := ta0; rw [q.1, ta1363] at z; exact absurd z (by decide))).trans c1358
                have c1370 : I1365 a0 9 = v1334 := (f1367 _ _ (fun q => by have z := ta0; rw [q.1, ta1363] at z; exact absurd z (by decide))).trans c1359
                have c1371 : I1365 a1 4 = v1340 := (f1367 _ _ (fun q => by have z := ta1; rw [q.1, ta1363] at z; exact absurd z (by decide))).trans c1360
                have w1372 : RdI a0 I0 I1365 := w1361.keep (f1367 _ _ (fun q => by have z := ta0; rw [q.1, ta1363] at z; exact absurd z (by decide))) (f1367 _ _ (fun q => by have z := ta0; rw [q.1, ta1363] at z; exact absurd z (by decide))) (f1367 _ _ (fun q => by have z := ta0; rw [q.1, ta1363] at z; exact absurd z (by decide)))
                have w1373 : EwI a0 I1319 I1365 := w1362.keep (f1367 _ _ (fun q => by have z := ta0; rw [q.1, ta1363] at z; exact absurd z (by decide))) (f1367 _ _ (fun q => by have z := ta0; rw [q.1, ta1363] at z; exact absurd z (by decide))) (f1367 _ _ (fun q => by have z := ta0; rw [q.1, ta1363] at z; exact absurd z (by decide)))
                refine tr_aload_n dX12_readTurner_264 hl1310 ?_
                refine tr_getR dX12_readTurner_265 fl12_188 (kR15 hS1366.1 ta0) d2 ?_
                obtain ⟨a1374, d1375, ta1374⟩ := rf14_21 hW0 ta1
                refine tr_getR dX12_readTurner_268 fl12_336 (kR14 hS1366.1 ta1) d1375 ?_
                refine tr_iload dX12_readTurner_271 rfl ?_
                refine tr_iload dX12_readTurner_273 hl1313 ?_
                refine q_iast dX12_readTurner_275 (kR64 hS1366.1 ta1374) (ti_in (nR64 hS1366.1 ta1374) (by omega) (by omega)) hS1366 ta1374 (iokF rfl) rfl (by rfl) ?_
                intro I1376 hS1377 e1379 f1378
                have c1380 : I1376 a0 8 = v1322 := (f1378 _ _ (fun q => by have z := ta0; rw [q.1, ta1374] at z; exact absurd z (by decide))).trans c1369
                have c1381 : I1376 a0 9 = v1334 := (f1378 _ _ (fun q => by have z := ta0; rw [q.1, ta1374] at z; exact absurd z (by decide))).trans c1370
                have c1382 : I1376 a1 4 = v1340 := (f1378 _ _ (fun q => by have z := ta1; rw [q.1, ta1374] at z; exact absurd z (by decide))).trans c1371
                have w1383 : RdI a0 I0 I1376 := w1372.keep (f1378 _ _ (fun q => by have z := ta0; rw [q.1, ta1374] at z; exact absurd z (by decide))) (f1378 _ _ (fun q => by have z := ta0; rw [q.1, ta1374] at z; exact absurd z (by decide))) (f1378 _ _ (fun q => by have z := ta0; rw [q.1, ta1374] at z; exact absurd z (by decide)))
                have w1384 : EwI a0 I1319 I1376 := w1373.keep (f1378 _ _ (fun q => by have z := ta0; rw [q.1, ta1374] at z; exact absurd z (by decide))) (f1378 _ _ (fun q => by have z := ta0; rw [q.1, ta1374] at z; exact absurd z (by decide))) (f1378 _ _ (fun q => by have z := ta0; rw [q.1, ta1374] at z; exact absurd z (by decide)))
                refine tr_aload_n dX12_readTurner_276 hl1310 ?_
                refine tr_getR dX12_readTurner_277 fl12_188 (kR15 hS1377.1 ta0) d2 ?_
                obtain ⟨a1385, d1386, ta1385⟩ := rf14_22 hW0 ta1
                refine tr_getR dX12_readTurner_280 fl12_339 (kR14 hS1377.1 ta1) d1386 ?_
                refine tr_iload dX12_readTurner_283 rfl ?_
                refine tr_iload dX12_readTurner_285 hl1314 ?_
                refine q_iast dX12_readTurner_287 (kR65 hS1377.1 ta1385) (ti_in (nR65 hS1377.1 ta1385) (by omega) (by omega)) hS1377 ta1385 (iokF rfl) rfl (by rfl) ?_
                intro I1387 hS1388 e1390 f1389
                have c1391 : I1387 a0 8 = v1322 := (f1389 _ _ (fun q => by have z := ta0; rw [q.1, ta1385] at z; exact absurd z (by decide))).trans c1380
                have c1392 : I1387 a0 9 = v1334 := (f1389 _ _ (fun q => by have z := ta0; rw [q.1, ta1385] at z; exact absurd z (by decide))).trans c1381
                have c1393 : I1387 a1 4 = v1340 := (f1389 _ _ (fun q => by have z := ta1; rw [q.1, ta1385] at z; exact absurd z (by decide))).trans c1382
                have w1394 : RdI a0 I0 I1387 := w1383.keep (f1389 _ _ (fun q => by have z := ta0; rw [q.1, ta1385] at z; exact absurd z (by decide))) (f1389 _ _ (fun q => by have z := ta0; rw [q.1, ta1385] at z; exact absurd z (by decide))) (f1389 _ _ (fun q => by have z := ta0; rw [q.1, ta1385] at z; exact absurd z (by decide)))
                have w1395 : EwI a0 I1319 I1387 := w1384.keep (f1389 _ _ (fun q => by have z := ta0; rw [q.1, ta1385] at z; exact absurd z (by decide))) (f1389 _ _ (fun q => by have z := ta0; rw [q.1, ta1385] at z; exact absurd z (by decide))) (f1389 _ _ (fun q => by have z := ta0; rw [q.1, ta1385] at z; exact absurd z (by decide)))
                refine tr_aload_n dX12_readTurner_288 hl1310 ?_
                refine tr_getR dX12_readTurner_289 fl12_188 (kR15 hS1388.1 ta0) d2 ?_
                obtain ⟨a1396, d1397, ta1396⟩ := rf14_23 hW0 ta1
                refine tr_getR dX12_readTurner_292 fl12_342 (kR14 hS1388.1 ta1) d1397 ?_
                refine tr_iload dX12_readTurner_295 rfl ?_
                refine tr_iload dX12_readTurner_297 hl1315 ?_
                refine q_iast dX12_readTurner_299 (kR66 hS1388.1 ta1396) (ti_in (nR66 hS1388.1 ta1396) (by omega) (by omega)) hS1388 ta1396 (iokF rfl) rfl (by rfl) ?_
                intro I1398 hS1399 e1401 f1400
                have c1402 : I1398 a0 8 = v1322 := (f1400 _ _ (fun q => by have z := ta0; rw [q.1, ta1396] at z; exact absurd z (by decide))).trans c1391
                have c1403 : I1398 a0 9 = v1334 := (f1400 _ _ (fun q => by have z := ta0; rw [q.1, ta1396] at z; exact absurd z (by decide))).trans c1392
                have c1404 : I1398 a1 4 = v1340 := (f1400 _ _ (fun q => by have z := ta1; rw [q.1, ta1396] at z; exact absurd z (by decide))).trans c1393
                have w1405 : RdI a0 I0 I1398 := w1394.keep (f1400 _ _ (fun q => by have z := ta0; rw [q.1, ta1396] at z; exact absurd z (by decide))) (f1400 _ _ (fun q => by have z := ta0; rw [q.1, ta1396] at z; exact absurd z (by decide))) (f1400 _ _ (fun q => by have z := ta0; rw [q.1, ta1396] at z; exact absurd z (by decide)))
                have w1406 : EwI a0 I1319 I1398 := w1395.keep (f1400 _ _ (fun q => by have z := ta0; rw [q.1, ta1396] at z; exact absurd z (by decide))) (f1400 _ _ (fun q => by have z := ta0; rw [q.1, ta1396] at z; exact absurd z (by decide))) (f1400 _ _ (fun q => by have z := ta0; rw [q.1, ta1396] at z; exact absurd z (by decide)))
                refine tr_aload_n dX12_readTurner_300 hl1310 ?_
                refine tr_getR dX12_readTurner_301 fl12_188 (kR15 hS1399.1 ta0) d2 ?_
                obtain ⟨a1407, d1408, ta1407⟩ := rf14_24 hW0 ta1
                refine tr_getR dX12_readTurner_304 fl12_344 (kR14 hS1399.1 ta1) d1408 ?_
                refine tr_iload dX12_readTurner_307 rfl ?_
                refine tr_iload dX12_readTurner_309 hl1316 ?_
                refine q_iast dX12_readTurner_311 (kR67 hS1399.1 ta1407) (ti_in (nR67 hS1399.1 ta1407) (by omega) (by omega)) hS1399 ta1407 (iokF rfl) rfl (by rfl) ?_
                intro I1409 hS1410 e1412 f1411
                have c1413 : I1409 a0 8 = v1322 := (f1411 _ _ (fun q => by have z := ta0; rw [q.1, ta1407] at z; exact absurd z (by decide))).trans c1402
                have c1414 : I1409 a0 9 = v1334 := (f1411 _ _ (fun q => by have z := ta0; rw [q.1, ta1407] at z; exact absurd z (by decide))).trans c1403
                have c1415 : I1409 a1 4 = v1340 := (f1411 _ _ (fun q => by have z := ta1; rw [q.1, ta1407] at z; exact absurd z (by decide))).trans c1404
                have w1416 : RdI a0 I0 I1409 := w1405.keep (f1411 _ _ (fun q => by have z := ta0; rw [q.1, ta1407] at z; exact absurd z (by decide))) (f1411 _ _ (fun q => by have z := ta0; rw [q.1, ta1407] at z; exact absurd z (by decide))) (f1411 _ _ (fun q => by have z := ta0; rw [q.1, ta1407] at z; exact absurd z (by decide)))
                have w1417 : EwI a0 I1319 I1409 := w1406.keep (f1411 _ _ (fun q => by have z := ta0; rw [q.1, ta1407] at z; exact absurd z (by decide))) (f1411 _ _ (fun q => by have z := ta0; rw [q.1, ta1407] at z; exact absurd z (by decide))) (f1411 _ _ (fun q => by have z := ta0; rw [q.1, ta1407] at z; exact absurd z (by decide)))
                refine tr_aload_n dX12_readTurner_312 hl1310 ?_
                refine tr_getR dX12_readTurner_313 fl12_188 (kR15 hS1410.1 ta0) d2 ?_
                obtain ⟨a1418, d1419, ta1418⟩ := rf14_25 hW0 ta1
                refine tr_getR dX12_readTurner_316 fl12_346 (kR14 hS1410.1 ta1) d1419 ?_
                refine tr_iload dX12_readTurner_319 rfl ?_
                refine tr_iload dX12_readTurner_321 hl1317 ?_
                refine q_iast dX12_readTurner_323 (kR68 hS1410.1 ta1418) (ti_in (nR68 hS1410.1 ta1418) (by omega) (by omega)) hS1410 ta1418 (iokF rfl) rfl (by rfl) ?_
                intro I1420 hS1421 e1423 f1422
                have c1424 : I1420 a0 8 = v1322 := (f1422 _ _ (fun q => by have z := ta0; rw [q.1, ta1418] at z; exact absurd z (by decide))).trans c1413
                have c1425 : I1420 a0 9 = v1334 := (f1422 _ _ (fun q => by have z := ta0; rw [q.1, ta1418] at z; exact absurd z (by decide))).trans c1414
                have c1426 : I1420 a1 4 = v1340 := (f1422 _ _ (fun q => by have z := ta1; rw [q.1, ta1418] at z; exact absurd z (by decide))).trans c1415
                have w1427 : RdI a0 I0 I1420 := w1416.keep (f1422 _ _ (fun q => by have z := ta0; rw [q.1, ta1418] at z; exact absurd z (by decide))) (f1422 _ _ (fun q => by have z := ta0; rw [q.1, ta1418] at z; exact absurd z (by decide))) (f1422 _ _ (fun q => by have z := ta0; rw [q.1, ta1418] at z; exact absurd z (by decide)))
                have w1428 : EwI a0 I1319 I1420 := w1417.keep (f1422 _ _ (fun q => by have z := ta0; rw [q.1, ta1418] at z; exact absurd z (by decide))) (f1422 _ _ (fun q => by have z := ta0; rw [q.1, ta1418] at z; exact absurd z (by decide))) (f1422 _ _ (fun q => by have z := ta0; rw [q.1, ta1418] at z; exact absurd z (by decide)))
                refine tr_aload_n dX12_readTurner_324 hl1310 ?_
                refine tr_getR dX12_readTurner_325 fl12_188 (kR15 hS1421.1 ta0) d2 ?_
                refine tr_dup dX12_readTurner_328 rfl ?_
                refine q_getI dX12_readTurner_329 fl12_315 (kR14 hS1421.1 ta1) c1426 ?_
                refine q_iconst dX12_readTurner_332 (by decide) ?_
                intro v1429 h1430
                refine q_iaddE dX12_readTurner_333 (by intros; omega) ?_
                intro v1431 h1432
                refine q_putX dX12_readTurner_334 fl12_315 (kR14 hS1421.1 ta1) (Or.inl rfl) hS1421 ta1 (by decide +kernel) (hS1421.1.putN (d' := 0) ta0 d2 (Or.inr (Or.inr rfl)) (by rw [c1426]; omega) (by decide) (by show (0 : Int) ≤ v1431.toInt ∧ v1431.toInt ≤ (5 : Int); omega)) ?_
                intro I1433 hS1434 e1435 f1436
                have c1437 : I1433 a0 8 = v1322 := (f1436 _ _ (fun q => absurd q.2 (by decide))).trans c1424
                have c1438 : I1433 a0 9 = v1334 := (f1436 _ _ (fun q => absurd q.2 (by decide))).trans c1425
                have w1439 : RdI a0 I0 I1433 := w1427.keep (f1436 _ _ (fun q => absurd q.2 (by decide))) (f1436 _ _ (fun q => absurd q.2 (by decide))) (f1436 _ _ (fun q => absurd q.2 (by decide)))
                have w1440 : EwI a0 I1319 I1433 := w1428.keep (f1436 _ _ (fun q => absurd q.2 (by decide))) (f1436 _ _ (fun q => absurd q.2 (by decide))) (f1436 _ _ (fun q => absurd q.2 (by decide)))
                exact tr_vret hZ dX12_readTurner_337 rfl (by decide) (by decide) ⟨rfl, rfl, rfl, rfl, rfl, hS1434, w1439, trivial⟩
              · skip
                exact tr_vret hZ dX12_readTurner_235 rfl (by decide) (by decide) ⟨rfl, rfl, rfl, rfl, rfl, hS1321, w1324, trivial⟩
            · skip
              refine tr_aload_n dX12_readTurner_164 hl1310 ?_
              obtain ⟨v1441, c1442⟩ : ∃ v, I1319 a0 9 = v := ⟨_, rfl⟩
              have b1443 := iv15_9 hS1321.1 ta0 c1442
              refine q_getI dX12_readTurner_165 fl12_99 (kR15 hS1321.1 ta0) c1442 ?_
              refine q_iconst dX12_readTurner_168 (by decide) ?_
              intro v1444 h1445
              refine q_icmp_eq 227 dX12_readTurner_169 (by decide) (fun h1446 => ?_) (fun h1446 => ?_)
              · skip
                refine tr_aload_n dX12_readTurner_227 hl1310 ?_
                refine q_getI dX12_readTurner_228 fl12_99 (kR15 hS1321.1 ta0) c1442 ?_
                refine q_iconst dX12_readTurner_231 (by decide) ?_
                intro v1447 h1448
                refine q_icmp_ne 236 dX12_readTurner_232 (by decide) (fun h1449 => ?_) (fun h1449 => ?_)
                · skip
                  exfalso; omega
                · skip
                  exact tr_vret hZ dX12_readTurner_235 rfl (by decide) (by decide) ⟨rfl, rfl, rfl, rfl, rfl, hS1321, w1324, trivial⟩
              · skip
                refine tr_aload_n dX12_readTurner_172 hl1310 ?_
                refine q_iconst dX12_readTurner_173 (by decide) ?_
                intro v1450 h1451
                refine tr_aload_n dX12_readTurner_174 hl1310 ?_
                refine tr_getR dX12_readTurner_175 fl12_188 (kR15 hS1321.1 ta0) d2 ?_
                obtain ⟨v1452, c1453⟩ : ∃ v, I0 a1 1 = v := ⟨_, rfl⟩
                have b1454 := iv14_1 hW0 ta1 c1453
                refine q_getI dX12_readTurner_178 fl12_263 (kR14 hS1321.1 ta1) ((hS1321.cell ta1 (by decide +kernel)).trans c1453) ?_
                refine q_iconst dX12_readTurner_181 (by decide) ?_
                intro v1455 h1456
                refine q_isubE dX12_readTurner_182 (by intros; omega) ?_
                intro v1457 h1458
                refine q_callVi hE (M' := mX12_bounded) (as := [_, _]) dX12_readTurner_183 lk12_153 inX12_bounded seX12_bounded myX12_bounded (by decide) ⟨by decide, by decide⟩ rfl (kR15 hS1321.1 ta0) (Nat.le_of_ble_eq_true rfl) rfl rfl (by decide) (by decide) (k_X12_bounded hS1321.1 ta0) ?_
                rintro v1463 cn' K' N' I1459 R1460 L1461 ⟨rfl, rfl, rfl, rfl, rfl, g1462, p1464, p1465, w1466, -⟩
                have hS1467 := hS1321.tr g1462 (by decide +kernel) (by decide +kernel)
                have c1468 : I1459 a0 8 = v1322 := (g1462.cell ta0 (by decide +kernel)).trans c1323
                have w1469 : RdI a0 I0 I1459 := w1324.ew w1466
                have w1470 : EwI a0 I1319 I1459 := (EwI.rf a0 I1319).ew w1466
                have b1471 : 0 ≤ v1463.toInt ∧ v1463.toInt ≤ 3 := by omega
                clear p1464
                obtain ⟨v1472, c1473⟩ : ∃ v, I1459 a0 9 = v := ⟨_, rfl⟩
                have b1474 := iv15_9 hS1467.1 ta0 c1473
                have gd1475 : Gd (I1459 a0 9) ((v1450.toInt ≤ v1463.toInt ∧ v1463.toInt ≤ v1457.toInt)) := p1465
                clear p1465
                refine tr_istore dX12_readTurner_186 (by decide) (by decide) ?_
                refine tr_iload dX12_readTurner_188 hl1317 ?_
                refine tr_iload dX12_readTurner_190 rfl ?_
                refine q_callSi hE (M' := mX12_has) (as := [_, _]) dX12_readTurner_192 lk12_329 inX12_has myX12_has ⟨by decide, by decide⟩ rfl (Nat.le_of_ble_eq_true rfl) rfl rfl (by decide) (by decide) (k_X12_has hS1467.1 ) ?_
                rintro v1480 cn' K' N' I1476 R1477 L1478 ⟨rfl, rfl, rfl, rfl, rfl, rfl, h1481, -⟩
                refine q_if_eq 203 dX12_readTurner_195 (by decide) (fun h1482 => ?_) (fun h1482 => ?_)
                · skip
                  refine tr_aload_n dX12_readTurner_203 hl1310 ?_
                  obtain ⟨v1483, c1484⟩ : ∃ v, I1459 a0 13 = v := ⟨_, rfl⟩
                  refine q_callVv hE (M' := mX12_goesOn) (as := []) dX12_readTurner_204 lk12_142 inX12_goesOn seX12_goesOn myX12_goesOn (by decide) ⟨by decide, by decide⟩ rfl (kR15 hS1467.1 ta0) (Nat.le_of_ble_eq_true rfl) rfl rfl (by decide) (by decide) (k_X12_goesOn hS1467.1 ta0) ?_
                  rintro cn' K' N' I1485 R1486 L1487 ⟨rfl, rfl, rfl, rfl, g1488, p1490, p1491, w1492, -⟩
                  have hS1493 := hS1467.tr g1488 (by decide +kernel) (by decide +kernel)
                  have c1494 : I1485 a0 13 = v1483 := (g1488.cell ta0 (by decide +kernel)).trans c1484
                  have w1495 : RdI a0 I0 I1485 := w1469.rd w1492
                  have w1496 : RdI a0 I1319 I1485 := w1470.rd w1492
                  have gd1497 := Gd.go gd1475 w1492.stick
                  obtain ⟨v1498, c1499⟩ : ∃ v, I1485 a0 9 = v := ⟨_, rfl⟩
                  have b1500 := iv15_9 hS1493.1 ta0 c1499
                  rw [c1473] at p1490
                  rw [c1499] at p1490
                  obtain ⟨v1501, c1502⟩ : ∃ v, I1485 a0 8 = v := ⟨_, rfl⟩
                  have b1503 := iv15_8 hS1493.1 ta0 c1502
                  rw [c1502] at p1491
                  rw [c1468] at p1491
                  rw [c1494] at p1491
                  rw [c1484] at p1491
                  refine tr_iload dX12_readTurner_207 hl1317 ?_
                  refine q_iconst dX12_readTurner_209 (by decide) ?_
                  intro v1504 h1505
                  refine tr_iload dX12_readTurner_210 rfl ?_
                  refine q_ishlE dX12_readTurner_212 (by omega) (by omega) ?_
                  intro v1506 h1507
                  refine q_ior dX12_readTurner_213 ?_
                  intro v1508
                  refine tr_istore dX12_readTurner_214 (by decide) (by decide) ?_
                  refine tr_aload_n dX12_readTurner_216 hl1310 ?_
                  refine q_bipush dX12_readTurner_217 (by decide +kernel) ?_
                  intro v1509 h1510
                  have z1511 := w1496.2.2.1
                  (try rw [c1323] at z1511)
                  (try rw [c1502] at z1511)
                  (try rw [c1499] at z1511)
                  refine q_callVi hE (M' := mX12_eatsSign) (as := [_]) dX12_readTurner_219 lk12_221 inX12_eatsSign seX12_eatsSign myX12_eatsSign (by decide) ⟨by decide, by decide⟩ rfl (kR15 hS1493.1 ta0) (Nat.le_of_ble_eq_true rfl) rfl rfl (by decide) (by decide) (k_X12_eatsSign hS1493.1 ta0) ?_
                  rintro v1516 cn' K' N' I1512 R1513 L1514 ⟨rfl, rfl, rfl, rfl, g1515, h1517, p1518, p1519, w1520, -⟩
                  have hS1521 := hS1493.tr g1515 (by decide +kernel) (by decide +kernel)
                  have c1522 : I1512 a0 13 = v1483 := (g1515.cell ta0 (by decide +kernel)).trans c1494
                  have w1523 : RdI a0 I0 I1512 := w1495.ew w1520
                  have w1524 : RdI a0 I1319 I1512 := w1496.ew w1520
                  have gd1525 := Gd.go gd1497 w1520.stick
                  rw [c1499] at p1518
                  obtain ⟨v1526, c1527⟩ : ∃ v, I1512 a0 8 = v := ⟨_, rfl⟩
                  have b1528 := iv15_8 hS1521.1 ta0 c1527
                  rw [c1527] at p1519
                  rw [c1502] at p1519
                  refine tr_istore dX12_readTurner_222 (by decide) (by decide) ?_
                  refine tr_goto 159 dX12_readTurner_224 (by decide) ?_
                  exact ih1330 _ v1508 v1516 I1512 L1514 v1526 hl1310 hl1311 hl1312 hl1313 hl1314 hl1315 hl1316 rfl rfl hS1521 c1527 w1523 (by omega) (by omega) (by omega)
                · skip
                  refine tr_aload_n dX12_readTurner_198 hl1310 ?_
                  refine q_iconst dX12_readTurner_199 (by decide) ?_
                  intro v1529 h1530
                  refine q_callVv hE (M' := mX12_flaw) (as := [_]) dX12_readTurner_200 lk12_145 inX12_flaw seX12_flaw myX12_flaw (by decide) ⟨by decide, by decide⟩ rfl (kR15 hS1467.1 ta0) (Nat.le_of_ble_eq_true rfl) rfl rfl (by decide) (by decide) (k_X12_flaw hS1467.1 ta0 (by omega)) ?_
                  rintro cn' K' N' I1531 R1532 L1533 ⟨rfl, rfl, rfl, rfl, rfl, g1534, p1536, p1537, w1538, -⟩
                  have hS1539 := hS1467.tr g1534 (by decide +kernel) (by decide +kernel)
                  have c1540 : I1531 a0 8 = v1322 := (g1534.cell ta0 (by decide +kernel)).trans c1468
                  have w1541 : RdI a0 I0 I1531 := w1469.rd w1538
                  have w1542 : RdI a0 I1319 I1531 := w1470.rd w1538
                  have gd1543 := Gd.go gd1475 w1538.stick
                  obtain ⟨v1544, c1545⟩ : ∃ v, I1531 a0 9 = v := ⟨_, rfl⟩
                  have b1546 := iv15_9 hS1539.1 ta0 c1545
                  rw [c1545] at p1536
                  rw [c1540] at p1537
                  rw [c1468] at p1537
                  refine tr_aload_n dX12_readTurner_203 hl1310 ?_
                  obtain ⟨v1547, c1548⟩ : ∃ v, I1531 a0 13 = v := ⟨_, rfl⟩
                  refine q_callVv hE (M' := mX12_goesOn) (as := []) dX12_readTurner_204 lk12_142 inX12_goesOn seX12_goesOn myX12_goesOn (by decide) ⟨by decide, by decide⟩ rfl (kR15 hS1539.1 ta0) (Nat.le_of_ble_eq_true rfl) rfl rfl (by decide) (by decide) (k_X12_goesOn hS1539.1 ta0) ?_
                  rintro cn' K' N' I1549 R1550 L1551 ⟨rfl, rfl, rfl, rfl, g1552, p1554, p1555, w1556, -⟩
                  have hS1557 := hS1539.tr g1552 (by decide +kernel) (by decide +kernel)
                  have c1558 : I1549 a0 13 = v1547 := (g1552.cell ta0 (by decide +kernel)).trans c1548
                  have w1559 : RdI a0 I0 I1549 := w1541.rd w1556
                  have w1560 : RdI a0 I1319 I1549 := w1542.rd w1556
                  have gd1561 := Gd.go gd1543 w1556.stick
                  obtain ⟨v1562, c1563⟩ : ∃ v, I1549 a0 9 = v := ⟨_, rfl⟩
                  have b1564 := iv15_9 hS1557.1 ta0 c1563
                  rw [c1545] at p1554
                  rw [c1563] at p1554
                  obtain ⟨v1565, c1566⟩ : ∃ v, I1549 a0 8 = v := ⟨_, rfl⟩
                  have b1567 := iv15_8 hS1557.1 ta0 c1566
                  rw [c1566] at p1555
                  rw [c1540] at p1555
                  rw [c1558] at p1555
                  rw [c1548] at p1555
                  refine tr_iload dX12_readTurner_207 hl1317 ?_
                  refine q_iconst dX12_readTurner_209 (by decide) ?_
                  intro v1568 h1569
                  refine tr_iload dX12_readTurner_210 rfl ?_
                  refine q_ishlE dX12_readTurner_212 (by omega) (by omega) ?_
                  intro v1570 h1571
                  refine q_ior dX12_readTurner_213 ?_
                  intro v1572
                  refine tr_istore dX12_readTurner_214 (by decide) (by decide) ?_
                  refine tr_aload_n dX12_readTurner_216 hl1310 ?_
                  refine q_bipush dX12_readTurner_217 (by decide +kernel) ?_
                  intro v1573 h1574
                  have z1575 := w1560.2.2.1
                  (try rw [c1323] at z1575)
                  (try rw [c1566] at z1575)
                  (try rw [c1563] at z1575)
                  refine q_callVi hE (M' := mX12_eatsSign) (as := [_]) dX12_readTurner_219 lk12_221 inX12_eatsSign seX12_eatsSign myX12_eatsSign (by decide) ⟨by decide, by decide⟩ rfl (kR15 hS1557.1 ta0) (Nat.le_of_ble_eq_true rfl) rfl rfl (by decide) (by decide) (k_X12_eatsSign hS1557.1 ta0) ?_
                  rintro v1580 cn' K' N' I1576 R1577 L1578 ⟨rfl, rfl, rfl, rfl, g1579, h1581, p1582, p1583, w1584, -⟩
                  have hS1585 := hS1557.tr g1579 (by decide +kernel) (by decide +kernel)
                  have c1586 : I1576 a0 13 = v1547 := (g1579.cell ta0 (by decide +kernel)).trans c1558
                  have w1587 : RdI a0 I0 I1576 := w1559.ew w1584
                  have w1588 : RdI a0 I1319 I1576 := w1560.ew w1584
                  have gd1589 := Gd.go gd1561 w1584.stick
                  rw [c1563] at p1582
                  obtain ⟨v1590, c1591⟩ : ∃ v, I1576 a0 8 = v := ⟨_, rfl⟩
                  have b1592 := iv15_8 hS1585.1 ta0 c1591
                  rw [c1591] at p1583
                  rw [c1566] at p1583
                  refine tr_istore dX12_readTurner_222 (by decide) (by decide) ?_
                  refine tr_goto 159 dX12_readTurner_224 (by decide) ?_
                  exact ih1330 _ v1572 v1580 I1576 L1578 v1590 hl1310 hl1311 hl1312 hl1313 hl1314 hl1315 hl1316 rfl rfl hS1585 c1591 w1587 (by omega) (by omega) (by omega)
        exact lp1330 _ _ v1304 v1306 I1294 L1296 v1325 rfl rfl rfl rfl rfl rfl rfl rfl rfl hS1300 c1326 w1302 (by omega) (by omega) (Nat.lt_succ_self _)
      · skip
        exfalso; omega
  · skip
    refine q_iconst dX12_readTurner_27 (by decide) ?_
    intro v1593 h1594
    refine tr_goto 73 dX12_readTurner_28 (by decide) ?_
    refine tr_istore_n dX12_readTurner_73 (by decide) (by decide) ?_
    refine tr_iload_n dX12_readTurner_74 rfl ?_
    refine q_iconst dX12_readTurner_75 (by decide) ?_
    intro v1595 h1596
    refine q_icmp_ne 84 dX12_readTurner_76 (by decide) (fun h1597 => ?_) (fun h1597 => ?_)
    · skip
      refine tr_aload_n dX12_readTurner_84 rfl ?_
      refine tr_ldcwS dX12_readTurner_85 ld12_324 ?_
      refine q_iconst dX12_readTurner_88 (by decide) ?_
      intro v1598 h1599
      refine tr_aload_n dX12_readTurner_89 rfl ?_
      refine tr_getR dX12_readTurner_90 fl12_188 (kR15 hS39.1 ta0) d2 ?_
      obtain ⟨v1600, c1601⟩ : ∃ v, I0 a1 0 = v := ⟨_, rfl⟩
      have b1602 := iv14_0 hW0 ta1 c1601
      refine q_getI dX12_readTurner_93 fl12_192 (kR14 hS39.1 ta1) ((hS39.cell ta1 (by decide +kernel)).trans c1601) ?_
      refine q_iconst dX12_readTurner_96 (by decide) ?_
      intro v1603 h1604
      refine q_isubE dX12_readTurner_97 (by intros; omega) ?_
      intro v1605 h1606
      refine q_callVi hE (M' := mX12_readPart) (as := [_, _, _]) dX12_readTurner_98 lk12_249 inX12_readPart seX12_readPart myX12_readPart (by decide) ⟨by decide, by decide⟩ rfl (kR15 hS39.1 ta0) (Nat.le_of_ble_eq_true rfl) rfl rfl (by decide) (by decide) (k_X12_readPart hS39.1 ta0 (by decide)) ?_
      rintro v1611 cn' K' N' I1607 R1608 L1609 ⟨rfl, rfl, rfl, rfl, g1610, p1612, w1613, -⟩
      have hS1614 := hS39.tr g1610 (by decide +kernel) (by decide +kernel)
      have c1615 : I1607 a1 4 = v3 := (g1610.cell ta1 (by decide +kernel)).trans c40
      have w1616 : RdI a0 I0 I1607 := w41.rd w1613
      have gd1617 := Gd.go gd42 w1613.stick
      have b1618 : 0 ≤ v1611.toInt ∧ v1611.toInt ≤ 239 := by omega
      clear p1612
      refine tr_istore dX12_readTurner_101 (by decide) (by decide) ?_
      refine tr_aload_n dX12_readTurner_103 rfl ?_
      refine tr_ldcwS dX12_readTurner_104 ld12_272 ?_
      refine tr_iload dX12_readTurner_107 rfl ?_
      refine q_iconst dX12_readTurner_109 (by decide) ?_
      intro v1619 h1620
      refine q_iaddE dX12_readTurner_110 (by intros; omega) ?_
      intro v1621 h1622
      refine tr_aload_n dX12_readTurner_111 rfl ?_
      refine tr_getR dX12_readTurner_112 fl12_188 (kR15 hS1614.1 ta0) d2 ?_
      refine q_getI dX12_readTurner_115 fl12_192 (kR14 hS1614.1 ta1) ((hS1614.cell ta1 (by decide +kernel)).trans c1601) ?_
      refine q_callVi hE (M' := mX12_readPart) (as := [_, _, _]) dX12_readTurner_118 lk12_249 inX12_readPart seX12_readPart myX12_readPart (by decide) ⟨by decide, by decide⟩ rfl (kR15 hS1614.1 ta0) (Nat.le_of_ble_eq_true rfl) rfl rfl (by decide) (by decide) (k_X12_readPart hS1614.1 ta0 (by decide)) ?_
      rintro v1627 cn' K' N' I1623 R1624 L1625 ⟨rfl, rfl, rfl, rfl, g1626, p1628, w1629, -⟩
      have hS1630 := hS1614.tr g1626 (by decide +kernel) (by decide +kernel)
      have c1631 : I1623 a1 4 = v3 := (g1626.cell ta1 (by decide +kernel)).trans c1615
      have w1632 : RdI a0 I0 I1623 := w1616.rd w1629
      have gd1633 := Gd.go gd1617 w1629.stick
      have b1634 : 1 ≤ v1627.toInt ∧ v1627.toInt ≤ 240 := by omega
      clear p1628
      refine tr_istore dX12_readTurner_121 (by decide) (by decide) ?_
      refine tr_aload_n dX12_readTurner_123 rfl ?_
      refine tr_ldcwS dX12_readTurner_124 ld12_325 ?_
      refine q_iconst dX12_readTurner_127 (by decide) ?_
      intro v1635 h1636
      refine q_bipush dX12_readTurner_128 (by decide +kernel) ?_
      intro v1637 h1638
      refine q_callVi hE (M' := mX12_readPart) (as := [_, _, _]) dX12_readTurner_130 lk12_249 inX12_readPart seX12_readPart myX12_readPart (by decide) ⟨by decide, by decide⟩ rfl (kR15 hS1630.1 ta0) (Nat.le_of_ble_eq_true rfl) rfl rfl (by decide) (by decide) (k_X12_readPart hS1630.1 ta0 (by decide)) ?_
      rintro v1643 cn' K' N' I1639 R1640 L1641 ⟨rfl, rfl, rfl, rfl, g1642, p1644, w1645, -⟩
      have hS1646 := hS1630.tr g1642 (by decide +kernel) (by decide +kernel)
      have c1647 : I1639 a1 4 = v3 := (g1642.cell ta1 (by decide +kernel)).trans c1631
      have w1648 : RdI a0 I0 I1639 := w1632.rd w1645
      have gd1649 := Gd.go gd1633 w1645.stick
      have b1650 : 1 ≤ v1643.toInt ∧ v1643.toInt ≤ 8 := by omega
      clear p1644
      refine tr_istore dX12_readTurner_133 (by decide) (by decide) ?_
      refine tr_aload_n dX12_readTurner_135 rfl ?_
      refine tr_ldcwS dX12_readTurner_136 ld12_327 ?_
      refine q_iconst dX12_readTurner_139 (by decide) ?_
      intro v1651 h1652
      refine q_bipush dX12_readTurner_140 (by decide +kernel) ?_
      intro v1653 h1654
      refine q_callVi hE (M' := mX12_readPart) (as := [_, _, _]) dX12_readTurner_142 lk12_249 inX12_readPart seX12_readPart myX12_readPart (by decide) ⟨by decide, by decide⟩ rfl (kR15 hS1646.1 ta0) (Nat.le_of_ble_eq_true rfl) rfl rfl (by decide) (by decide) (k_X12_readPart hS1646.1 ta0 (by decide)) ?_
      rintro v1659 cn' K' N' I1655 R1656 L1657 ⟨rfl, rfl, rfl, rfl, g1658, p1660, w1661, -⟩
      have hS1662 := hS1646.tr g1658 (by decide +kernel) (by decide +kernel)
      have c1663 : I1655 a1 4 = v3 := (g1658.cell ta1 (by decide +kernel)).trans c1647
      have w1664 : RdI a0 I0 I1655 := w1648.rd w1661
      have gd1665 := Gd.go gd1649 w1661.stick
      have b1666 : 1 ≤ v1659.toInt ∧ v1659.toInt ≤ 20 := by omega
      clear p1660
      refine tr_istore dX12_readTurner_145 (by decide) (by decide) ?_
      refine tr_aload_n dX12_readTurner_147 rfl ?_
      refine tr_ldcS dX12_readTurner_148 ld12_253 ?_
      refine q_callVv hE (M' := mX12_needs) (as := [_]) dX12_readTurner_150 lk12_157 inX12_needs seX12_needs myX12_needs (by decide) ⟨by decide, by decide⟩ rfl (kR15 hS1662.1 ta0) (Nat.le_of_ble_eq_true rfl) rfl rfl (by decide) (by decide) (k_X12_needs hS1662.1 ta0 (by decide)) ?_
      rintro cn' K' N' I1667 R1668 L1669 ⟨rfl, rfl, rfl, rfl, g1670, w1672, -⟩
      have hS1673 := hS1662.tr g1670 (by decide +kernel) (by decide +kernel)
      have c1674 : I1667 a1 4 = v3 := (g1670.cell ta1 (by decide +kernel)).trans c1663
      have w1675 : RdI a0 I0 I1667 := w1664.rd w1672
      have gd1676 := Gd.go gd1665 w1672.stick
      refine q_iconst dX12_readTurner_153 (by decide) ?_
      intro v1677 h1678
      refine tr_istore dX12_readTurner_154 (by decide) (by decide) ?_
      refine q_iconst dX12_readTurner_156 (by decide) ?_
      intro v1679 h1680
      refine tr_istore dX12_readTurner_157 (by decide) (by decide) ?_
      obtain ⟨v1698, c1699⟩ : ∃ v, I1667 a0 8 = v := ⟨_, rfl⟩
      have b1700 := iv15_8 hS1673.1 ta0 c1699
      have lp1703 : ∀ (fu : Nat) (ls : Nat → Option Value) (v1681 : Int32) (v1682 : Int32) (I1692 : cz_I) (L1693 : cz_L) (v1695 : Int32), ls 0 = some (.ref a0) → ls 1 = some (.long y26) → ls 3 = some (.int v1593) → ls 4 = some (.int v1611) → ls 5 = some (.int v1627) → ls 6 = some (.int v1643) → ls 7 = some (.int v1659) → ls 8 = some (.int v1681) → ls 9 = some (.int v1682) → St T cn K N 0 wi_X12_readTurner wr_X12_readTurner I0 R0 I1692 R0 → I1692 a0 8 = v1695 → RdI a0 I0 I1692 → 0 ≤ v1682.toInt → v1682.toInt ≤ 1 → (-v1695.toInt + v1682.toInt + 900).toNat < fu → Tr X mX12_readTurner 159 ls [] cn K N I1692 R0 L1693 0 0 := by
        intro fu
        induction fu with
        | zero => intros; rename_i hz; exact absurd hz (Nat.not_lt_zero _)
        | succ fu ih1703 =>
          intro ls v1681 v1682 I1692 L1693 v1695 hl1683 hl1684 hl1685 hl1686 hl1687 hl1688 hl1689 hl1690 hl1691 hS1694 c1696 w1697 g1701 g1702 hm1703
          have b1705 := iv15_8 hS1694.1 ta0 c1696
          refine tr_iload dX12_readTurner_159 hl1691 ?_
          refine q_if_eq 227 dX12_readTurner_161 (by decide) (fun h1706 => ?_) (fun h1706 => ?_)
          · skip
            refine tr_aload_n dX12_readTurner_227 hl1683 ?_
            obtain ⟨v1707, c1708⟩ : ∃ v, I1692 a0 9 = v := ⟨_, rfl⟩
            have b1709 := iv15_9 hS1694.1 ta0 c1708
            refine q_getI dX12_readTurner_228 fl12_99 (kR15 hS1694.1 ta0) c1708 ?_
            refine q_iconst dX12_readTurner_231 (by decide) ?_
            intro v1710 h1711
            refine q_icmp_ne 236 dX12_readTurner_232 (by decide) (fun h1712 => ?_) (fun h1712 => ?_)
            · skip
              refine tr_aload_n dX12_readTurner_236 hl1683 ?_
              refine tr_getR dX12_readTurner_237 fl12_188 (kR15 hS1694.1 ta0) d2 ?_
              obtain ⟨v1713, c1714⟩ : ∃ v, I1692 a1 4 = v := ⟨_, rfl⟩
              have b1715 := iv14_4 hS1694.1 ta1 c1714
              refine q_getI dX12_readTurner_240 fl12_315 (kR14 hS1694.1 ta1) c1714 ?_
              refine tr_istore dX12_readTurner_243 (by decide) (by decide) ?_
              refine tr_aload_n dX12_readTurner_245 hl1683 ?_
              refine tr_lload_n dX12_readTurner_246 hl1684 ?_
              refine q_iconst dX12_readTurner_247 (by decide) ?_
              intro v1716 h1717
              refine tr_iload dX12_readTurner_248 rfl ?_
              obtain ⟨v1719, c1720⟩ : ∃ v, I1692 a1 7 = v := ⟨_, rfl⟩
              have b1721 := iv14_7 hS1694.1 ta1 c1720
              obtain ⟨v1722, c1723⟩ : ∃ v, I0 a1 3 = v := ⟨_, rfl⟩
              have b1724 := iv14_3 hW0 ta1 c1723
              have p1718 := hS1694.1.2.2.2.2.1 a0 ta0 _ d2
              rw [c1720, ((hS1694.cell ta1 (by decide +kernel)).trans c1723), c1714] at p1718
              refine q_callVv hE (M' := mX12_names) (as := [_, _, _]) dX12_readTurner_250 lk12_293 inX12_names seX12_names myX12_names (by decide) ⟨by decide, by decide⟩ rfl (kR15 hS1694.1 ta0) (Nat.le_of_ble_eq_true rfl) rfl rfl (by decide) (by decide) (k_X12_names hS1694.1 ta0 (fun q0 z0 => by obtain rfl := Option.some.inj ((d2).symm.trans z0); (try rw [c1720]); (try omega)) ⟨_, d2⟩) ?_
              rintro cn' K' N' I1725 R1726 L1727 ⟨rfl, rfl, rfl, rfl, g1728, -⟩
              have hS1730 := hS1694.tr g1728 (by decide +kernel) (by decide +kernel)
              have c1731 : I1725 a0 8 = v1695 := (g1728.cell ta0 (by decide +kernel)).trans c1696
              have c1732 : I1725 a0 9 = v1707 := (g1728.cell ta0 (by decide +kernel)).trans c1708
              have c1733 : I1725 a1 4 = v1713 := (g1728.cell ta1 (by decide +kernel)).trans c1714
              have w1734 : RdI a0 I0 I1725 := w1697.keep (g1728.cell ta0 (by decide +kernel)) (g1728.cell ta0 (by decide +kernel)) (g1728.cell ta0 (by decide +kernel))
              have w1735 : EwI a0 I1692 I1725 := (EwI.rf a0 I1692).keep (g1728.cell ta0 (by decide +kernel)) (g1728.cell ta0 (by decide +kernel)) (g1728.cell ta0 (by decide +kernel))
              refine tr_aload_n dX12_readTurner_253 hl1683 ?_
              refine tr_getR dX12_readTurner_254 fl12_188 (kR15 hS1730.1 ta0) d2 ?_
              obtain ⟨a1736, d1737, ta1736⟩ := rf14_20 hW0 ta1
              refine tr_getR dX12_readTurner_257 fl12_333 (kR14 hS1730.1 ta1) d1737 ?_
              refine tr_iload dX12_readTurner_260 rfl ?_
              refine tr_iload_n dX12_readTurner_262 hl1685 ?_
              refine q_iast dX12_readTurner_263 (kR63 hS1730.1 ta1736) (ti_in (nR63 hS1730.1 ta1736) (by omega) (by omega)) hS1730 ta1736 (iokF rfl) rfl (by rfl) ?_
              intro I1738 hS1739 e1741 f1740
              have c1742 : I1738 a0 8 = v1695 := (f1740 _ _ (fun q => by have z := ta0; rw [q.1, ta1736] at z; exact absurd z (by decide))).trans c1731
              have c1743 : I1738 a0 9 = v1707 := (f1740 _ _ (fun q => by have z := ta0; rw [q.1, ta1736] at z; exact absurd z (by decide))).trans c1732
              have c1744 : I1738 a1 4 = v1713 := (f1740 _ _ (fun q => by have z := ta1; rw [q.1, ta1736] at z; exact absurd z (by decide))).trans c1733
              have w1745 : RdI a0 I0 I1738 := w1734.keep (f1740 _ _ (fun q => by have z := ta0; rw [q.1, ta1736] at z; exact absurd z (by decide))) (f1740 _ _ (fun q => by have z := ta0; rw [q.1, ta1736] at z; exact absurd z (by decide))) (f1740 _ _ (fun q => by have z := ta0; rw [q.1, ta1736] at z; exact absurd z (by decide)))
              have w1746 : EwI a0 I1692 I1738 := w1735.keep (f1740 _ _ (fun q => by have z := ta0; rw [q.1, ta1736] at z; exact absurd z (by decide))) (f1740 _ _ (fun q => by have z := ta0; rw [q.1, ta1736] at z; exact absurd z (by decide))) (f1740 _ _ (fun q => by have z := ta0; rw [q.1, ta1736] at z; exact absurd z (by decide)))
              refine tr_aload_n dX12_readTurner_264 hl1683 ?_
              refine tr_getR dX12_readTurner_265 fl12_188 (kR15 hS1739.1 ta0) d2 ?_
              obtain ⟨a1747, d1748, ta1747⟩ := rf14_21 hW0 ta1
              refine tr_getR dX12_readTurner_268 fl12_336 (kR14 hS1739.1 ta1) d1748 ?_
              refine tr_iload dX12_readTurner_271 rfl ?_
              refine tr_iload dX12_readTurner_273 hl1686 ?_
              refine q_iast dX12_readTurner_275 (kR64 hS1739.1 ta1747) (ti_in (nR64 hS1739.1 ta1747) (by omega) (by omega)) hS1739 ta1747 (iokF rfl) rfl (by rfl) ?_
              intro I1749 hS1750 e1752 f1751
              have c1753 : I1749 a0 8 = v1695 := (f1751 _ _ (fun q => by have z := ta0; rw [q.1, ta1747] at z; exact absurd z (by decide))).trans c1742
              have c1754 : I1749 a0 9 = v1707 := (f1751 _ _ (fun q => by have z := ta0; rw [q.1, ta1747] at z; exact absurd z (by decide))).trans c1743
              have c1755 : I1749 a1 4 = v1713 := (f1751 _ _ (fun q => by have z := ta1; rw [q.1, ta1747] at z; exact absurd z (by decide))).trans c1744
              have w1756 : RdI a0 I0 I1749 := w1745.keep (f1751 _ _ (fun q => by have z := ta0; rw [q.1, ta1747] at z; exact absurd z (by decide))) (f1751 _ _ (fun q => by have z := ta0; rw [q.1, ta1747] at z; exact absurd z (by decide))) (f1751 _ _ (fun q => by have z := ta0; rw [q.1, ta1747] at z; exact absurd z (by decide)))
              have w1757 : EwI a0 I1692 I1749 := w1746.keep (f1751 _ _ (fun q => by have z := ta0; rw [q.1, ta1747] at z; exact absurd z (by decide))) (f1751 _ _ (fun q => by have z := ta0; rw [q.1, ta1747] at z; exact absurd z (by decide))) (f1751 _ _ (fun q => by have z := ta0; rw [q.1, ta1747] at z; exact absurd z (by decide)))
              refine tr_aload_n dX12_readTurner_276 hl1683 ?_
              refine tr_getR dX12_readTurner_277 fl12_188 (kR15 hS1750.1 ta0) d2 ?_
              obtain ⟨a1758, d1759, ta1758⟩ := rf14_22 hW0 ta1
              refine tr_getR dX12_readTurner_280 fl12_339 (kR14 hS1750.1 ta1) d1759 ?_
              refine tr_iload dX12_readTurner_283 rfl ?_
              refine tr_iload dX12_readTurner_285 hl1687 ?_
              refine q_iast dX12_readTurner_287 (kR65 hS1750.1 ta1758) (ti_in (nR65 hS1750.1 ta1758) (by omega) (by omega)) hS1750 ta1758 (iokF rfl) rfl (by rfl) ?_
              intro I1760 hS1761 e1763 f1762
              have c1764 : I1760 a0 8 = v1695 := (f1762 _ _ (fun q => by have z := ta0; rw [q.1, ta1758] at z; exact absurd z (by decide))).trans c1753
              have c1765 : I1760 a0 9 = v1707 := (f1762 _ _ (fun q => by have z := ta0; rw [q.1, ta1758] at z; exact absurd z (by decide))).trans c1754
              have c1766 : I1760 a1 4 = v1713 := (f1762 _ _ (fun q => by have z := ta1; rw [q.1, ta1758] at z; exact absurd z (by decide))).trans c1755
              have w1767 : RdI a0 I0 I1760 := w1756.keep (f1762 _ _ (fun q => by have z := ta0; rw [q.1, ta1758] at z; exact absurd z (by decide))) (f1762 _ _ (fun q => by have z := ta0; rw [q.1, ta1758] at z; exact absurd z (by decide))) (f1762 _ _ (fun q => by have z := ta0; rw [q.1, ta1758] at z; exact absurd z (by decide)))
              have w1768 : EwI a0 I1692 I1760 := w1757.keep (f1762 _ _ (fun q => by have z := ta0; rw [q.1, ta1758] at z; exact absurd z (by decide))) (f1762 _ _ (fun q => by have z := ta0; rw [q.1, ta1758] at z; exact absurd z (by decide))) (f1762 _ _ (fun q => by have z := ta0; rw [q.1, ta1758] at z; exact absurd z (by decide)))
              refine tr_aload_n dX12_readTurner_288 hl1683 ?_
              refine tr_getR dX12_readTurner_289 fl12_188 (kR15 hS1761.1 ta0) d2 ?_
              obtain ⟨a1769, d1770, ta1769⟩ := rf14_23 hW0 ta1
              refine tr_getR dX12_readTurner_292 fl12_342 (kR14 hS1761.1 ta1) d1770 ?_
              refine tr_iload dX12_readTurner_295 rfl ?_
              refine tr_iload dX12_readTurner_297 hl1688 ?_
              refine q_iast dX12_readTurner_299 (kR66 hS1761.1 ta1769) (ti_in (nR66 hS1761.1 ta1769) (by omega) (by omega)) hS1761 ta1769 (iokF rfl) rfl (by rfl) ?_
              intro I1771 hS1772 e1774 f1773
              have c1775 : I1771 a0 8 = v1695 := (f1773 _ _ (fun q => by have z := ta0; rw [q.1, ta1769] at z; exact absurd z (by decide))).trans c1764
              have c1776 : I1771 a0 9 = v1707 := (f1773 _ _ (fun q => by have z := ta0; rw [q.1, ta1769] at z; exact absurd z (by decide))).trans c1765
              have c1777 : I1771 a1 4 = v1713 := (f1773 _ _ (fun q => by have z := ta1; rw [q.1, ta1769] at z; exact absurd z (by decide))).trans c1766
              have w1778 : RdI a0 I0 I1771 := w1767.keep (f1773 _ _ (fun q => by have z := ta0; rw [q.1, ta1769] at z; exact absurd z (by decide))) (f1773 _ _ (fun q => by have z := ta0; rw [q.1, ta1769] at z; exact absurd z (by decide))) (f1773 _ _ (fun q => by have z := ta0; rw [q.1, ta1769] at z; exact absurd z (by decide)))
              have w1779 : EwI a0 I1692 I1771 := w1768.keep (f1773 _ _ (fun q => by have z := ta0; rw [q.1, ta1769] at z; exact absurd z (by decide))) (f1773 _ _ (fun q => by have z := ta0; rw [q.1, ta1769] at z; exact absurd z (by decide))) (f1773 _ _ (fun q => by have z := ta0; rw [q.1, ta1769] at z; exact absurd z (by decide)))
              refine tr_aload_n dX12_readTurner_300 hl1683 ?_
              refine tr_getR dX12_readTurner_301 fl12_188 (kR15 hS1772.1 ta0) d2 ?_
              obtain ⟨a1780, d1781, ta1780⟩ := rf14_24 hW0 ta1
              refine tr_getR dX12_readTurner_304 fl12_344 (kR14 hS1772.1 ta1) d1781 ?_
              refine tr_iload dX12_readTurner_307 rfl ?_
              refine tr_iload dX12_readTurner_309 hl1689 ?_
              refine q_iast dX12_readTurner_311 (kR67 hS1772.1 ta1780) (ti_in (nR67 hS1772.1 ta1780) (by omega) (by omega)) hS1772 ta1780 (iokF rfl) rfl (by rfl) ?_
              intro I1782 hS1783 e1785 f1784
              have c1786 : I1782 a0 8 = v1695 := (f1784 _ _ (fun q => by have z := ta0; rw [q.1, ta1780] at z; exact absurd z (by decide))).trans c1775
              have c1787 : I1782 a0 9 = v1707 := (f1784 _ _ (fun q => by have z := ta0; rw [q.1, ta1780] at z; exact absurd z (by decide))).trans c1776
              have c1788 : I1782 a1 4 = v1713 := (f1784 _ _ (fun q => by have z := ta1; rw [q.1, ta1780] at z; exact absurd z (by decide))).trans c1777
              have w1789 : RdI a0 I0 I1782 := w1778.keep (f1784 _ _ (fun q => by have z := ta0; rw [q.1, ta1780] at z; exact absurd z (by decide))) (f1784 _ _ (fun q => by have z := ta0; rw [q.1, ta1780] at z; exact absurd z (by decide))) (f1784 _ _ (fun q => by have z := ta0; rw [q.1, ta1780] at z; exact absurd z (by decide)))
              have w1790 : EwI a0 I1692 I1782 := w1779.keep (f1784 _ _ (fun q => by have z := ta0; rw [q.1, ta1780] at z; exact absurd z (by decide))) (f1784 _ _ (fun q => by have z := ta0; rw [q.1, ta1780] at z; exact absurd z (by decide))) (f1784 _ _ (fun q => by have z := ta0; rw [q.1, ta1780] at z; exact absurd z (by decide)))
              refine tr_aload_n dX12_readTurner_312 hl1683 ?_
              refine tr_getR dX12_readTurner_313 fl12_188 (kR15 hS1783.1 ta0) d2 ?_
              obtain ⟨a1791, d1792, ta1791⟩ := rf14_25 hW0 ta1
              refine tr_getR dX12_readTurner_316 fl12_346 (kR14 hS1783.1 ta1) d1792 ?_
              refine tr_iload dX12_readTurner_319 rfl ?_
              refine tr_iload dX12_readTurner_321 hl1690 ?_
              refine q_iast dX12_readTurner_323 (kR68 hS1783.1 ta1791) (ti_in (nR68 hS1783.1 ta1791) (by omega) (by omega)) hS1783 ta1791 (iokF rfl) rfl (by rfl) ?_
              intro I1793 hS1794 e1796 f1795
              have c1797 : I1793 a0 8 = v1695 := (f1795 _ _ (fun q => by have z := ta0; rw [q.1, ta1791] at z; exact absurd z (by decide))).trans c1786
              have c1798 : I1793 a0 9 = v1707 := (f1795 _ _ (fun q => by have z := ta0; rw [q.1, ta1791] at z; exact absurd z (by decide))).trans c1787
              have c1799 : I1793 a1 4 = v1713 := (f1795 _ _ (fun q => by have z := ta1; rw [q.1, ta1791] at z; exact absurd z (by decide))).trans c1788
              have w1800 : RdI a0 I0 I1793 := w1789.keep (f1795 _ _ (fun q => by have z := ta0; rw [q.1, ta1791] at z; exact absurd z (by decide))) (f1795 _ _ (fun q => by have z := ta0; rw [q.1, ta1791] at z; exact absurd z (by decide))) (f1795 _ _ (fun q => by have z := ta0; rw [q.1, ta1791] at z; exact absurd z (by decide)))
              have w1801 : EwI a0 I1692 I1793 := w1790.keep (f1795 _ _ (fun q => by have z := ta0; rw [q.1, ta1791] at z; exact absurd z (by decide))) (f1795 _ _ (fun q => by have z := ta0; rw [q.1, ta1791] at z; exact absurd z (by decide))) (f1795 _ _ (fun q => by have z := ta0; rw [q.1, ta1791] at z; exact absurd z (by decide)))
              refine tr_aload_n dX12_readTurner_324 hl1683 ?_
              refine tr_getR dX12_readTurner_325 fl12_188 (kR15 hS1794.1 ta0) d2 ?_
              refine tr_dup dX12_readTurner_328 rfl ?_
              refine q_getI dX12_readTurner_329 fl12_315 (kR14 hS1794.1 ta1) c1799 ?_
              refine q_iconst dX12_readTurner_332 (by decide) ?_
              intro v1802 h1803
              refine q_iaddE dX12_readTurner_333 (by intros; omega) ?_
              intro v1804 h1805
              refine q_putX dX12_readTurner_334 fl12_315 (kR14 hS1794.1 ta1) (Or.inl rfl) hS1794 ta1 (by decide +kernel) (hS1794.1.putN (d' := 0) ta0 d2 (Or.inr (Or.inr rfl)) (by rw [c1799]; omega) (by decide) (by show (0 : Int) ≤ v1804.toInt ∧ v1804.toInt ≤ (5 : Int); omega)) ?_
              intro I1806 hS1807 e1808 f1809
              have c1810 : I1806 a0 8 = v1695 := (f1809 _ _ (fun q => absurd q.2 (by decide))).trans c1797
              have c1811 : I1806 a0 9 = v1707 := (f1809 _ _ (fun q => absurd q.2 (by decide))).trans c1798
              have w1812 : RdI a0 I0 I1806 := w1800.keep (f1809 _ _ (fun q => absurd q.2 (by decide))) (f1809 _ _ (fun q => absurd q.2 (by decide))) (f1809 _ _ (fun q => absurd q.2 (by decide)))
              have w1813 : EwI a0 I1692 I1806 := w1801.keep (f1809 _ _ (fun q => absurd q.2 (by decide))) (f1809 _ _ (fun q => absurd q.2 (by decide))) (f1809 _ _ (fun q => absurd q.2 (by decide)))
              exact tr_vret hZ dX12_readTurner_337 rfl (by decide) (by decide) ⟨rfl, rfl, rfl, rfl, rfl, hS1807, w1812, trivial⟩
            · skip
              exact tr_vret hZ dX12_readTurner_235 rfl (by decide) (by decide) ⟨rfl, rfl, rfl, rfl, rfl, hS1694, w1697, trivial⟩
          · skip
            refine tr_aload_n dX12_readTurner_164 hl1683 ?_
            obtain ⟨v1814, c1815⟩ : ∃ v, I1692 a0 9 = v := ⟨_, rfl⟩
            have b1816 := iv15_9 hS1694.1 ta0 c1815
            refine q_getI dX12_readTurner_165 fl12_99 (kR15 hS1694.1 ta0) c1815 ?_
            refine q_iconst dX12_readTurner_168 (by decide) ?_
            intro v1817 h1818
            refine q_icmp_eq 227 dX12_readTurner_169 (by decide) (fun h1819 => ?_) (fun h1819 => ?_)
            · skip
              refine tr_aload_n dX12_readTurner_227 hl1683 ?_
              refine q_getI dX12_readTurner_228 fl12_99 (kR15 hS1694.1 ta0) c1815 ?_
              refine q_iconst dX12_readTurner_231 (by decide) ?_
              intro v1820 h1821
              refine q_icmp_ne 236 dX12_readTurner_232 (by decide) (fun h1822 => ?_) (fun h1822 => ?_)
              · skip
                exfalso; omega
              · skip
                exact tr_vret hZ dX12_readTurner_235 rfl (by decide) (by decide) ⟨rfl, rfl, rfl, rfl, rfl, hS1694, w1697, trivial⟩
            · skip
              refine tr_aload_n dX12_readTurner_172 hl1683 ?_
              refine q_iconst dX12_readTurner_173 (by decide) ?_
              intro v1823 h1824
              refine tr_aload_n dX12_readTurner_174 hl1683 ?_
              refine tr_getR dX12_readTurner_175 fl12_188 (kR15 hS1694.1 ta0) d2 ?_
              obtain ⟨v1825, c1826⟩ : ∃ v, I0 a1 1 = v := ⟨_, rfl⟩
              have b1827 := iv14_1 hW0 ta1 c1826
              refine q_getI dX12_readTurner_178 fl12_263 (kR14 hS1694.1 ta1) ((hS1694.cell ta1 (by decide +kernel)).trans c1826) ?_
              refine q_iconst dX12_readTurner_181 (by decide) ?_
              intro v1828 h1829
              refine q_isubE dX12_readTurner_182 (by intros; omega) ?_
              intro v1830 h1831
              refine q_callVi hE (M' := mX12_bounded) (as := [_, _]) dX12_readTurner_183 lk12_153 inX12_bounded seX12_bounded myX12_bounded (by decide) ⟨by decide, by decide⟩ rfl (kR15 hS1694.1 ta0) (Nat.le_of_ble_eq_true rfl) rfl rfl (by decide) (by decide) (k_X12_bounded hS1694.1 ta0) ?_
              rintro v1836 cn' K' N' I1832 R1833 L1834 ⟨rfl, rfl, rfl, rfl, rfl, g1835, p1837, p1838, w1839, -⟩
              have hS1840 := hS1694.tr g1835 (by decide +kernel) (by decide +kernel)
              have c1841 : I1832 a0 8 = v1695 := (g1835.cell ta0 (by decide +kernel)).trans c1696
              have w1842 : RdI a0 I0 I1832 := w1697.ew w1839
              have w1843 : EwI a0 I1692 I1832 := (EwI.rf a0 I1692).ew w1839
              have b1844 : 0 ≤ v1836.toInt ∧ v1836.toInt ≤ 3 := by omega
              clear p1837
              obtain ⟨v1845, c1846⟩ : ∃ v, I1832 a0 9 = v := ⟨_, rfl⟩
              have b1847 := iv15_9 hS1840.1 ta0 c1846
              have gd1848 : Gd (I1832 a0 9) ((v1823.toInt ≤ v1836.toInt ∧ v1836.toInt ≤ v1830.toInt)) := p1838
              clear p1838
              refine tr_istore dX12_readTurner_186 (by decide) (by decide) ?_
              refine tr_iload dX12_readTurner_188 hl1690 ?_
              refine tr_iload dX12_readTurner_190 rfl ?_
              refine q_callSi hE (M' := mX12_has) (as := [_, _]) dX12_readTurner_192 lk12_329 inX12_has myX12_has ⟨by decide, by decide⟩ rfl (Nat.le_of_ble_eq_true rfl) rfl rfl (by decide) (by decide) (k_X12_has hS1840.1 ) ?_
              rintro v1853 cn' K' N' I1849 R1850 L1851 ⟨rfl, rfl, rfl, rfl, rfl, rfl, h1854, -⟩
              refine q_if_eq 203 dX12_readTurner_195 (by decide) (fun h1855 => ?_) (fun h1855 => ?_)
              · skip
                refine tr_aload_n dX12_readTurner_203 hl1683 ?_
                obtain ⟨v1856, c1857⟩ : ∃ v, I1832 a0 13 = v := ⟨_, rfl⟩
                refine q_callVv hE (M' := mX12_goesOn) (as := []) dX12_readTurner_204 lk12_142 inX12_goesOn seX12_goesOn myX12_goesOn (by decide) ⟨by decide, by decide⟩ rfl (kR15 hS1840.1 ta0) (Nat.le_of_ble_eq_true rfl) rfl rfl (by decide) (by decide) (k_X12_goesOn hS1840.1 ta0) ?_
                rintro cn' K' N' I1858 R1859 L1860 ⟨rfl, rfl, rfl, rfl, g1861, p1863, p1864, w1865, -⟩
                have hS1866 := hS1840.tr g1861 (by decide +kernel) (by decide +kernel)
                have c1867 : I1858 a0 13 = v1856 := (g1861.cell ta0 (by decide +kernel)).trans c1857
                have w1868 : RdI a0 I0 I1858 := w1842.rd w1865
                have w1869 : RdI a0 I1692 I1858 := w1843.rd w1865
                have gd1870 := Gd.go gd1848 w1865.stick
                obtain ⟨v1871, c1872⟩ : ∃ v, I1858 a0 9 = v := ⟨_, rfl⟩
                have b1873 := iv15_9 hS1866.1 ta0 c1872
                rw [c1846] at p1863
                rw [c1872] at p1863
                obtain ⟨v1874, c1875⟩ : ∃ v, I1858 a0 8 = v := ⟨_, rfl⟩
                have b1876 := iv15_8 hS1866.1 ta0 c1875
                rw [c1875] at p1864
                rw [c1841] at p1864
                rw [c1867] at p1864
                rw [c1857] at p1864
                refine tr_iload dX12_readTurner_207 hl1690 ?_
                refine q_iconst dX12_readTurner_209 (by decide) ?_
                intro v1877 h1878
                refine tr_iload dX12_readTurner_210 rfl ?_
                refine q_ishlE dX12_readTurner_212 (by omega) (by omega) ?_
                intro v1879 h1880
                refine q_ior dX12_readTurner_213 ?_
                intro v1881
                refine tr_istore dX12_readTurner_214 (by decide) (by decide) ?_
                refine tr_aload_n dX12_readTurner_216 hl1683 ?_
                refine q_bipush dX12_readTurner_217 (by decide +kernel) ?_
                intro v1882 h1883
                have z1884 := w1869.2.2.1
                (try rw [c1696] at z1884)
                (try rw [c1875] at z1884)
                (try rw [c1872] at z1884)
                refine q_callVi hE (M' := mX12_eatsSign) (as := [_]) dX12_readTurner_219 lk12_221 inX12_eatsSign seX12_eatsSign myX12_eatsSign (by decide) ⟨by decide, by decide⟩ rfl (kR15 hS1866.1 ta0) (Nat.le_of_ble_eq_true rfl) rfl rfl (by decide) (by decide) (k_X12_eatsSign hS1866.1 ta0) ?_
                rintro v1889 cn' K' N' I1885 R1886 L1887 ⟨rfl, rfl, rfl, rfl, g1888, h1890, p1891, p1892, w1893, -⟩
                have hS1894 := hS1866.tr g1888 (by decide +kernel) (by decide +kernel)
                have c1895 : I1885 a0 13 = v1856 := (g1888.cell ta0 (by decide +kernel)).trans c1867
                have w1896 : RdI a0 I0 I1885 := w1868.ew w1893
                have w1897 : RdI a0 I1692 I1885 := w1869.ew w1893
                have gd1898 := Gd.go gd1870 w1893.stick
                rw [c1872] at p1891
                obtain ⟨v1899, c1900⟩ : ∃ v, I1885 a0 8 = v := ⟨_, rfl⟩
                have b1901 := iv15_8 hS1894.1 ta0 c1900
                rw [c1900] at p1892
                rw [c1875] at p1892
                refine tr_istore dX12_readTurner_222 (by decide) (by decide) ?_
                refine tr_goto 159 dX12_readTurner_224 (by decide) ?_
                exact ih1703 _ v1881 v1889 I1885 L1887 v1899 hl1683 hl1684 hl1685 hl1686 hl1687 hl1688 hl1689 rfl rfl hS1894 c1900 w1896 (by omega) (by omega) (by omega)
              · skip
                refine tr_aload_n dX12_readTurner_198 hl1683 ?_
                refine q_iconst dX12_readTurner_199 (by decide) ?_
                intro v1902 h1903
                refine q_callVv hE (M' := mX12_flaw) (as := [_]) dX12_readTurner_200 lk12_145 inX12_flaw seX12_flaw myX12_flaw (by decide) ⟨by decide, by decide⟩ rfl (kR15 hS1840.1 ta0) (Nat.le_of_ble_eq_true rfl) rfl rfl (by decide) (by decide) (k_X12_flaw hS1840.1 ta0 (by omega)) ?_
                rintro cn' K' N' I1904 R1905 L1906 ⟨rfl, rfl, rfl, rfl, rfl, g1907, p1909, p1910, w1911, -⟩
                have hS1912 := hS1840.tr g1907 (by decide +kernel) (by decide +kernel)
                have c1913 : I1904 a0 8 = v1695 := (g1907.cell ta0 (by decide +kernel)).trans c1841
                have w1914 : RdI a0 I0 I1904 := w1842.rd w1911
                have w1915 : RdI a0 I1692 I1904 := w1843.rd w1911
                have gd1916 := Gd.go gd1848 w1911.stick
                obtain ⟨v1917, c1918⟩ : ∃ v, I1904 a0 9 = v := ⟨_, rfl⟩
                have b1919 := iv15_9 hS1912.1 ta0 c1918
                rw [c1918] at p1909
                rw [c1913] at p1910
                rw [c1841] at p1910
                refine tr_aload_n dX12_readTurner_203 hl1683 ?_
                obtain ⟨v1920, c1921⟩ : ∃ v, I1904 a0 13 = v := ⟨_, rfl⟩
                refine q_callVv hE (M' := mX12_goesOn) (as := []) dX12_readTurner_204 lk12_142 inX12_goesOn seX12_goesOn myX12_goesOn (by decide) ⟨by decide, by decide⟩ rfl (kR15 hS1912.1 ta0) (Nat.le_of_ble_eq_true rfl) rfl rfl (by decide) (by decide) (k_X12_goesOn hS1912.1 ta0) ?_
                rintro cn' K' N' I1922 R1923 L1924 ⟨rfl, rfl, rfl, rfl, g1925, p1927, p1928, w1929, -⟩
                have hS1930 := hS1912.tr g1925 (by decide +kernel) (by decide +kernel)
                have c1931 : I1922 a0 13 = v1920 := (g1925.cell ta0 (by decide +kernel)).trans c1921
                have w1932 : RdI a0 I0 I1922 := w1914.rd w1929
                have w1933 : RdI a0 I1692 I1922 := w1915.rd w1929
                have gd1934 := Gd.go gd1916 w1929.stick
                obtain ⟨v1935, c1936⟩ : ∃ v, I1922 a0 9 = v := ⟨_, rfl⟩
                have b1937 := iv15_9 hS1930.1 ta0 c1936
                rw [c1918] at p1927
                rw [c1936] at p1927
                obtain ⟨v1938, c1939⟩ : ∃ v, I1922 a0 8 = v := ⟨_, rfl⟩
                have b1940 := iv15_8 hS1930.1 ta0 c1939
                rw [c1939] at p1928
                rw [c1913] at p1928
                rw [c1931] at p1928
                rw [c1921] at p1928
                refine tr_iload dX12_readTurner_207 hl1690 ?_
                refine q_iconst dX12_readTurner_209 (by decide) ?_
                intro v1941 h1942
                refine tr_iload dX12_readTurner_210 rfl ?_
                refine q_ishlE dX12_readTurner_212 (by omega) (by omega) ?_
                intro v1943 h1944
                refine q_ior dX12_readTurner_213 ?_
                intro v1945
                refine tr_istore dX12_readTurner_214 (by decide) (by decide) ?_
                refine tr_aload_n dX12_readTurner_216 hl1683 ?_
                refine q_bipush dX12_readTurner_217 (by decide +kernel) ?_
                intro v1946 h1947
                have z1948 := w1933.2.2.1
                (try rw [c1696] at z1948)
                (try rw [c1939] at z1948)
                (try rw [c1936] at z1948)
                refine q_callVi hE (M' := mX12_eatsSign) (as := [_]) dX12_readTurner_219 lk12_221 inX12_eatsSign seX12_eatsSign myX12_eatsSign (by decide) ⟨by decide, by decide⟩ rfl (kR15 hS1930.1 ta0) (Nat.le_of_ble_eq_true rfl) rfl rfl (by decide) (by decide) (k_X12_eatsSign hS1930.1 ta0) ?_
                rintro v1953 cn' K' N' I1949 R1950 L1951 ⟨rfl, rfl, rfl, rfl, g1952, h1954, p1955, p1956, w1957, -⟩
                have hS1958 := hS1930.tr g1952 (by decide +kernel) (by decide +kernel)
                have c1959 : I1949 a0 13 = v1920 := (g1952.cell ta0 (by decide +kernel)).trans c1931
                have w1960 : RdI a0 I0 I1949 := w1932.ew w1957
                have w1961 : RdI a0 I1692 I1949 := w1933.ew w1957
                have gd1962 := Gd.go gd1934 w1957.stick
                rw [c1936] at p1955
                obtain ⟨v1963, c1964⟩ : ∃ v, I1949 a0 8 = v := ⟨_, rfl⟩
                have b1965 := iv15_8 hS1958.1 ta0 c1964
                rw [c1964] at p1956
                rw [c1939] at p1956
                refine tr_istore dX12_readTurner_222 (by decide) (by decide) ?_
                refine tr_goto 159 dX12_readTurner_224 (by decide) ?_
                exact ih1703 _ v1945 v1953 I1949 L1951 v1963 hl1683 hl1684 hl1685 hl1686 hl1687 hl1688 hl1689 rfl rfl hS1958 c1964 w1960 (by omega) (by omega) (by omega)
      exact lp1703 _ _ v1677 v1679 I1667 L1669 v1698 rfl rfl rfl rfl rfl rfl rfl rfl rfl hS1673 c1699 w1675 (by omega) (by omega) (Nat.lt_succ_self _)
    · skip
      exfalso; omega
