def wi_X12_bounded : List Nat := [969, 973, 974]
def wr_X12_bounded : List Nat := []
set_option maxHeartbeats 4000000 in
theorem k_X12_bounded {l : Launch} {T : Nat → Nat} {cn : Nat} {K N : Nat → Nat} {I0 : cz_I} {R0 : cz_R} {L0 : cz_L} {d : Int} (hW0 : Wf T cn K N I0 R0 d) {a0 : Nat} (ta0 : T a0 = 15) {x1 : Int32} {x2 : Int32} : ConE l mX12_bounded [.ref a0, .int x1, .int x2] cn K N I0 R0 L0 (ca_i (fun v cn' K' N' I' R' L' => cn = cn' ∧ K = K' ∧ N = N' ∧ R0 = R' ∧ L0 = L' ∧ St T cn K N d wi_X12_bounded wr_X12_bounded I0 R0 I' R0 ∧ ((v.toInt = x1.toInt ∨ (x1.toInt ≤ v.toInt ∧ v.toInt ≤ x2.toInt))) ∧ (((I' a0 9).toInt ≠ 5 → (x1.toInt ≤ v.toInt ∧ v.toInt ≤ x2.toInt))) ∧ EwI a0 I0 I' ∧ True)) := by
  refine ConE.of (by decide +kernel) rfl (Nat.le_of_ble_eq_true rfl) rfl (fun X hX hZ hE => ?_)
  subst hX
  have hS0 : St T cn K N d wi_X12_bounded wr_X12_bounded I0 R0 I0 R0 := St.rf0 hW0
  refine tr_aload_n dX12_bounded_0 rfl ?_
  obtain ⟨v1, c2⟩ : ∃ v, I0 a0 9 = v := ⟨_, rfl⟩
  have b3 := iv15_9 hS0.1 ta0 c2
  refine q_getI dX12_bounded_1 fl12_99 (kR15 hS0.1 ta0) c2 ?_
  refine q_iconst dX12_bounded_4 (by decide) ?_
  intro v4 h5
  refine q_icmp_eq 16 dX12_bounded_5 (by decide) (fun h6 => ?_) (fun h6 => ?_)
  · skip
    refine tr_aload_n dX12_bounded_16 rfl ?_
    obtain ⟨v7, c8⟩ : ∃ v, I0 a0 12 = v := ⟨_, rfl⟩
    refine q_getI dX12_bounded_17 fl12_125 (kR15 hS0.1 ta0) c8 ?_
    refine tr_iload_n dX12_bounded_20 rfl ?_
    refine tr_iload_n dX12_bounded_21 rfl ?_
    refine q_callSi hE (M' := mX12_in) (as := [_, _, _]) dX12_bounded_22 lk12_149 inX12_in myX12_in ⟨by decide, by decide⟩ rfl (Nat.le_of_ble_eq_true rfl) rfl rfl (by decide) (by decide) (k_X12_in hS0.1 ) ?_
    rintro v13 cn' K' N' I9 R10 L11 ⟨rfl, rfl, rfl, rfl, rfl, rfl, h14, p15, p16, -⟩
    refine q_if_ne 33 dX12_bounded_25 (by decide) (fun h17 => ?_) (fun h17 => ?_)
    · skip
      refine tr_aload_n dX12_bounded_33 rfl ?_
      refine q_getI dX12_bounded_34 fl12_99 (kR15 hS0.1 ta0) c2 ?_
      refine q_iconst dX12_bounded_37 (by decide) ?_
      intro v18 h19
      refine q_icmp_ne 45 dX12_bounded_38 (by decide) (fun h20 => ?_) (fun h20 => ?_)
      · skip
        refine tr_aload_n dX12_bounded_45 rfl ?_
        refine q_getI dX12_bounded_46 fl12_125 (kR15 hS0.1 ta0) c8 ?_
        exact tr_iret hZ dX12_bounded_49 rfl (by decide) (by decide) ⟨v7, rfl, rfl, rfl, rfl, rfl, rfl, hS0, (by omega), (by (try rw [c2]); (try omega)), (EwI.rf a0 I0), trivial⟩
      · skip
        exfalso; omega
    · skip
      refine tr_aload_n dX12_bounded_28 rfl ?_
      refine q_iconst dX12_bounded_29 (by decide) ?_
      intro v21 h22
      obtain ⟨v23, c24⟩ : ∃ v, I0 a0 8 = v := ⟨_, rfl⟩
      have b25 := iv15_8 hW0 ta0 c24
      refine q_callVv hE (M' := mX12_flaw) (as := [_]) dX12_bounded_30 lk12_145 inX12_flaw seX12_flaw myX12_flaw (by decide) ⟨by decide, by decide⟩ rfl (kR15 hS0.1 ta0) (Nat.le_of_ble_eq_true rfl) rfl rfl (by decide) (by decide) (k_X12_flaw hS0.1 ta0 (by omega)) ?_
      rintro cn' K' N' I26 R27 L28 ⟨rfl, rfl, rfl, rfl, rfl, g29, p31, p32, w33, -⟩
      have hS34 := hS0.tr g29 (by decide +kernel) (by decide +kernel)
      have w35 : RdI a0 I0 I26 := (EwI.rf a0 I0).rd w33
      obtain ⟨v36, c37⟩ : ∃ v, I26 a0 9 = v := ⟨_, rfl⟩
      have b38 := iv15_9 hS34.1 ta0 c37
      rw [c37] at p31
      rw [((hS34.cell ta0 (by decide +kernel)).trans c24)] at p32
      rw [c24] at p32
      refine tr_aload_n dX12_bounded_33 rfl ?_
      refine q_getI dX12_bounded_34 fl12_99 (kR15 hS34.1 ta0) c37 ?_
      refine q_iconst dX12_bounded_37 (by decide) ?_
      intro v39 h40
      refine q_icmp_ne 45 dX12_bounded_38 (by decide) (fun h41 => ?_) (fun h41 => ?_)
      · skip
        exfalso; omega
      · skip
        refine tr_iload_n dX12_bounded_41 rfl ?_
        refine tr_goto 49 dX12_bounded_42 (by decide) ?_
        exact tr_iret hZ dX12_bounded_49 rfl (by decide) (by decide) ⟨x1, rfl, rfl, rfl, rfl, rfl, rfl, hS34, (by omega), (by (try rw [c37]); (try omega)), (Or.inr w35), trivial⟩
  · skip
    refine tr_aload_n dX12_bounded_8 rfl ?_
    refine q_iconst dX12_bounded_9 (by decide) ?_
    intro v42 h43
    obtain ⟨v44, c45⟩ : ∃ v, I0 a0 8 = v := ⟨_, rfl⟩
    have b46 := iv15_8 hW0 ta0 c45
    refine q_callVv hE (M' := mX12_flaw) (as := [_]) dX12_bounded_10 lk12_145 inX12_flaw seX12_flaw myX12_flaw (by decide) ⟨by decide, by decide⟩ rfl (kR15 hS0.1 ta0) (Nat.le_of_ble_eq_true rfl) rfl rfl (by decide) (by decide) (k_X12_flaw hS0.1 ta0 (by omega)) ?_
    rintro cn' K' N' I47 R48 L49 ⟨rfl, rfl, rfl, rfl, rfl, g50, p52, p53, w54, -⟩
    have hS55 := hS0.tr g50 (by decide +kernel) (by decide +kernel)
    have w56 : RdI a0 I0 I47 := (EwI.rf a0 I0).rd w54
    obtain ⟨v57, c58⟩ : ∃ v, I47 a0 9 = v := ⟨_, rfl⟩
    have b59 := iv15_9 hS55.1 ta0 c58
    rw [c58] at p52
    rw [((hS55.cell ta0 (by decide +kernel)).trans c45)] at p53
    rw [c45] at p53
    refine tr_goto 33 dX12_bounded_13 (by decide) ?_
    refine tr_aload_n dX12_bounded_33 rfl ?_
    refine q_getI dX12_bounded_34 fl12_99 (kR15 hS55.1 ta0) c58 ?_
    refine q_iconst dX12_bounded_37 (by decide) ?_
    intro v60 h61
    refine q_icmp_ne 45 dX12_bounded_38 (by decide) (fun h62 => ?_) (fun h62 => ?_)
    · skip
      exfalso; omega
    · skip
      refine tr_iload_n dX12_bounded_41 rfl ?_
      refine tr_goto 49 dX12_bounded_42 (by decide) ?_
      exact tr_iret hZ dX12_bounded_49 rfl (by decide) (by decide) ⟨x1, rfl, rfl, rfl, rfl, rfl, rfl, hS55, (by omega), (by (try rw [c58]); (try omega)), (Or.inr w56), trivial⟩
def wi_X12_eatsSign : List Nat := [968, 969, 970, 971, 972]
def wr_X12_eatsSign : List Nat := []
set_option maxHeartbeats 4000000 in
theorem k_X12_eatsSign {l : Launch} {T : Nat → Nat} {cn : Nat} {K N : Nat → Nat} {I0 : cz_I} {R0 : cz_R} {L0 : cz_L} {d : Int} (hW0 : Wf T cn K N I0 R0 d) {a0 : Nat} (ta0 : T a0 = 15) {x1 : Int32} : ConE l mX12_eatsSign [.ref a0, .int x1] cn K N I0 R0 L0 (ca_i (fun v cn' K' N' I' R' L' => cn = cn' ∧ K = K' ∧ N = N' ∧ R0 = R' ∧ St T cn K N d wi_X12_eatsSign wr_X12_eatsSign I0 R0 I' R0 ∧ (0 ≤ v.toInt ∧ v.toInt ≤ 1) ∧ ((v.toInt = 1 → (I0 a0 9).toInt = 4)) ∧ ((I' a0 8).toInt ≥ (I0 a0 8).toInt) ∧ EwI a0 I0 I' ∧ True)) := by
  refine ConE.of (by decide +kernel) rfl (Nat.le_of_ble_eq_true rfl) rfl (fun X hX hZ hE => ?_)
  subst hX
  have hS0 : St T cn K N d wi_X12_eatsSign wr_X12_eatsSign I0 R0 I0 R0 := St.rf0 hW0
  obtain ⟨v1, c2⟩ : ∃ v, I0 a0 9 = v := ⟨_, rfl⟩
  have b3 := iv15_9 hS0.1 ta0 c2
  obtain ⟨v4, c5⟩ : ∃ v, I0 a0 8 = v := ⟨_, rfl⟩
  have b6 := iv15_8 hS0.1 ta0 c5
  refine tr_aload_n dX12_eatsSign_0 rfl ?_
  refine q_getI dX12_eatsSign_1 fl12_99 (kR15 hS0.1 ta0) c2 ?_
  refine q_iconst dX12_eatsSign_4 (by decide) ?_
  intro v7 h8
  refine q_icmp_ne 20 dX12_eatsSign_5 (by decide) (fun h9 => ?_) (fun h9 => ?_)
  · skip
    refine q_iconst dX12_eatsSign_20 (by decide) ?_
    intro v10 h11
    refine tr_istore_n dX12_eatsSign_21 (by decide) (by decide) ?_
    refine tr_iload_n dX12_eatsSign_22 rfl ?_
    refine q_if_eq 30 dX12_eatsSign_23 (by decide) (fun h12 => ?_) (fun h12 => ?_)
    · skip
      refine tr_iload_n dX12_eatsSign_30 rfl ?_
      exact tr_zret hZ dX12_eatsSign_31 rfl (ti_b01 (by omega) (by omega)) (by decide) (by decide) ⟨v10, rfl, rfl, rfl, rfl, rfl, hS0, (by omega), (by (try rw [c2]); (try omega)), (by (try rw [c5]); (try omega)), (EwI.rf a0 I0), trivial⟩
    · skip
      exfalso; omega
  · skip
    refine tr_aload_n dX12_eatsSign_8 rfl ?_
    obtain ⟨v13, c14⟩ : ∃ v, I0 a0 11 = v := ⟨_, rfl⟩
    refine q_getI dX12_eatsSign_9 fl12_111 (kR15 hS0.1 ta0) c14 ?_
    refine tr_iload_n dX12_eatsSign_12 rfl ?_
    refine q_icmp_ne 20 dX12_eatsSign_13 (by decide) (fun h15 => ?_) (fun h15 => ?_)
    · skip
      refine q_iconst dX12_eatsSign_20 (by decide) ?_
      intro v16 h17
      refine tr_istore_n dX12_eatsSign_21 (by decide) (by decide) ?_
      refine tr_iload_n dX12_eatsSign_22 rfl ?_
      refine q_if_eq 30 dX12_eatsSign_23 (by decide) (fun h18 => ?_) (fun h18 => ?_)
      · skip
        refine tr_iload_n dX12_eatsSign_30 rfl ?_
        exact tr_zret hZ dX12_eatsSign_31 rfl (ti_b01 (by omega) (by omega)) (by decide) (by decide) ⟨v16, rfl, rfl, rfl, rfl, rfl, hS0, (by omega), (by (try rw [c2]); (try omega)), (by (try rw [c5]); (try omega)), (EwI.rf a0 I0), trivial⟩
      · skip
        exfalso; omega
    · skip
      refine q_iconst dX12_eatsSign_16 (by decide) ?_
      intro v19 h20
      refine tr_goto 21 dX12_eatsSign_17 (by decide) ?_
      refine tr_istore_n dX12_eatsSign_21 (by decide) (by decide) ?_
      refine tr_iload_n dX12_eatsSign_22 rfl ?_
      refine q_if_eq 30 dX12_eatsSign_23 (by decide) (fun h21 => ?_) (fun h21 => ?_)
      · skip
        exfalso; omega
      · skip
        refine tr_aload_n dX12_eatsSign_26 rfl ?_
        obtain ⟨v22, c23⟩ : ∃ v, I0 a0 13 = v := ⟨_, rfl⟩
        refine q_callVv hE (M' := mX12_goesOn) (as := []) dX12_eatsSign_27 lk12_142 inX12_goesOn seX12_goesOn myX12_goesOn (by decide) ⟨by decide, by decide⟩ rfl (kR15 hS0.1 ta0) (Nat.le_of_ble_eq_true rfl) rfl rfl (by decide) (by decide) (k_X12_goesOn hS0.1 ta0) ?_
        rintro cn' K' N' I24 R25 L26 ⟨rfl, rfl, rfl, rfl, g27, p29, p30, p31, w32, -⟩
        have hS33 := hS0.tr g27 (by decide +kernel) (by decide +kernel)
        have w34 : RdI a0 I0 I24 := (EwI.rf a0 I0).rd w32
        obtain ⟨v35, c36⟩ : ∃ v, I24 a0 9 = v := ⟨_, rfl⟩
        have b37 := iv15_9 hS33.1 ta0 c36
        rw [c2] at p29
        rw [c36] at p29
        rw [c2] at p30
        rw [c36] at p30
        obtain ⟨v38, c39⟩ : ∃ v, I24 a0 8 = v := ⟨_, rfl⟩
        have b40 := iv15_8 hS33.1 ta0 c39
        rw [c39] at p31
        rw [c5] at p31
        rw [((hS33.cell ta0 (by decide +kernel)).trans c23)] at p31
        rw [c23] at p31
        refine tr_iload_n dX12_eatsSign_30 rfl ?_
        exact tr_zret hZ dX12_eatsSign_31 rfl (ti_b01 (by omega) (by omega)) (by decide) (by decide) ⟨v19, rfl, rfl, rfl, rfl, rfl, hS33, (by omega), (by (try rw [c2]); (try omega)), (by (try rw [c39]); (try rw [c5]); (try omega)), (Or.inr w34), trivial⟩
def wi_X12_readRising : List Nat := [968, 969, 970, 971, 972, 973, 974, 3967]
def wr_X12_readRising : List Nat := []
set_option maxHeartbeats 4000000 in
theorem k_X12_readRising {l : Launch} {T : Nat → Nat} {cn : Nat} {K N : Nat → Nat} {I0 : cz_I} {R0 : cz_R} {L0 : cz_L} {d : Int} (hW0 : Wf T cn K N I0 R0 d) {a0 : Nat} (ta0 : T a0 = 15) {a1 : Nat} (ta1 : T a1 = 61) {x2 : Int32} (hx2 : 0 ≤ x2.toInt ∧ x2.toInt ≤ 32) {x3 : Int32} (hx3 : 8 ≤ x3.toInt ∧ x3.toInt ≤ 8) (pre0 : ((I0 a0 9).toInt ≠ 5 → x2.toInt ≤ 24)) (nn4 : ∃ b, R0 a0 4 = some b) : ConE l mX12_readRising [.ref a0, .ref a1, .int x2, .int x3] cn K N I0 R0 L0 (ca_i (fun v cn' K' N' I' R' L' => cn = cn' ∧ K = K' ∧ N = N' ∧ R0 = R' ∧ St T cn K N d wi_X12_readRising wr_X12_readRising I0 R0 I' R0 ∧ (0 ≤ v.toInt ∧ v.toInt ≤ 8) ∧ EwI a0 I0 I' ∧ True)) := by
  refine ConE.of (by decide +kernel) rfl (Nat.le_of_ble_eq_true rfl) rfl (fun X hX hZ hE => ?_)
  subst hX
  have hS0 : St T cn K N d wi_X12_readRising wr_X12_readRising I0 R0 I0 R0 := St.rf0 hW0
  obtain ⟨a11, d12⟩ := nn4
  have ta11 : T a11 = 14 := hW0.rsN ta0 rfl d12
  have gd13 : Gd (I0 a0 9) (x2.toInt ≤ 24) := pre0
  refine q_iconst dX12_readRising_0 (by decide) ?_
  intro v14 h15
  refine tr_istore dX12_readRising_1 (by decide) (by decide) ?_
  refine q_iconst dX12_readRising_3 (by decide) ?_
  intro v16 h17
  refine tr_istore dX12_readRising_4 (by decide) (by decide) ?_
  refine q_iconst dX12_readRising_6 (by decide) ?_
  intro v18 h19
  refine tr_istore dX12_readRising_7 (by decide) (by decide) ?_
  have lp41 : ∀ (fu : Nat) (ls : Nat → Option Value) (v20 : Int32) (v21 : Int32) (v22 : Int32) (I30 : cz_I) (L31 : cz_L), ls 0 = some (.ref a0) → ls 1 = some (.ref a1) → ls 2 = some (.int x2) → ls 3 = some (.int x3) → ls 4 = some (.int v20) → ls 5 = some (.int v21) → ls 6 = some (.int v22) → St T cn K N d wi_X12_readRising wr_X12_readRising I0 R0 I30 R0 → EwI a0 I0 I30 → Gd (I30 a0 9) (x2.toInt ≤ 24) → 0 ≤ v20.toInt → v20.toInt ≤ 8 → 0 ≤ v21.toInt → v21.toInt ≤ 240 → 0 ≤ v22.toInt → v22.toInt ≤ 1 → (-v20.toInt + 9).toNat < fu → Tr X mX12_readRising 9 ls [] cn K N I30 R0 L31 0 0 := by
    intro fu
    induction fu with
    | zero => intros; rename_i hz; exact absurd hz (Nat.not_lt_zero _)
    | succ fu ih41 =>
      intro ls v20 v21 v22 I30 L31 hl23 hl24 hl25 hl26 hl27 hl28 hl29 hS32 w33 gd34 g35 g36 g37 g38 g39 g40 hm41
      refine tr_iload dX12_readRising_9 hl29 ?_
      refine q_if_eq 92 dX12_readRising_11 (by decide) (fun h43 => ?_) (fun h43 => ?_)
      · skip
        refine tr_iload dX12_readRising_92 hl27 ?_
        exact tr_iret hZ dX12_readRising_94 rfl (by decide) (by decide) ⟨v20, rfl, rfl, rfl, rfl, rfl, hS32, (by omega), w33, trivial⟩
      · skip
        refine tr_aload_n dX12_readRising_14 hl23 ?_
        obtain ⟨v44, c45⟩ : ∃ v, I30 a0 9 = v := ⟨_, rfl⟩
        have b46 := iv15_9 hS32.1 ta0 c45
        refine q_getI dX12_readRising_15 fl12_99 (kR15 hS32.1 ta0) c45 ?_
        refine q_iconst dX12_readRising_18 (by decide) ?_
        intro v47 h48
        refine q_icmp_eq 92 dX12_readRising_19 (by decide) (fun h49 => ?_) (fun h49 => ?_)
        · skip
          refine tr_iload dX12_readRising_92 hl27 ?_
          exact tr_iret hZ dX12_readRising_94 rfl (by decide) (by decide) ⟨v20, rfl, rfl, rfl, rfl, rfl, hS32, (by omega), w33, trivial⟩
        · skip
          have p50 := gd34 (by rw [c45]; omega)
          refine tr_aload_n dX12_readRising_22 hl23 ?_
          refine tr_iload dX12_readRising_23 hl28 ?_
          refine tr_aload_n dX12_readRising_25 hl23 ?_
          refine tr_getR dX12_readRising_26 fl12_188 (kR15 hS32.1 ta0) d12 ?_
          obtain ⟨v51, c52⟩ : ∃ v, I0 a11 0 = v := ⟨_, rfl⟩
          have b53 := iv14_0 hW0 ta11 c52
          refine q_getI dX12_readRising_29 fl12_192 (kR14 hS32.1 ta11) ((hS32.cell ta11 (by decide +kernel)).trans c52) ?_
          refine q_iconst dX12_readRising_32 (by decide) ?_
          intro v54 h55
          refine q_isubE dX12_readRising_33 (by intros; omega) ?_
          intro v56 h57
          refine q_callVi hE (M' := mX12_bounded) (as := [_, _]) dX12_readRising_34 lk12_153 inX12_bounded seX12_bounded myX12_bounded (by decide) ⟨by decide, by decide⟩ rfl (kR15 hS32.1 ta0) (Nat.le_of_ble_eq_true rfl) rfl rfl (by decide) (by decide) (k_X12_bounded hS32.1 ta0) ?_
          rintro v62 cn' K' N' I58 R59 L60 ⟨rfl, rfl, rfl, rfl, rfl, g61, p63, p64, w65, -⟩
          have hS66 := hS32.tr g61 (by decide +kernel) (by decide +kernel)
          have w67 : EwI a0 I0 I58 := w33.ew w65
          have w68 : EwI a0 I30 I58 := (EwI.rf a0 I30).ew w65
          have gd69 := Gd.go gd34 w65.stick
          have b70 : 0 ≤ v62.toInt ∧ v62.toInt ≤ 240 := by omega
          clear p63
          obtain ⟨v71, c72⟩ : ∃ v, I58 a0 9 = v := ⟨_, rfl⟩
          have b73 := iv15_9 hS66.1 ta0 c72
          have gd74 : Gd (I58 a0 9) ((v21.toInt ≤ v62.toInt ∧ v62.toInt ≤ v56.toInt)) := p64
          clear p64
          refine tr_istore dX12_readRising_37 (by decide) (by decide) ?_
          refine tr_iload dX12_readRising_39 hl27 ?_
          refine tr_iload_n dX12_readRising_41 hl26 ?_
          refine q_icmp_ne 50 dX12_readRising_42 (by decide) (fun h75 => ?_) (fun h75 => ?_)
          · skip
            refine tr_aload_n dX12_readRising_50 hl23 ?_
            obtain ⟨v76, c77⟩ : ∃ v, I58 a0 8 = v := ⟨_, rfl⟩
            have b78 := iv15_8 hS66.1 ta0 c77
            obtain ⟨v79, c80⟩ : ∃ v, I58 a0 13 = v := ⟨_, rfl⟩
            refine q_callVv hE (M' := mX12_goesOn) (as := []) dX12_readRising_51 lk12_142 inX12_goesOn seX12_goesOn myX12_goesOn (by decide) ⟨by decide, by decide⟩ rfl (kR15 hS66.1 ta0) (Nat.le_of_ble_eq_true rfl) rfl rfl (by decide) (by decide) (k_X12_goesOn hS66.1 ta0) ?_
            rintro cn' K' N' I81 R82 L83 ⟨rfl, rfl, rfl, rfl, g84, p86, p87, p88, w89, -⟩
            have hS90 := hS66.tr g84 (by decide +kernel) (by decide +kernel)
            have c91 : I81 a0 13 = v79 := (g84.cell ta0 (by decide +kernel)).trans c80
            have w92 : RdI a0 I0 I81 := w67.rd w89
            have w93 : RdI a0 I30 I81 := w68.rd w89
            have gd94 := Gd.go gd69 w89.stick
            have gd95 := Gd.go gd74 w89.stick
            obtain ⟨v96, c97⟩ : ∃ v, I81 a0 9 = v := ⟨_, rfl⟩
            have b98 := iv15_9 hS90.1 ta0 c97
            rw [c72] at p86
            rw [c97] at p86
            rw [c72] at p87
            rw [c97] at p87
            obtain ⟨v99, c100⟩ : ∃ v, I81 a0 8 = v := ⟨_, rfl⟩
            have b101 := iv15_8 hS90.1 ta0 c100
            rw [c100] at p88
            rw [c77] at p88
            rw [c91] at p88
            rw [c80] at p88
            refine tr_aload_n dX12_readRising_54 hl23 ?_
            refine q_getI dX12_readRising_55 fl12_99 (kR15 hS90.1 ta0) c97 ?_
            refine q_iconst dX12_readRising_58 (by decide) ?_
            intro v102 h103
            refine q_icmp_ne 64 dX12_readRising_59 (by decide) (fun h104 => ?_) (fun h104 => ?_)
            · skip
              have p105 := gd95 (by rw [c97]; omega)
              refine tr_aload_n dX12_readRising_64 hl24 ?_
              refine tr_iload_n dX12_readRising_65 hl25 ?_
              refine tr_iload dX12_readRising_66 hl27 ?_
              refine q_iaddE dX12_readRising_68 (by intros; omega) ?_
              intro v106 h107
              refine tr_iload dX12_readRising_69 rfl ?_
              refine q_iast dX12_readRising_71 (kR61 hS90.1 ta1) (ti_in (nR61 hS90.1 ta1) (by omega) (by omega)) hS90 ta1 (by show (0 : Int) ≤ v62.toInt ∧ v62.toInt ≤ (239 : Int); omega) rfl (by rfl) ?_
              intro I108 hS109 e111 f110
              have c112 : I108 a0 13 = v79 := (f110 _ _ (fun q => by have z := ta0; rw [q.1, ta1] at z; exact absurd z (by decide))).trans c91
              have c113 : I108 a0 9 = v96 := (f110 _ _ (fun q => by have z := ta0; rw [q.1, ta1] at z; exact absurd z (by decide))).trans c97
              have c114 : I108 a0 8 = v99 := (f110 _ _ (fun q => by have z := ta0; rw [q.1, ta1] at z; exact absurd z (by decide))).trans c100
              have w115 : RdI a0 I0 I108 := w92.keep (f110 _ _ (fun q => by have z := ta0; rw [q.1, ta1] at z; exact absurd z (by decide))) (f110 _ _ (fun q => by have z := ta0; rw [q.1, ta1] at z; exact absurd z (by decide))) (f110 _ _ (fun q => by have z := ta0; rw [q.1, ta1] at z; exact absurd z (by decide))) (f110 _ _ (fun q => by have z := ta0; rw [q.1, ta1] at z; exact absurd z (by decide)))
              have w116 : RdI a0 I30 I108 := w93.keep (f110 _ _ (fun q => by have z := ta0; rw [q.1, ta1] at z; exact absurd z (by decide))) (f110 _ _ (fun q => by have z := ta0; rw [q.1, ta1] at z; exact absurd z (by decide))) (f110 _ _ (fun q => by have z := ta0; rw [q.1, ta1] at z; exact absurd z (by decide))) (f110 _ _ (fun q => by have z := ta0; rw [q.1, ta1] at z; exact absurd z (by decide)))
              have gd117 := Gd.keep gd94 (f110 _ _ (fun q => by have z := ta0; rw [q.1, ta1] at z; exact absurd z (by decide)))
              have gd118 := Gd.keep gd95 (f110 _ _ (fun q => by have z := ta0; rw [q.1, ta1] at z; exact absurd z (by decide)))
              refine q_iincE dX12_readRising_72 hl27 (by decide) (by decide) (by intros; omega) ?_
              intro v119 h120
              refine tr_iload dX12_readRising_75 rfl ?_
              refine q_iconst dX12_readRising_77 (by decide) ?_
              intro v121 h122
              refine q_iaddE dX12_readRising_78 (by intros; omega) ?_
              intro v123 h124
              refine tr_istore dX12_readRising_79 (by decide) (by decide) ?_
              refine tr_aload_n dX12_readRising_81 hl23 ?_
              refine q_bipush dX12_readRising_82 (by decide +kernel) ?_
              intro v125 h126
              refine q_callVi hE (M' := mX12_eatsSign) (as := [_]) dX12_readRising_84 lk12_221 inX12_eatsSign seX12_eatsSign myX12_eatsSign (by decide) ⟨by decide, by decide⟩ rfl (kR15 hS109.1 ta0) (Nat.le_of_ble_eq_true rfl) rfl rfl (by decide) (by decide) (k_X12_eatsSign hS109.1 ta0) ?_
              rintro v131 cn' K' N' I127 R128 L129 ⟨rfl, rfl, rfl, rfl, g130, h132, p133, p134, w135, -⟩
              have hS136 := hS109.tr g130 (by decide +kernel) (by decide +kernel)
              have c137 : I127 a0 13 = v79 := (g130.cell ta0 (by decide +kernel)).trans c112
              have w138 : RdI a0 I0 I127 := w115.ew w135
              have w139 : RdI a0 I30 I127 := w116.ew w135
              have gd140 := Gd.go gd117 w135.stick
              have gd141 := Gd.go gd118 w135.stick
              rw [c113] at p133
              obtain ⟨v142, c143⟩ : ∃ v, I127 a0 8 = v := ⟨_, rfl⟩
              have b144 := iv15_8 hS136.1 ta0 c143
              rw [c143] at p134
              rw [c114] at p134
              refine tr_istore dX12_readRising_87 (by decide) (by decide) ?_
              refine tr_goto 9 dX12_readRising_89 (by decide) ?_
              exact ih41 _ v119 v123 v131 I127 L129 hl23 hl24 hl25 hl26 rfl rfl rfl hS136 (Or.inr w138) gd140 (by omega) (by omega) (by omega) (by omega) (by omega) (by omega) (by omega)
            · skip
              refine q_iconst dX12_readRising_62 (by decide) ?_
              intro v145 h146
              exact tr_iret hZ dX12_readRising_63 rfl (by decide) (by decide) ⟨v145, rfl, rfl, rfl, rfl, rfl, hS90, (by omega), (Or.inr w92), trivial⟩
          · skip
            refine tr_aload_n dX12_readRising_45 hl23 ?_
            refine q_iconst dX12_readRising_46 (by decide) ?_
            intro v147 h148
            obtain ⟨v149, c150⟩ : ∃ v, I58 a0 8 = v := ⟨_, rfl⟩
            have b151 := iv15_8 hS66.1 ta0 c150
            refine q_callVv hE (M' := mX12_flaw) (as := [_]) dX12_readRising_47 lk12_145 inX12_flaw seX12_flaw myX12_flaw (by decide) ⟨by decide, by decide⟩ rfl (kR15 hS66.1 ta0) (Nat.le_of_ble_eq_true rfl) rfl rfl (by decide) (by decide) (k_X12_flaw hS66.1 ta0 (by omega)) ?_
            rintro cn' K' N' I152 R153 L154 ⟨rfl, rfl, rfl, rfl, rfl, g155, p157, p158, w159, -⟩
            have hS160 := hS66.tr g155 (by decide +kernel) (by decide +kernel)
            have c161 : I152 a0 8 = v149 := (g155.cell ta0 (by decide +kernel)).trans c150
            have w162 : RdI a0 I0 I152 := w67.rd w159
            have w163 : RdI a0 I30 I152 := w68.rd w159
            have gd164 := Gd.go gd69 w159.stick
            have gd165 := Gd.go gd74 w159.stick
            obtain ⟨v166, c167⟩ : ∃ v, I152 a0 9 = v := ⟨_, rfl⟩
            have b168 := iv15_9 hS160.1 ta0 c167
            rw [c167] at p157
            rw [c161] at p158
            rw [c150] at p158
            refine tr_aload_n dX12_readRising_50 hl23 ?_
            obtain ⟨v169, c170⟩ : ∃ v, I152 a0 13 = v := ⟨_, rfl⟩
            refine q_callVv hE (M' := mX12_goesOn) (as := []) dX12_readRising_51 lk12_142 inX12_goesOn seX12_goesOn myX12_goesOn (by decide) ⟨by decide, by decide⟩ rfl (kR15 hS160.1 ta0) (Nat.le_of_ble_eq_true rfl) rfl rfl (by decide) (by decide) (k_X12_goesOn hS160.1 ta0) ?_
            rintro cn' K' N' I171 R172 L173 ⟨rfl, rfl, rfl, rfl, g174, p176, p177, p178, w179, -⟩
            have hS180 := hS160.tr g174 (by decide +kernel) (by decide +kernel)
            have c181 : I171 a0 13 = v169 := (g174.cell ta0 (by decide +kernel)).trans c170
            have w182 : RdI a0 I0 I171 := w162.rd w179
            have w183 : RdI a0 I30 I171 := w163.rd w179
            have gd184 := Gd.go gd164 w179.stick
            have gd185 := Gd.go gd165 w179.stick
            obtain ⟨v186, c187⟩ : ∃ v, I171 a0 9 = v := ⟨_, rfl⟩
            have b188 := iv15_9 hS180.1 ta0 c187
            rw [c167] at p176
            rw [c187] at p176
            rw [c167] at p177
            rw [c187] at p177
            obtain ⟨v189, c190⟩ : ∃ v, I171 a0 8 = v := ⟨_, rfl⟩
            have b191 := iv15_8 hS180.1 ta0 c190
            rw [c190] at p178
            rw [c161] at p178
            rw [c181] at p178
            rw [c170] at p178
            refine tr_aload_n dX12_readRising_54 hl23 ?_
            refine q_getI dX12_readRising_55 fl12_99 (kR15 hS180.1 ta0) c187 ?_
            refine q_iconst dX12_readRising_58 (by decide) ?_
            intro v192 h193
            refine q_icmp_ne 64 dX12_readRising_59 (by decide) (fun h194 => ?_) (fun h194 => ?_)
            · skip
              exfalso; omega
            · skip
              refine q_iconst dX12_readRising_62 (by decide) ?_
              intro v195 h196
              exact tr_iret hZ dX12_readRising_63 rfl (by decide) (by decide) ⟨v195, rfl, rfl, rfl, rfl, rfl, hS180, (by omega), (Or.inr w182), trivial⟩
  exact lp41 _ _ v14 v16 v18 I0 L0 rfl rfl rfl rfl rfl rfl rfl hS0 (EwI.rf a0 I0) gd13 (by omega) (by omega) (by omega) (by omega) (by omega) (by omega) (Nat.lt_succ_self _)
def wi_X12_readSlice : List Nat := [902, 968, 969, 970, 971, 972, 973, 974, 3903, 3967]
def wr_X12_readSlice : List Nat := []
set_option maxHeartbeats 4000000 in
theorem k_X12_readSlice {l : Launch} {T : Nat → Nat} {cn : Nat} {K N : Nat → Nat} {I0 : cz_I} {R0 : cz_R} {L0 : cz_L} {d : Int} (hW0 : Wf T cn K N I0 R0 d) {a0 : Nat} (ta0 : T a0 = 15) (nn4 : ∃ b, R0 a0 4 = some b) : ConE l mX12_readSlice [.ref a0] cn K N I0 R0 L0 (ca_v (fun cn' K' N' I' R' L' => cn = cn' ∧ K = K' ∧ N = N' ∧ R0 = R' ∧ St T cn K N d wi_X12_readSlice wr_X12_readSlice I0 R0 I' R0 ∧ RdI a0 I0 I' ∧ True)) := by
  refine ConE.of (by decide +kernel) rfl (Nat.le_of_ble_eq_true rfl) rfl (fun X hX hZ hE => ?_)
  subst hX
  have hS0 : St T cn K N d wi_X12_readSlice wr_X12_readSlice I0 R0 I0 R0 := St.rf0 hW0
  obtain ⟨a1, d2⟩ := nn4
  have ta1 : T a1 = 14 := hW0.rsN ta0 rfl d2
  refine tr_aload_n dX12_readSlice_0 rfl ?_
  refine tr_aload_n dX12_readSlice_1 rfl ?_
  refine tr_getR dX12_readSlice_2 fl12_188 (kR15 hS0.1 ta0) d2 ?_
  obtain ⟨v3, c4⟩ : ∃ v, I0 a1 6 = v := ⟨_, rfl⟩
  have b5 := iv14_6 hS0.1 ta1 c4
  refine q_getI dX12_readSlice_5 fl12_370 (kR14 hS0.1 ta1) c4 ?_
  refine q_iconst dX12_readSlice_8 (by decide) ?_
  intro v6 h7
  refine q_callVv hE (M' := mX12_begins) (as := [_, _]) dX12_readSlice_9 lk12_268 inX12_begins seX12_begins myX12_begins (by decide) ⟨by decide, by decide⟩ rfl (kR15 hS0.1 ta0) (Nat.le_of_ble_eq_true rfl) rfl rfl (by decide) (by decide) (k_X12_begins hS0.1 ta0 ⟨_, d2⟩) ?_
  rintro cn' K' N' I8 R9 L10 ⟨rfl, rfl, rfl, rfl, g11, p13, w14, -⟩
  have hS15 := hS0.tr g11 (by decide +kernel) (by decide +kernel)
  have c16 : I8 a1 6 = v3 := (g11.cell ta1 (by decide +kernel)).trans c4
  have w17 : RdI a0 I0 I8 := (EwI.rf a0 I0).rd w14
  obtain ⟨v18, c19⟩ : ∃ v, I8 a0 9 = v := ⟨_, rfl⟩
  have b20 := iv15_9 hS15.1 ta0 c19
  have gd21 : Gd (I8 a0 9) (v3.toInt ≠ v6.toInt) := p13
  clear p13
  refine tr_aload_n dX12_readSlice_12 rfl ?_
  refine tr_aload_n dX12_readSlice_13 rfl ?_
  refine tr_getR dX12_readSlice_14 fl12_188 (kR15 hS15.1 ta0) d2 ?_
  obtain ⟨a22, d23, ta22⟩ := rf14_18 hW0 ta1
  refine tr_getR dX12_readSlice_17 fl12_373 (kR14 hS15.1 ta1) d23 ?_
  refine q_bipush dX12_readSlice_20 (by decide +kernel) ?_
  intro v24 h25
  refine tr_aload_n dX12_readSlice_22 rfl ?_
  refine tr_getR dX12_readSlice_23 fl12_188 (kR15 hS15.1 ta0) d2 ?_
  refine q_getI dX12_readSlice_26 fl12_370 (kR14 hS15.1 ta1) c16 ?_
  refine q_imulE (c := 8) dX12_readSlice_29 (by omega) (by omega) ?_
  intro v26 h27
  refine q_bipush dX12_readSlice_30 (by decide +kernel) ?_
  intro v28 h29
  refine q_callVi hE (M' := mX12_readRising) (as := [_, _, _]) dX12_readSlice_32 lk12_308 inX12_readRising seX12_readRising myX12_readRising (by decide) ⟨by decide, by decide⟩ rfl (kR15 hS15.1 ta0) (Nat.le_of_ble_eq_true rfl) rfl rfl (by decide) (by decide) (k_X12_readRising hS15.1 ta0 ta22 (by omega) (by omega) (fun z => by have q0 := gd21 z; omega) ⟨_, d2⟩) ?_
  rintro v34 cn' K' N' I30 R31 L32 ⟨rfl, rfl, rfl, rfl, g33, h35, w36, -⟩
  have hS37 := hS15.tr g33 (by decide +kernel) (by decide +kernel)
  have c38 : I30 a1 6 = v3 := (g33.cell ta1 (by decide +kernel)).trans c16
  have w39 : RdI a0 I0 I30 := w17.ew w36
  have gd40 := Gd.go gd21 w36.stick
  refine tr_istore_n dX12_readSlice_35 (by decide) (by decide) ?_
  refine tr_aload_n dX12_readSlice_36 rfl ?_
  obtain ⟨v41, c42⟩ : ∃ v, I30 a0 9 = v := ⟨_, rfl⟩
  have b43 := iv15_9 hS37.1 ta0 c42
  refine q_getI dX12_readSlice_37 fl12_99 (kR15 hS37.1 ta0) c42 ?_
  refine q_iconst dX12_readSlice_40 (by decide) ?_
  intro v44 h45
  refine q_icmp_ne 45 dX12_readSlice_41 (by decide) (fun h46 => ?_) (fun h46 => ?_)
  · skip
    have p47 := gd40 (by rw [c42]; omega)
    refine tr_aload_n dX12_readSlice_45 rfl ?_
    refine tr_getR dX12_readSlice_46 fl12_188 (kR15 hS37.1 ta0) d2 ?_
    obtain ⟨a48, d49, ta48⟩ := rf14_17 hW0 ta1
    refine tr_getR dX12_readSlice_49 fl12_375 (kR14 hS37.1 ta1) d49 ?_
    refine tr_aload_n dX12_readSlice_52 rfl ?_
    refine tr_getR dX12_readSlice_53 fl12_188 (kR15 hS37.1 ta0) d2 ?_
    refine q_getI dX12_readSlice_56 fl12_370 (kR14 hS37.1 ta1) c38 ?_
    refine tr_iload_n dX12_readSlice_59 rfl ?_
    refine q_iast dX12_readSlice_60 (kR60 hS37.1 ta48) (ti_in (nR60 hS37.1 ta48) (by omega) (by omega)) hS37 ta48 (by show (0 : Int) ≤ v34.toInt ∧ v34.toInt ≤ (8 : Int); omega) rfl (by rfl) ?_
    intro I50 hS51 e53 f52
    have c54 : I50 a1 6 = v3 := (f52 _ _ (fun q => by have z := ta1; rw [q.1, ta48] at z; exact absurd z (by decide))).trans c38
    have c55 : I50 a0 9 = v41 := (f52 _ _ (fun q => by have z := ta0; rw [q.1, ta48] at z; exact absurd z (by decide))).trans c42
    have w56 : RdI a0 I0 I50 := w39.keep (f52 _ _ (fun q => by have z := ta0; rw [q.1, ta48] at z; exact absurd z (by decide))) (f52 _ _ (fun q => by have z := ta0; rw [q.1, ta48] at z; exact absurd z (by decide))) (f52 _ _ (fun q => by have z := ta0; rw [q.1, ta48] at z; exact absurd z (by decide))) (f52 _ _ (fun q => by have z := ta0; rw [q.1, ta48] at z; exact absurd z (by decide)))
    have gd57 := Gd.keep gd40 (f52 _ _ (fun q => by have z := ta0; rw [q.1, ta48] at z; exact absurd z (by decide)))
    refine tr_aload_n dX12_readSlice_61 rfl ?_
    refine tr_getR dX12_readSlice_62 fl12_188 (kR15 hS51.1 ta0) d2 ?_
    refine tr_dup dX12_readSlice_65 rfl ?_
    refine q_getI dX12_readSlice_66 fl12_370 (kR14 hS51.1 ta1) c54 ?_
    refine q_iconst dX12_readSlice_69 (by decide) ?_
    intro v58 h59
    refine q_iaddE dX12_readSlice_70 (by intros; omega) ?_
    intro v60 h61
    refine q_putI dX12_readSlice_71 fl12_370 (kR14 hS51.1 ta1) (Or.inl rfl) hS51 ta1 (by show (0 : Int) ≤ v60.toInt ∧ v60.toInt ≤ (4 : Int); omega) rfl (by decide +kernel) ?_
    intro I62 hS63 e64 f65
    have c66 : I62 a0 9 = v41 := (f65 _ _ (fun q => absurd q.2 (by decide))).trans c55
    have w67 : RdI a0 I0 I62 := w56.keep (f65 _ _ (fun q => absurd q.2 (by decide))) (f65 _ _ (fun q => absurd q.2 (by decide))) (f65 _ _ (fun q => absurd q.2 (by decide))) (f65 _ _ (fun q => absurd q.2 (by decide)))
    have gd68 := Gd.keep gd57 (f65 _ _ (fun q => absurd q.2 (by decide)))
    exact tr_vret hZ dX12_readSlice_74 rfl (by decide) (by decide) ⟨rfl, rfl, rfl, rfl, rfl, hS63, w67, trivial⟩
  · skip
    exact tr_vret hZ dX12_readSlice_44 rfl (by decide) (by decide) ⟨rfl, rfl, rfl, rfl, rfl, hS37, w39, trivial⟩
set_option maxHeartbeats 4000000 in
theorem k_X12_isName {l : Launch} {T : Nat → Nat} {cn : Nat} {K N : Nat → Nat} {I0 : cz_I} {R0 : cz_R} {L0 : cz_L} {d : Int} (hW0 : Wf T cn K N I0 R0 d) {a0 : Nat} (ta0 : T a0 = 15) : ConE l mX12_isName [.ref a0] cn K N I0 R0 L0 (ca_i (fun v cn' K' N' I' R' L' => cn = cn' ∧ K = K' ∧ N = N' ∧ I0 = I' ∧ R0 = R' ∧ L0 = L' ∧ (0 ≤ v.toInt ∧ v.toInt ≤ 1) ∧ True)) := by
  refine ConE.of (by decide +kernel) rfl (Nat.le_of_ble_eq_true rfl) rfl (fun X hX hZ hE => ?_)
  subst hX
  refine tr_aload_n dX12_isName_0 rfl ?_
  obtain ⟨v1, c2⟩ : ∃ v, I0 a0 9 = v := ⟨_, rfl⟩
  have b3 := iv15_9 hW0 ta0 c2
  refine q_getI dX12_isName_1 fl12_99 (kR15 hW0 ta0) c2 ?_
  refine q_iconst dX12_isName_4 (by decide) ?_
  intro v4 h5
  refine q_icmp_ne 62 dX12_isName_5 (by decide) (fun h6 => ?_) (fun h6 => ?_)
  · skip
    refine q_iconst dX12_isName_62 (by decide) ?_
    intro v7 h8
    exact tr_zret hZ dX12_isName_63 rfl (ti_b01 (by omega) (by omega)) (by decide) (by decide) ⟨v7, rfl, rfl, rfl, rfl, rfl, rfl, rfl, (by omega), trivial⟩
  · skip
    refine tr_aload_n dX12_isName_8 rfl ?_
    refine tr_ldcS dX12_isName_9 ld12_164 ?_
    refine q_callVi hE (M' := mX12_isWord) (as := [_]) dX12_isName_11 lk12_138 inX12_isWord seX12_isWord myX12_isWord (by decide) ⟨by decide, by decide⟩ rfl (kR15 hW0 ta0) (Nat.le_of_ble_eq_true rfl) rfl rfl (by decide) (by decide) (k_X12_isWord hW0 ta0 (by decide)) ?_
    rintro v13 cn' K' N' I9 R10 L11 ⟨rfl, rfl, rfl, rfl, rfl, rfl, h14, p15, -⟩
    rw [c2] at p15
    refine q_if_ne 62 dX12_isName_14 (by decide) (fun h16 => ?_) (fun h16 => ?_)
    · skip
      refine q_iconst dX12_isName_62 (by decide) ?_
      intro v17 h18
      exact tr_zret hZ dX12_isName_63 rfl (ti_b01 (by omega) (by omega)) (by decide) (by decide) ⟨v17, rfl, rfl, rfl, rfl, rfl, rfl, rfl, (by omega), trivial⟩
    · skip
      refine tr_aload_n dX12_isName_17 rfl ?_
      refine tr_ldcS dX12_isName_18 ld12_166 ?_
      refine q_callVi hE (M' := mX12_isWord) (as := [_]) dX12_isName_20 lk12_138 inX12_isWord seX12_isWord myX12_isWord (by decide) ⟨by decide, by decide⟩ rfl (kR15 hW0 ta0) (Nat.le_of_ble_eq_true rfl) rfl rfl (by decide) (by decide) (k_X12_isWord hW0 ta0 (by decide)) ?_
      rintro v23 cn' K' N' I19 R20 L21 ⟨rfl, rfl, rfl, rfl, rfl, rfl, h24, p25, -⟩
      rw [c2] at p25
      refine q_if_ne 62 dX12_isName_23 (by decide) (fun h26 => ?_) (fun h26 => ?_)
      · skip
        refine q_iconst dX12_isName_62 (by decide) ?_
        intro v27 h28
        exact tr_zret hZ dX12_isName_63 rfl (ti_b01 (by omega) (by omega)) (by decide) (by decide) ⟨v27, rfl, rfl, rfl, rfl, rfl, rfl, rfl, (by omega), trivial⟩
      · skip
        refine tr_aload_n dX12_isName_26 rfl ?_
        refine tr_ldcS dX12_isName_27 ld12_168 ?_
        refine q_callVi hE (M' := mX12_isWord) (as := [_]) dX12_isName_29 lk12_138 inX12_isWord seX12_isWord myX12_isWord (by decide) ⟨by decide, by decide⟩ rfl (kR15 hW0 ta0) (Nat.le_of_ble_eq_true rfl) rfl rfl (by decide) (by decide) (k_X12_isWord hW0 ta0 (by decide)) ?_
        rintro v33 cn' K' N' I29 R30 L31 ⟨rfl, rfl, rfl, rfl, rfl, rfl, h34, p35, -⟩
        rw [c2] at p35
        refine q_if_ne 62 dX12_isName_32 (by decide) (fun h36 => ?_) (fun h36 => ?_)
        · skip
          refine q_iconst dX12_isName_62 (by decide) ?_
          intro v37 h38
          exact tr_zret hZ dX12_isName_63 rfl (ti_b01 (by omega) (by omega)) (by decide) (by decide) ⟨v37, rfl, rfl, rfl, rfl, rfl, rfl, rfl, (by omega), trivial⟩
        · skip
          refine tr_aload_n dX12_isName_35 rfl ?_
          refine tr_ldcS dX12_isName_36 ld12_170 ?_
          refine q_callVi hE (M' := mX12_isWord) (as := [_]) dX12_isName_38 lk12_138 inX12_isWord seX12_isWord myX12_isWord (by decide) ⟨by decide, by decide⟩ rfl (kR15 hW0 ta0) (Nat.le_of_ble_eq_true rfl) rfl rfl (by decide) (by decide) (k_X12_isWord hW0 ta0 (by decide)) ?_
          rintro v43 cn' K' N' I39 R40 L41 ⟨rfl, rfl, rfl, rfl, rfl, rfl, h44, p45, -⟩
          rw [c2] at p45
          refine q_if_ne 62 dX12_isName_41 (by decide) (fun h46 => ?_) (fun h46 => ?_)
          · skip
            refine q_iconst dX12_isName_62 (by decide) ?_
            intro v47 h48
            exact tr_zret hZ dX12_isName_63 rfl (ti_b01 (by omega) (by omega)) (by decide) (by decide) ⟨v47, rfl, rfl, rfl, rfl, rfl, rfl, rfl, (by omega), trivial⟩
          · skip
            refine tr_aload_n dX12_isName_44 rfl ?_
            refine tr_ldcS dX12_isName_45 ld12_172 ?_
            refine q_callVi hE (M' := mX12_isWord) (as := [_]) dX12_isName_47 lk12_138 inX12_isWord seX12_isWord myX12_isWord (by decide) ⟨by decide, by decide⟩ rfl (kR15 hW0 ta0) (Nat.le_of_ble_eq_true rfl) rfl rfl (by decide) (by decide) (k_X12_isWord hW0 ta0 (by decide)) ?_
            rintro v53 cn' K' N' I49 R50 L51 ⟨rfl, rfl, rfl, rfl, rfl, rfl, h54, p55, -⟩
            rw [c2] at p55
            refine q_if_ne 62 dX12_isName_50 (by decide) (fun h56 => ?_) (fun h56 => ?_)
            · skip
              refine q_iconst dX12_isName_62 (by decide) ?_
              intro v57 h58
              exact tr_zret hZ dX12_isName_63 rfl (ti_b01 (by omega) (by omega)) (by decide) (by decide) ⟨v57, rfl, rfl, rfl, rfl, rfl, rfl, rfl, (by omega), trivial⟩
            · skip
              refine tr_aload_n dX12_isName_53 rfl ?_
              refine tr_ldcS dX12_isName_54 ld12_174 ?_
              refine q_callVi hE (M' := mX12_isWord) (as := [_]) dX12_isName_56 lk12_138 inX12_isWord seX12_isWord myX12_isWord (by decide) ⟨by decide, by decide⟩ rfl (kR15 hW0 ta0) (Nat.le_of_ble_eq_true rfl) rfl rfl (by decide) (by decide) (k_X12_isWord hW0 ta0 (by decide)) ?_
              rintro v63 cn' K' N' I59 R60 L61 ⟨rfl, rfl, rfl, rfl, rfl, rfl, h64, p65, -⟩
              rw [c2] at p65
              refine q_if_eq 64 dX12_isName_59 (by decide) (fun h66 => ?_) (fun h66 => ?_)
              · skip
                refine tr_aload_n dX12_isName_64 rfl ?_
                refine tr_ldcS dX12_isName_65 ld12_176 ?_
                refine q_callVi hE (M' := mX12_isWord) (as := [_]) dX12_isName_67 lk12_138 inX12_isWord seX12_isWord myX12_isWord (by decide) ⟨by decide, by decide⟩ rfl (kR15 hW0 ta0) (Nat.le_of_ble_eq_true rfl) rfl rfl (by decide) (by decide) (k_X12_isWord hW0 ta0 (by decide)) ?_
                rintro v71 cn' K' N' I67 R68 L69 ⟨rfl, rfl, rfl, rfl, rfl, rfl, h72, p73, -⟩
                rw [c2] at p73
                refine q_if_ne 122 dX12_isName_70 (by decide) (fun h74 => ?_) (fun h74 => ?_)
                · skip
                  refine q_iconst dX12_isName_122 (by decide) ?_
                  intro v75 h76
                  exact tr_zret hZ dX12_isName_123 rfl (ti_b01 (by omega) (by omega)) (by decide) (by decide) ⟨v75, rfl, rfl, rfl, rfl, rfl, rfl, rfl, (by omega), trivial⟩
                · skip
                  refine tr_aload_n dX12_isName_73 rfl ?_
                  refine tr_ldcS dX12_isName_74 ld12_178 ?_
                  refine q_callVi hE (M' := mX12_isWord) (as := [_]) dX12_isName_76 lk12_138 inX12_isWord seX12_isWord myX12_isWord (by decide) ⟨by decide, by decide⟩ rfl (kR15 hW0 ta0) (Nat.le_of_ble_eq_true rfl) rfl rfl (by decide) (by decide) (k_X12_isWord hW0 ta0 (by decide)) ?_
                  rintro v81 cn' K' N' I77 R78 L79 ⟨rfl, rfl, rfl, rfl, rfl, rfl, h82, p83, -⟩
                  rw [c2] at p83
                  refine q_if_ne 122 dX12_isName_79 (by decide) (fun h84 => ?_) (fun h84 => ?_)
                  · skip
                    refine q_iconst dX12_isName_122 (by decide) ?_
                    intro v85 h86
                    exact tr_zret hZ dX12_isName_123 rfl (ti_b01 (by omega) (by omega)) (by decide) (by decide) ⟨v85, rfl, rfl, rfl, rfl, rfl, rfl, rfl, (by omega), trivial⟩
                  · skip
                    refine tr_aload_n dX12_isName_82 rfl ?_
                    refine tr_ldcS dX12_isName_83 ld12_180 ?_
                    refine q_callVi hE (M' := mX12_isWord) (as := [_]) dX12_isName_85 lk12_138 inX12_isWord seX12_isWord myX12_isWord (by decide) ⟨by decide, by decide⟩ rfl (kR15 hW0 ta0) (Nat.le_of_ble_eq_true rfl) rfl rfl (by decide) (by decide) (k_X12_isWord hW0 ta0 (by decide)) ?_
                    rintro v91 cn' K' N' I87 R88 L89 ⟨rfl, rfl, rfl, rfl, rfl, rfl, h92, p93, -⟩
                    rw [c2] at p93
                    refine q_if_ne 122 dX12_isName_88 (by decide) (fun h94 => ?_) (fun h94 => ?_)
                    · skip
                      refine q_iconst dX12_isName_122 (by decide) ?_
                      intro v95 h96
                      exact tr_zret hZ dX12_isName_123 rfl (ti_b01 (by omega) (by omega)) (by decide) (by decide) ⟨v95, rfl, rfl, rfl, rfl, rfl, rfl, rfl, (by omega), trivial⟩
                    · skip
                      refine tr_aload_n dX12_isName_91 rfl ?_
                      refine tr_ldcS dX12_isName_92 ld12_182 ?_
                      refine q_callVi hE (M' := mX12_isWord) (as := [_]) dX12_isName_94 lk12_138 inX12_isWord seX12_isWord myX12_isWord (by decide) ⟨by decide, by decide⟩ rfl (kR15 hW0 ta0) (Nat.le_of_ble_eq_true rfl) rfl rfl (by decide) (by decide) (k_X12_isWord hW0 ta0 (by decide)) ?_
                      rintro v101 cn' K' N' I97 R98 L99 ⟨rfl, rfl, rfl, rfl, rfl, rfl, h102, p103, -⟩
                      rw [c2] at p103
                      refine q_if_ne 122 dX12_isName_97 (by decide) (fun h104 => ?_) (fun h104 => ?_)
                      · skip
                        refine q_iconst dX12_isName_122 (by decide) ?_
                        intro v105 h106
                        exact tr_zret hZ dX12_isName_123 rfl (ti_b01 (by omega) (by omega)) (by decide) (by decide) ⟨v105, rfl, rfl, rfl, rfl, rfl, rfl, rfl, (by omega), trivial⟩
                      · skip
                        refine tr_aload_n dX12_isName_100 rfl ?_
                        refine tr_ldcS dX12_isName_101 ld12_184 ?_
                        refine q_callVi hE (M' := mX12_isWord) (as := [_]) dX12_isName_103 lk12_138 inX12_isWord seX12_isWord myX12_isWord (by decide) ⟨by decide, by decide⟩ rfl (kR15 hW0 ta0) (Nat.le_of_ble_eq_true rfl) rfl rfl (by decide) (by decide) (k_X12_isWord hW0 ta0 (by decide)) ?_
                        rintro v111 cn' K' N' I107 R108 L109 ⟨rfl, rfl, rfl, rfl, rfl, rfl, h112, p113, -⟩
                        rw [c2] at p113
                        refine q_if_ne 122 dX12_isName_106 (by decide) (fun h114 => ?_) (fun h114 => ?_)
                        · skip
                          refine q_iconst dX12_isName_122 (by decide) ?_
                          intro v115 h116
                          exact tr_zret hZ dX12_isName_123 rfl (ti_b01 (by omega) (by omega)) (by decide) (by decide) ⟨v115, rfl, rfl, rfl, rfl, rfl, rfl, rfl, (by omega), trivial⟩
                        · skip
                          refine tr_aload_n dX12_isName_109 rfl ?_
                          refine tr_ldcS dX12_isName_110 ld12_186 ?_
                          refine q_callVi hE (M' := mX12_isWord) (as := [_]) dX12_isName_112 lk12_138 inX12_isWord seX12_isWord myX12_isWord (by decide) ⟨by decide, by decide⟩ rfl (kR15 hW0 ta0) (Nat.le_of_ble_eq_true rfl) rfl rfl (by decide) (by decide) (k_X12_isWord hW0 ta0 (by decide)) ?_
                          rintro v121 cn' K' N' I117 R118 L119 ⟨rfl, rfl, rfl, rfl, rfl, rfl, h122, p123, -⟩
                          rw [c2] at p123
                          refine q_if_ne 122 dX12_isName_115 (by decide) (fun h124 => ?_) (fun h124 => ?_)
                          · skip
                            refine q_iconst dX12_isName_122 (by decide) ?_
                            intro v125 h126
                            exact tr_zret hZ dX12_isName_123 rfl (ti_b01 (by omega) (by omega)) (by decide) (by decide) ⟨v125, rfl, rfl, rfl, rfl, rfl, rfl, rfl, (by omega), trivial⟩
                          · skip
                            refine q_iconst dX12_isName_118 (by decide) ?_
                            intro v127 h128
                            refine tr_goto 123 dX12_isName_119 (by decide) ?_
                            exact tr_zret hZ dX12_isName_123 rfl (ti_b01 (by omega) (by omega)) (by decide) (by decide) ⟨v127, rfl, rfl, rfl, rfl, rfl, rfl, rfl, (by omega), trivial⟩
              · skip
                refine q_iconst dX12_isName_62 (by decide) ?_
                intro v129 h130
                exact tr_zret hZ dX12_isName_63 rfl (ti_b01 (by omega) (by omega)) (by decide) (by decide) ⟨v129, rfl, rfl, rfl, rfl, rfl, rfl, rfl, (by omega), trivial⟩
set_option maxHeartbeats 4000000 in
theorem k_X11_find {l : Launch} {T : Nat → Nat} {cn : Nat} {K N : Nat → Nat} {I0 : cz_I} {R0 : cz_R} {L0 : cz_L} {d : Int} (hW0 : Wf T cn K N I0 R0 d) {a0 : Nat} (ta0 : T a0 = 14) {y1 : Int64} : ConE l mX11_find [.ref a0, .long y1] cn K N I0 R0 L0 (ca_i (fun v cn' K' N' I' R' L' => cn = cn' ∧ K = K' ∧ N = N' ∧ I0 = I' ∧ R0 = R' ∧ L0 = L' ∧ ((-1) ≤ v.toInt ∧ v.toInt ≤ 12) ∧ True)) := by
  refine ConE.of (by decide +kernel) rfl (Nat.le_of_ble_eq_true rfl) rfl (fun X hX hZ hE => ?_)
  subst hX
  refine q_iconst dX11_find_0 (by decide) ?_
  intro v1 h2
  refine tr_istore_n dX11_find_1 (by decide) (by decide) ?_
  have lp8 : ∀ (fu : Nat) (ls : Nat → Option Value) (v3 : Int32), ls 0 = some (.ref a0) → ls 1 = some (.long y1) → ls 3 = some (.int v3) → 0 ≤ v3.toInt → (-v3.toInt + 2147483647).toNat < fu → Tr X mX11_find 2 ls [] cn K N I0 R0 L0 0 0 := by
    intro fu
    induction fu with
    | zero => intros; rename_i hz; exact absurd hz (Nat.not_lt_zero _)
    | succ fu ih8 =>
      intro ls v3 hl4 hl5 hl6 g7 hm8
      refine tr_iload_n dX11_find_2 hl6 ?_
      refine tr_aload_n dX11_find_3 hl4 ?_
      obtain ⟨v10, c11⟩ : ∃ v, I0 a0 7 = v := ⟨_, rfl⟩
      have b12 := iv14_7 hW0 ta0 c11
      refine q_getI dX11_find_4 fl11_83 (kR14 hW0 ta0) c11 ?_
      refine q_icmp_ge 29 dX11_find_7 (by decide) (fun h13 => ?_) (fun h13 => ?_)
      · skip
        refine q_iconst dX11_find_29 (by decide) ?_
        intro v14 h15
        exact tr_iret hZ dX11_find_30 rfl (by decide) (by decide) ⟨v14, rfl, rfl, rfl, rfl, rfl, rfl, rfl, (by omega), trivial⟩
      · skip
        refine tr_aload_n dX11_find_10 hl4 ?_
        obtain ⟨a16, d17, ta16⟩ := rf14_30 hW0 ta0
        refine tr_getR dX11_find_11 fl11_73 (kR14 hW0 ta0) d17 ?_
        refine tr_iload_n dX11_find_14 hl6 ?_
        refine q_lald dX11_find_15 (kR73 hW0 ta16) (ti_in (nR73 hW0 ta16) (by omega) (by omega)) ?_
        intro y18
        refine tr_lload_n dX11_find_16 hl5 ?_
        refine q_lcmp dX11_find_17 ?_
        intro v19
        refine q_if_ne 23 dX11_find_18 (by decide) (fun h20 => ?_) (fun h20 => ?_)
        · skip
          refine q_iincE dX11_find_23 hl6 (by decide) (by decide) (by intros; omega) ?_
          intro v21 h22
          refine tr_goto 2 dX11_find_26 (by decide) ?_
          exact ih8 _ v21 hl4 hl5 rfl (by omega) (by omega)
        · skip
          refine tr_iload_n dX11_find_21 hl6 ?_
          exact tr_iret hZ dX11_find_22 rfl (by decide) (by decide) ⟨v3, rfl, rfl, rfl, rfl, rfl, rfl, rfl, (by omega), trivial⟩
  exact lp8 _ _ v1 rfl rfl rfl (by omega) (Nat.lt_succ_self _)
def wi_X12_needs : List Nat := [968, 969, 970, 971, 972, 973, 974]
def wr_X12_needs : List Nat := []
set_option maxHeartbeats 4000000 in
theorem k_X12_needs {l : Launch} {T : Nat → Nat} {cn : Nat} {K N : Nat → Nat} {I0 : cz_I} {R0 : cz_R} {L0 : cz_L} {d : Int} (hW0 : Wf T cn K N I0 R0 d) {a0 : Nat} (ta0 : T a0 = 15) {u1 : UInt32} (hu1 : u1.toNat < cz_NS) : ConE l mX12_needs [.ref a0, .float u1] cn K N I0 R0 L0 (ca_v (fun cn' K' N' I' R' L' => cn = cn' ∧ K = K' ∧ N = N' ∧ R0 = R' ∧ St T cn K N d wi_X12_needs wr_X12_needs I0 R0 I' R0 ∧ RdI a0 I0 I' ∧ True)) := by
  refine ConE.of (by decide +kernel) rfl (Nat.le_of_ble_eq_true rfl) rfl (fun X hX hZ hE => ?_)
  subst hX
  have hS0 : St T cn K N d wi_X12_needs wr_X12_needs I0 R0 I0 R0 := St.rf0 hW0
  refine tr_aload_n dX12_needs_0 rfl ?_
  refine tr_aload_nS dX12_needs_1 rfl ?_
  obtain ⟨v1, c2⟩ : ∃ v, I0 a0 9 = v := ⟨_, rfl⟩
  have b3 := iv15_9 hS0.1 ta0 c2
  refine q_callVi hE (M' := mX12_isWord) (as := [_]) dX12_needs_2 lk12_138 inX12_isWord seX12_isWord myX12_isWord (by decide) ⟨by decide, by decide⟩ rfl (kR15 hS0.1 ta0) (Nat.le_of_ble_eq_true rfl) rfl rfl (by decide) (by decide) (k_X12_isWord hS0.1 ta0 hu1) ?_
  rintro v8 cn' K' N' I4 R5 L6 ⟨rfl, rfl, rfl, rfl, rfl, rfl, h9, p10, -⟩
  rw [c2] at p10
  refine q_if_ne 13 dX12_needs_5 (by decide) (fun h11 => ?_) (fun h11 => ?_)
  · skip
    refine tr_aload_n dX12_needs_13 rfl ?_
    obtain ⟨v12, c13⟩ : ∃ v, I0 a0 8 = v := ⟨_, rfl⟩
    have b14 := iv15_8 hS0.1 ta0 c13
    obtain ⟨v15, c16⟩ : ∃ v, I0 a0 13 = v := ⟨_, rfl⟩
    refine q_callVv hE (M' := mX12_goesOn) (as := []) dX12_needs_14 lk12_142 inX12_goesOn seX12_goesOn myX12_goesOn (by decide) ⟨by decide, by decide⟩ rfl (kR15 hS0.1 ta0) (Nat.le_of_ble_eq_true rfl) rfl rfl (by decide) (by decide) (k_X12_goesOn hS0.1 ta0) ?_
    rintro cn' K' N' I17 R18 L19 ⟨rfl, rfl, rfl, rfl, g20, p22, p23, p24, w25, -⟩
    have hS26 := hS0.tr g20 (by decide +kernel) (by decide +kernel)
    have c27 : I17 a0 13 = v15 := (g20.cell ta0 (by decide +kernel)).trans c16
    have w28 : RdI a0 I0 I17 := (EwI.rf a0 I0).rd w25
    obtain ⟨v29, c30⟩ : ∃ v, I17 a0 9 = v := ⟨_, rfl⟩
    have b31 := iv15_9 hS26.1 ta0 c30
    rw [c2] at p22
    rw [c30] at p22
    rw [c2] at p23
    rw [c30] at p23
    obtain ⟨v32, c33⟩ : ∃ v, I17 a0 8 = v := ⟨_, rfl⟩
    have b34 := iv15_8 hS26.1 ta0 c33
    rw [c33] at p24
    rw [c13] at p24
    rw [c27] at p24
    rw [c16] at p24
    exact tr_vret hZ dX12_needs_17 rfl (by decide) (by decide) ⟨rfl, rfl, rfl, rfl, rfl, hS26, w28, trivial⟩
  · skip
    refine tr_aload_n dX12_needs_8 rfl ?_
    refine q_iconst dX12_needs_9 (by decide) ?_
    intro v35 h36
    obtain ⟨v37, c38⟩ : ∃ v, I0 a0 8 = v := ⟨_, rfl⟩
    have b39 := iv15_8 hS0.1 ta0 c38
    refine q_callVv hE (M' := mX12_flaw) (as := [_]) dX12_needs_10 lk12_145 inX12_flaw seX12_flaw myX12_flaw (by decide) ⟨by decide, by decide⟩ rfl (kR15 hS0.1 ta0) (Nat.le_of_ble_eq_true rfl) rfl rfl (by decide) (by decide) (k_X12_flaw hS0.1 ta0 (by omega)) ?_
    rintro cn' K' N' I40 R41 L42 ⟨rfl, rfl, rfl, rfl, rfl, g43, p45, p46, w47, -⟩
    have hS48 := hS0.tr g43 (by decide +kernel) (by decide +kernel)
    have c49 : I40 a0 8 = v37 := (g43.cell ta0 (by decide +kernel)).trans c38
    have w50 : RdI a0 I0 I40 := (EwI.rf a0 I0).rd w47
    obtain ⟨v51, c52⟩ : ∃ v, I40 a0 9 = v := ⟨_, rfl⟩
    have b53 := iv15_9 hS48.1 ta0 c52
    rw [c52] at p45
    rw [c49] at p46
    rw [c38] at p46
    refine tr_aload_n dX12_needs_13 rfl ?_
    obtain ⟨v54, c55⟩ : ∃ v, I40 a0 13 = v := ⟨_, rfl⟩
    refine q_callVv hE (M' := mX12_goesOn) (as := []) dX12_needs_14 lk12_142 inX12_goesOn seX12_goesOn myX12_goesOn (by decide) ⟨by decide, by decide⟩ rfl (kR15 hS48.1 ta0) (Nat.le_of_ble_eq_true rfl) rfl rfl (by decide) (by decide) (k_X12_goesOn hS48.1 ta0) ?_
    rintro cn' K' N' I56 R57 L58 ⟨rfl, rfl, rfl, rfl, g59, p61, p62, p63, w64, -⟩
    have hS65 := hS48.tr g59 (by decide +kernel) (by decide +kernel)
    have c66 : I56 a0 13 = v54 := (g59.cell ta0 (by decide +kernel)).trans c55
    have w67 : RdI a0 I0 I56 := w50.rd w64
    obtain ⟨v68, c69⟩ : ∃ v, I56 a0 9 = v := ⟨_, rfl⟩
    have b70 := iv15_9 hS65.1 ta0 c69
    rw [c52] at p61
    rw [c69] at p61
    rw [c52] at p62
    rw [c69] at p62
    obtain ⟨v71, c72⟩ : ∃ v, I56 a0 8 = v := ⟨_, rfl⟩
    have b73 := iv15_8 hS65.1 ta0 c72
    rw [c72] at p63
    rw [c49] at p63
    rw [c66] at p63
    rw [c55] at p63
    exact tr_vret hZ dX12_needs_17 rfl (by decide) (by decide) ⟨rfl, rfl, rfl, rfl, rfl, hS65, w67, trivial⟩
def wi_X12_readWhole : List Nat := [968, 969, 970, 971, 972, 973, 974]
def wr_X12_readWhole : List Nat := []
set_option maxHeartbeats 4000000 in
theorem k_X12_readWhole {l : Launch} {T : Nat → Nat} {cn : Nat} {K N : Nat → Nat} {I0 : cz_I} {R0 : cz_R} {L0 : cz_L} {d : Int} (hW0 : Wf T cn K N I0 R0 d) {a0 : Nat} (ta0 : T a0 = 15) {x1 : Int32} {x2 : Int32} : ConE l mX12_readWhole [.ref a0, .int x1, .int x2] cn K N I0 R0 L0 (ca_i (fun v cn' K' N' I' R' L' => cn = cn' ∧ K = K' ∧ N = N' ∧ R0 = R' ∧ St T cn K N d wi_X12_readWhole wr_X12_readWhole I0 R0 I' R0 ∧ ((v.toInt = x1.toInt ∨ (x1.toInt ≤ v.toInt ∧ v.toInt ≤ x2.toInt))) ∧ RdI a0 I0 I' ∧ True)) := by
  refine ConE.of (by decide +kernel) rfl (Nat.le_of_ble_eq_true rfl) rfl (fun X hX hZ hE => ?_)
  subst hX
  have hS0 : St T cn K N d wi_X12_readWhole wr_X12_readWhole I0 R0 I0 R0 := St.rf0 hW0
  refine tr_aload_n dX12_readWhole_0 rfl ?_
  refine tr_iload_n dX12_readWhole_1 rfl ?_
  refine tr_iload_n dX12_readWhole_2 rfl ?_
  refine q_callVi hE (M' := mX12_bounded) (as := [_, _]) dX12_readWhole_3 lk12_153 inX12_bounded seX12_bounded myX12_bounded (by decide) ⟨by decide, by decide⟩ rfl (kR15 hS0.1 ta0) (Nat.le_of_ble_eq_true rfl) rfl rfl (by decide) (by decide) (k_X12_bounded hS0.1 ta0) ?_
  rintro v5 cn' K' N' I1 R2 L3 ⟨rfl, rfl, rfl, rfl, rfl, g4, p6, p7, w8, -⟩
  have hS9 := hS0.tr g4 (by decide +kernel) (by decide +kernel)
  have w10 : EwI a0 I0 I1 := (EwI.rf a0 I0).ew w8
  obtain ⟨v11, c12⟩ : ∃ v, I1 a0 9 = v := ⟨_, rfl⟩
  have b13 := iv15_9 hS9.1 ta0 c12
  have gd14 : Gd (I1 a0 9) ((x1.toInt ≤ v5.toInt ∧ v5.toInt ≤ x2.toInt)) := p7
  clear p7
  refine tr_istore_n dX12_readWhole_6 (by decide) (by decide) ?_
  refine tr_aload_n dX12_readWhole_7 rfl ?_
  obtain ⟨v15, c16⟩ : ∃ v, I1 a0 8 = v := ⟨_, rfl⟩
  have b17 := iv15_8 hS9.1 ta0 c16
  obtain ⟨v18, c19⟩ : ∃ v, I1 a0 13 = v := ⟨_, rfl⟩
  refine q_callVv hE (M' := mX12_goesOn) (as := []) dX12_readWhole_8 lk12_142 inX12_goesOn seX12_goesOn myX12_goesOn (by decide) ⟨by decide, by decide⟩ rfl (kR15 hS9.1 ta0) (Nat.le_of_ble_eq_true rfl) rfl rfl (by decide) (by decide) (k_X12_goesOn hS9.1 ta0) ?_
  rintro cn' K' N' I20 R21 L22 ⟨rfl, rfl, rfl, rfl, g23, p25, p26, p27, w28, -⟩
  have hS29 := hS9.tr g23 (by decide +kernel) (by decide +kernel)
  have c30 : I20 a0 13 = v18 := (g23.cell ta0 (by decide +kernel)).trans c19
  have w31 : RdI a0 I0 I20 := w10.rd w28
  have gd32 := Gd.go gd14 w28.stick
  obtain ⟨v33, c34⟩ : ∃ v, I20 a0 9 = v := ⟨_, rfl⟩
  have b35 := iv15_9 hS29.1 ta0 c34
  rw [c12] at p25
  rw [c34] at p25
  rw [c12] at p26
  rw [c34] at p26
  obtain ⟨v36, c37⟩ : ∃ v, I20 a0 8 = v := ⟨_, rfl⟩
  have b38 := iv15_8 hS29.1 ta0 c37
  rw [c37] at p27
  rw [c16] at p27
  rw [c30] at p27
  rw [c19] at p27
  refine tr_iload_n dX12_readWhole_11 rfl ?_
  exact tr_iret hZ dX12_readWhole_12 rfl (by decide) (by decide) ⟨v5, rfl, rfl, rfl, rfl, rfl, hS29, (by omega), w31, trivial⟩
def wi_X12_readPart : List Nat := [968, 969, 970, 971, 972, 973, 974]
def wr_X12_readPart : List Nat := []
set_option maxHeartbeats 4000000 in
theorem k_X12_readPart {l : Launch} {T : Nat → Nat} {cn : Nat} {K N : Nat → Nat} {I0 : cz_I} {R0 : cz_R} {L0 : cz_L} {d : Int} (hW0 : Wf T cn K N I0 R0 d) {a0 : Nat} (ta0 : T a0 = 15) {u1 : UInt32} (hu1 : u1.toNat < cz_NS) {x2 : Int32} {x3 : Int32} : ConE l mX12_readPart [.ref a0, .float u1, .int x2, .int x3] cn K N I0 R0 L0 (ca_i (fun v cn' K' N' I' R' L' => cn = cn' ∧ K = K' ∧ N = N' ∧ R0 = R' ∧ St T cn K N d wi_X12_readPart wr_X12_readPart I0 R0 I' R0 ∧ ((v.toInt = x2.toInt ∨ (x2.toInt ≤ v.toInt ∧ v.toInt ≤ x3.toInt))) ∧ RdI a0 I0 I' ∧ True)) := by
  refine ConE.of (by decide +kernel) rfl (Nat.le_of_ble_eq_true rfl) rfl (fun X hX hZ hE => ?_)
  subst hX
  have hS0 : St T cn K N d wi_X12_readPart wr_X12_readPart I0 R0 I0 R0 := St.rf0 hW0
  refine tr_aload_n dX12_readPart_0 rfl ?_
  refine tr_aload_nS dX12_readPart_1 rfl ?_
  refine q_callVv hE (M' := mX12_needs) (as := [_]) dX12_readPart_2 lk12_157 inX12_needs seX12_needs myX12_needs (by decide) ⟨by decide, by decide⟩ rfl (kR15 hS0.1 ta0) (Nat.le_of_ble_eq_true rfl) rfl rfl (by decide) (by decide) (k_X12_needs hS0.1 ta0 hu1) ?_
  rintro cn' K' N' I1 R2 L3 ⟨rfl, rfl, rfl, rfl, g4, w6, -⟩
  have hS7 := hS0.tr g4 (by decide +kernel) (by decide +kernel)
  have w8 : RdI a0 I0 I1 := (EwI.rf a0 I0).rd w6
  refine tr_aload_n dX12_readPart_5 rfl ?_
  refine tr_iload_n dX12_readPart_6 rfl ?_
  refine tr_iload_n dX12_readPart_7 rfl ?_
  refine q_callVi hE (M' := mX12_readWhole) (as := [_, _]) dX12_readPart_8 lk12_161 inX12_readWhole seX12_readWhole myX12_readWhole (by decide) ⟨by decide, by decide⟩ rfl (kR15 hS7.1 ta0) (Nat.le_of_ble_eq_true rfl) rfl rfl (by decide) (by decide) (k_X12_readWhole hS7.1 ta0) ?_
  rintro v13 cn' K' N' I9 R10 L11 ⟨rfl, rfl, rfl, rfl, g12, p14, w15, -⟩
  have hS16 := hS7.tr g12 (by decide +kernel) (by decide +kernel)
  have w17 : RdI a0 I0 I9 := w8.rd w15
  exact tr_iret hZ dX12_readPart_11 rfl (by decide) (by decide) ⟨v13, rfl, rfl, rfl, rfl, rfl, hS16, (by omega), w17, trivial⟩
def wi_X12_readCall : List Nat := [901, 968, 969, 970, 971, 972, 973, 974, 4479, 4543, 4607, 4671]
def wr_X12_readCall : List Nat := []
set_option maxHeartbeats 4000000 in
theorem k_X12_readCall {l : Launch} {T : Nat → Nat} {cn : Nat} {K N : Nat → Nat} {I0 : cz_I} {R0 : cz_R} {L0 : cz_L} {d : Int} (hW0 : Wf T cn K N I0 R0 d) {a0 : Nat} (ta0 : T a0 = 15) (nn4 : ∃ b, R0 a0 4 = some b) : ConE l mX12_readCall [.ref a0] cn K N I0 R0 L0 (ca_v (fun cn' K' N' I' R' L' => cn = cn' ∧ K = K' ∧ N = N' ∧ R0 = R' ∧ St T cn K N d wi_X12_readCall wr_X12_readCall I0 R0 I' R0 ∧ RdI a0 I0 I' ∧ True)) := by
  refine ConE.of (by decide +kernel) rfl (Nat.le_of_ble_eq_true rfl) rfl (fun X hX hZ hE => ?_)
  subst hX
  have hS0 : St T cn K N d wi_X12_readCall wr_X12_readCall I0 R0 I0 R0 := St.rf0 hW0
  obtain ⟨a1, d2⟩ := nn4
  have ta1 : T a1 = 14 := hW0.rsN ta0 rfl d2
  refine tr_aload_n dX12_readCall_0 rfl ?_
  refine tr_aload_n dX12_readCall_1 rfl ?_
  refine tr_getR dX12_readCall_2 fl12_188 (kR15 hS0.1 ta0) d2 ?_
  obtain ⟨v3, c4⟩ : ∃ v, I0 a1 5 = v := ⟨_, rfl⟩
  have b5 := iv14_5 hS0.1 ta1 c4
  refine q_getI dX12_readCall_5 fl12_349 (kR14 hS0.1 ta1) c4 ?_
  refine q_bipush dX12_readCall_8 (by decide +kernel) ?_
  intro v6 h7
  refine q_callVv hE (M' := mX12_begins) (as := [_, _]) dX12_readCall_10 lk12_268 inX12_begins seX12_begins myX12_begins (by decide) ⟨by decide, by decide⟩ rfl (kR15 hS0.1 ta0) (Nat.le_of_ble_eq_true rfl) rfl rfl (by decide) (by decide) (k_X12_begins hS0.1 ta0 ⟨_, d2⟩) ?_
  rintro cn' K' N' I8 R9 L10 ⟨rfl, rfl, rfl, rfl, g11, p13, w14, -⟩
  have hS15 := hS0.tr g11 (by decide +kernel) (by decide +kernel)
  have c16 : I8 a1 5 = v3 := (g11.cell ta1 (by decide +kernel)).trans c4
  have w17 : RdI a0 I0 I8 := (EwI.rf a0 I0).rd w14
  obtain ⟨v18, c19⟩ : ∃ v, I8 a0 9 = v := ⟨_, rfl⟩
  have b20 := iv15_9 hS15.1 ta0 c19
  have gd21 : Gd (I8 a0 9) (v3.toInt ≠ v6.toInt) := p13
  clear p13
  refine tr_aload_n dX12_readCall_13 rfl ?_
  refine q_callVi hE (M' := mX12_isName) (as := []) dX12_readCall_14 lk12_197 inX12_isName seX12_isName myX12_isName (by decide) ⟨by decide, by decide⟩ rfl (kR15 hS15.1 ta0) (Nat.le_of_ble_eq_true rfl) rfl rfl (by decide) (by decide) (k_X12_isName hS15.1 ta0) ?_
  rintro v26 cn' K' N' I22 R23 L24 ⟨rfl, rfl, rfl, rfl, rfl, rfl, h27, -⟩
  refine q_if_ne 25 dX12_readCall_17 (by decide) (fun h28 => ?_) (fun h28 => ?_)
  · skip
    refine tr_aload_n dX12_readCall_25 rfl ?_
    refine tr_getR dX12_readCall_26 fl12_188 (kR15 hS15.1 ta0) d2 ?_
    refine tr_aload_n dX12_readCall_29 rfl ?_
    refine q_getL dX12_readCall_30 fl12_118 (kR15 hS15.1 ta0) ?_
    intro y29
    refine q_callVi hE (M' := mX11_find) (as := [_]) dX12_readCall_33 lk12_201 inX11_find seX11_find myX11_find (by decide) ⟨by decide, by decide⟩ rfl (kR14 hS15.1 ta1) (Nat.le_of_ble_eq_true rfl) rfl rfl (by decide) (by decide) (k_X11_find hS15.1 ta1) ?_
    rintro v34 cn' K' N' I30 R31 L32 ⟨rfl, rfl, rfl, rfl, rfl, rfl, h35, -⟩
    refine tr_istore_n dX12_readCall_36 (by decide) (by decide) ?_
    refine tr_iload_n dX12_readCall_37 rfl ?_
    refine q_iconst dX12_readCall_38 (by decide) ?_
    intro v36 h37
    refine q_icmp_eq 55 dX12_readCall_39 (by decide) (fun h38 => ?_) (fun h38 => ?_)
    · skip
      refine tr_aload_n dX12_readCall_55 rfl ?_
      refine q_iconst dX12_readCall_56 (by decide) ?_
      intro v39 h40
      obtain ⟨v41, c42⟩ : ∃ v, I8 a0 8 = v := ⟨_, rfl⟩
      have b43 := iv15_8 hS15.1 ta0 c42
      refine q_callVv hE (M' := mX12_flaw) (as := [_]) dX12_readCall_57 lk12_145 inX12_flaw seX12_flaw myX12_flaw (by decide) ⟨by decide, by decide⟩ rfl (kR15 hS15.1 ta0) (Nat.le_of_ble_eq_true rfl) rfl rfl (by decide) (by decide) (k_X12_flaw hS15.1 ta0 (by omega)) ?_
      rintro cn' K' N' I44 R45 L46 ⟨rfl, rfl, rfl, rfl, rfl, g47, p49, p50, w51, -⟩
      have hS52 := hS15.tr g47 (by decide +kernel) (by decide +kernel)
      have c53 : I44 a1 5 = v3 := (g47.cell ta1 (by decide +kernel)).trans c16
      have c54 : I44 a0 8 = v41 := (g47.cell ta0 (by decide +kernel)).trans c42
      have w55 : RdI a0 I0 I44 := w17.rd w51
      have gd56 := Gd.go gd21 w51.stick
      obtain ⟨v57, c58⟩ : ∃ v, I44 a0 9 = v := ⟨_, rfl⟩
      have b59 := iv15_9 hS52.1 ta0 c58
      rw [c58] at p49
      rw [c54] at p50
      rw [c42] at p50
      refine tr_aload_n dX12_readCall_60 rfl ?_
      refine q_getI dX12_readCall_61 fl12_99 (kR15 hS52.1 ta0) c58 ?_
      refine q_iconst dX12_readCall_64 (by decide) ?_
      intro v60 h61
      refine q_icmp_ne 72 dX12_readCall_65 (by decide) (fun h62 => ?_) (fun h62 => ?_)
      · skip
        exfalso; omega
      · skip
        refine q_iconst dX12_readCall_68 (by decide) ?_
        intro v63 h64
        refine tr_goto 81 dX12_readCall_69 (by decide) ?_
        refine tr_istore_n dX12_readCall_81 (by decide) (by decide) ?_
        refine tr_aload_n dX12_readCall_82 rfl ?_
        obtain ⟨v65, c66⟩ : ∃ v, I44 a0 13 = v := ⟨_, rfl⟩
        refine q_callVv hE (M' := mX12_goesOn) (as := []) dX12_readCall_83 lk12_142 inX12_goesOn seX12_goesOn myX12_goesOn (by decide) ⟨by decide, by decide⟩ rfl (kR15 hS52.1 ta0) (Nat.le_of_ble_eq_true rfl) rfl rfl (by decide) (by decide) (k_X12_goesOn hS52.1 ta0) ?_
        rintro cn' K' N' I67 R68 L69 ⟨rfl, rfl, rfl, rfl, g70, p72, p73, p74, w75, -⟩
        have hS76 := hS52.tr g70 (by decide +kernel) (by decide +kernel)
        have c77 : I67 a1 5 = v3 := (g70.cell ta1 (by decide +kernel)).trans c53
        have c78 : I67 a0 13 = v65 := (g70.cell ta0 (by decide +kernel)).trans c66
        have w79 : RdI a0 I0 I67 := w55.rd w75
        have gd80 := Gd.go gd56 w75.stick
        obtain ⟨v81, c82⟩ : ∃ v, I67 a0 9 = v := ⟨_, rfl⟩
        have b83 := iv15_9 hS76.1 ta0 c82
        rw [c58] at p72
        rw [c82] at p72
        rw [c58] at p73
        rw [c82] at p73
        obtain ⟨v84, c85⟩ : ∃ v, I67 a0 8 = v := ⟨_, rfl⟩
        have b86 := iv15_8 hS76.1 ta0 c85
        rw [c85] at p74
        rw [c54] at p74
        rw [c78] at p74
        rw [c66] at p74
        refine tr_aload_n dX12_readCall_86 rfl ?_
        refine tr_ldcwS dX12_readCall_87 ld12_352 ?_
        refine q_iconst dX12_readCall_90 (by decide) ?_
        intro v87 h88
        refine tr_aload_n dX12_readCall_91 rfl ?_
        refine tr_getR dX12_readCall_92 fl12_188 (kR15 hS76.1 ta0) d2 ?_
        obtain ⟨v89, c90⟩ : ∃ v, I0 a1 0 = v := ⟨_, rfl⟩
        have b91 := iv14_0 hW0 ta1 c90
        refine q_getI dX12_readCall_95 fl12_192 (kR14 hS76.1 ta1) ((hS76.cell ta1 (by decide +kernel)).trans c90) ?_
        refine q_iconst dX12_readCall_98 (by decide) ?_
        intro v92 h93
        refine q_isubE dX12_readCall_99 (by intros; omega) ?_
        intro v94 h95
        refine q_callVi hE (M' := mX12_readPart) (as := [_, _, _]) dX12_readCall_100 lk12_249 inX12_readPart seX12_readPart myX12_readPart (by decide) ⟨by decide, by decide⟩ rfl (kR15 hS76.1 ta0) (Nat.le_of_ble_eq_true rfl) rfl rfl (by decide) (by decide) (k_X12_readPart hS76.1 ta0 (by decide)) ?_
        rintro v100 cn' K' N' I96 R97 L98 ⟨rfl, rfl, rfl, rfl, g99, p101, w102, -⟩
        have hS103 := hS76.tr g99 (by decide +kernel) (by decide +kernel)
        have c104 : I96 a1 5 = v3 := (g99.cell ta1 (by decide +kernel)).trans c77
        have w105 : RdI a0 I0 I96 := w79.rd w102
        have gd106 := Gd.go gd80 w102.stick
        have b107 : 0 ≤ v100.toInt ∧ v100.toInt ≤ 239 := by omega
        clear p101
        refine tr_istore_n dX12_readCall_103 (by decide) (by decide) ?_
        refine tr_aload_n dX12_readCall_104 rfl ?_
        refine tr_ldcwS dX12_readCall_105 ld12_354 ?_
        refine q_iconst dX12_readCall_108 (by decide) ?_
        intro v108 h109
        refine q_bipush dX12_readCall_109 (by decide +kernel) ?_
        intro v110 h111
        refine q_callVi hE (M' := mX12_readPart) (as := [_, _, _]) dX12_readCall_111 lk12_249 inX12_readPart seX12_readPart myX12_readPart (by decide) ⟨by decide, by decide⟩ rfl (kR15 hS103.1 ta0) (Nat.le_of_ble_eq_true rfl) rfl rfl (by decide) (by decide) (k_X12_readPart hS103.1 ta0 (by decide)) ?_
        rintro v116 cn' K' N' I112 R113 L114 ⟨rfl, rfl, rfl, rfl, g115, p117, w118, -⟩
        have hS119 := hS103.tr g115 (by decide +kernel) (by decide +kernel)
        have c120 : I112 a1 5 = v3 := (g115.cell ta1 (by decide +kernel)).trans c104
        have w121 : RdI a0 I0 I112 := w105.rd w118
        have gd122 := Gd.go gd106 w118.stick
        have b123 : 1 ≤ v116.toInt ∧ v116.toInt ≤ 60 := by omega
        clear p117
        refine tr_istore dX12_readCall_114 (by decide) (by decide) ?_
        refine tr_aload_n dX12_readCall_116 rfl ?_
        refine tr_ldcwS dX12_readCall_117 ld12_356 ?_
        refine q_iconst dX12_readCall_120 (by decide) ?_
        intro v124 h125
        refine q_bipush dX12_readCall_121 (by decide +kernel) ?_
        intro v126 h127
        refine q_callVi hE (M' := mX12_readPart) (as := [_, _, _]) dX12_readCall_123 lk12_249 inX12_readPart seX12_readPart myX12_readPart (by decide) ⟨by decide, by decide⟩ rfl (kR15 hS119.1 ta0) (Nat.le_of_ble_eq_true rfl) rfl rfl (by decide) (by decide) (k_X12_readPart hS119.1 ta0 (by decide)) ?_
        rintro v132 cn' K' N' I128 R129 L130 ⟨rfl, rfl, rfl, rfl, g131, p133, w134, -⟩
        have hS135 := hS119.tr g131 (by decide +kernel) (by decide +kernel)
        have c136 : I128 a1 5 = v3 := (g131.cell ta1 (by decide +kernel)).trans c120
        have w137 : RdI a0 I0 I128 := w121.rd w134
        have gd138 := Gd.go gd122 w134.stick
        have b139 : 0 ≤ v132.toInt ∧ v132.toInt ≤ 99 := by omega
        clear p133
        refine tr_istore dX12_readCall_126 (by decide) (by decide) ?_
        refine tr_aload_n dX12_readCall_128 rfl ?_
        obtain ⟨v140, c141⟩ : ∃ v, I128 a0 9 = v := ⟨_, rfl⟩
        have b142 := iv15_9 hS135.1 ta0 c141
        refine q_getI dX12_readCall_129 fl12_99 (kR15 hS135.1 ta0) c141 ?_
        refine q_iconst dX12_readCall_132 (by decide) ?_
        intro v143 h144
        refine q_icmp_ne 137 dX12_readCall_133 (by decide) (fun h145 => ?_) (fun h145 => ?_)
        · skip
          have p146 := gd138 (by rw [c141]; omega)
          refine tr_aload_n dX12_readCall_137 rfl ?_
          refine tr_getR dX12_readCall_138 fl12_188 (kR15 hS135.1 ta0) d2 ?_
          obtain ⟨a147, d148, ta147⟩ := rf14_26 hW0 ta1
          refine tr_getR dX12_readCall_141 fl12_358 (kR14 hS135.1 ta1) d148 ?_
          refine tr_aload_n dX12_readCall_144 rfl ?_
          refine tr_getR dX12_readCall_145 fl12_188 (kR15 hS135.1 ta0) d2 ?_
          refine q_getI dX12_readCall_148 fl12_349 (kR14 hS135.1 ta1) c136 ?_
          refine tr_iload_n dX12_readCall_151 rfl ?_
          refine q_iast dX12_readCall_152 (kR69 hS135.1 ta147) (ti_in (nR69 hS135.1 ta147) (by omega) (by omega)) hS135 ta147 (iokF rfl) rfl (by rfl) ?_
          intro I149 hS150 e152 f151
          have c153 : I149 a1 5 = v3 := (f151 _ _ (fun q => by have z := ta1; rw [q.1, ta147] at z; exact absurd z (by decide))).trans c136
          have c154 : I149 a0 9 = v140 := (f151 _ _ (fun q => by have z := ta0; rw [q.1, ta147] at z; exact absurd z (by decide))).trans c141
          have w155 : RdI a0 I0 I149 := w137.keep (f151 _ _ (fun q => by have z := ta0; rw [q.1, ta147] at z; exact absurd z (by decide))) (f151 _ _ (fun q => by have z := ta0; rw [q.1, ta147] at z; exact absurd z (by decide))) (f151 _ _ (fun q => by have z := ta0; rw [q.1, ta147] at z; exact absurd z (by decide))) (f151 _ _ (fun q => by have z := ta0; rw [q.1, ta147] at z; exact absurd z (by decide)))
          have gd156 := Gd.keep gd138 (f151 _ _ (fun q => by have z := ta0; rw [q.1, ta147] at z; exact absurd z (by decide)))
          refine tr_aload_n dX12_readCall_153 rfl ?_
          refine tr_getR dX12_readCall_154 fl12_188 (kR15 hS150.1 ta0) d2 ?_
          obtain ⟨a157, d158, ta157⟩ := rf14_27 hW0 ta1
          refine tr_getR dX12_readCall_157 fl12_361 (kR14 hS150.1 ta1) d158 ?_
          refine tr_aload_n dX12_readCall_160 rfl ?_
          refine tr_getR dX12_readCall_161 fl12_188 (kR15 hS150.1 ta0) d2 ?_
          refine q_getI dX12_readCall_164 fl12_349 (kR14 hS150.1 ta1) c153 ?_
          refine tr_iload_n dX12_readCall_167 rfl ?_
          refine q_iast dX12_readCall_168 (kR70 hS150.1 ta157) (ti_in (nR70 hS150.1 ta157) (by omega) (by omega)) hS150 ta157 (iokF rfl) rfl (by rfl) ?_
          intro I159 hS160 e162 f161
          have c163 : I159 a1 5 = v3 := (f161 _ _ (fun q => by have z := ta1; rw [q.1, ta157] at z; exact absurd z (by decide))).trans c153
          have c164 : I159 a0 9 = v140 := (f161 _ _ (fun q => by have z := ta0; rw [q.1, ta157] at z; exact absurd z (by decide))).trans c154
          have w165 : RdI a0 I0 I159 := w155.keep (f161 _ _ (fun q => by have z := ta0; rw [q.1, ta157] at z; exact absurd z (by decide))) (f161 _ _ (fun q => by have z := ta0; rw [q.1, ta157] at z; exact absurd z (by decide))) (f161 _ _ (fun q => by have z := ta0; rw [q.1, ta157] at z; exact absurd z (by decide))) (f161 _ _ (fun q => by have z := ta0; rw [q.1, ta157] at z; exact absurd z (by decide)))
          have gd166 := Gd.keep gd156 (f161 _ _ (fun q => by have z := ta0; rw [q.1, ta157] at z; exact absurd z (by decide)))
          refine tr_aload_n dX12_readCall_169 rfl ?_
          refine tr_getR dX12_readCall_170 fl12_188 (kR15 hS160.1 ta0) d2 ?_
          obtain ⟨a167, d168, ta167⟩ := rf14_28 hW0 ta1
          refine tr_getR dX12_readCall_173 fl12_364 (kR14 hS160.1 ta1) d168 ?_
          refine tr_aload_n dX12_readCall_176 rfl ?_
          refine tr_getR dX12_readCall_177 fl12_188 (kR15 hS160.1 ta0) d2 ?_
          refine q_getI dX12_readCall_180 fl12_349 (kR14 hS160.1 ta1) c163 ?_
          refine tr_iload dX12_readCall_183 rfl ?_
          refine q_iast dX12_readCall_185 (kR71 hS160.1 ta167) (ti_in (nR71 hS160.1 ta167) (by omega) (by omega)) hS160 ta167 (iokF rfl) rfl (by rfl) ?_
          intro I169 hS170 e172 f171
          have c173 : I169 a1 5 = v3 := (f171 _ _ (fun q => by have z := ta1; rw [q.1, ta167] at z; exact absurd z (by decide))).trans c163
          have c174 : I169 a0 9 = v140 := (f171 _ _ (fun q => by have z := ta0; rw [q.1, ta167] at z; exact absurd z (by decide))).trans c164
          have w175 : RdI a0 I0 I169 := w165.keep (f171 _ _ (fun q => by have z := ta0; rw [q.1, ta167] at z; exact absurd z (by decide))) (f171 _ _ (fun q => by have z := ta0; rw [q.1, ta167] at z; exact absurd z (by decide))) (f171 _ _ (fun q => by have z := ta0; rw [q.1, ta167] at z; exact absurd z (by decide))) (f171 _ _ (fun q => by have z := ta0; rw [q.1, ta167] at z; exact absurd z (by decide)))
          have gd176 := Gd.keep gd166 (f171 _ _ (fun q => by have z := ta0; rw [q.1, ta167] at z; exact absurd z (by decide)))
          refine tr_aload_n dX12_readCall_186 rfl ?_
          refine tr_getR dX12_readCall_187 fl12_188 (kR15 hS170.1 ta0) d2 ?_
          obtain ⟨a177, d178, ta177⟩ := rf14_29 hW0 ta1
          refine tr_getR dX12_readCall_190 fl12_367 (kR14 hS170.1 ta1) d178 ?_
          refine tr_aload_n dX12_readCall_193 rfl ?_
          refine tr_getR dX12_readCall_194 fl12_188 (kR15 hS170.1 ta0) d2 ?_
          refine q_getI dX12_readCall_197 fl12_349 (kR14 hS170.1 ta1) c173 ?_
          refine tr_iload dX12_readCall_200 rfl ?_
          refine q_iast dX12_readCall_202 (kR72 hS170.1 ta177) (ti_in (nR72 hS170.1 ta177) (by omega) (by omega)) hS170 ta177 (iokF rfl) rfl (by rfl) ?_
          intro I179 hS180 e182 f181
          have c183 : I179 a1 5 = v3 := (f181 _ _ (fun q => by have z := ta1; rw [q.1, ta177] at z; exact absurd z (by decide))).trans c173
          have c184 : I179 a0 9 = v140 := (f181 _ _ (fun q => by have z := ta0; rw [q.1, ta177] at z; exact absurd z (by decide))).trans c174
          have w185 : RdI a0 I0 I179 := w175.keep (f181 _ _ (fun q => by have z := ta0; rw [q.1, ta177] at z; exact absurd z (by decide))) (f181 _ _ (fun q => by have z := ta0; rw [q.1, ta177] at z; exact absurd z (by decide))) (f181 _ _ (fun q => by have z := ta0; rw [q.1, ta177] at z; exact absurd z (by decide))) (f181 _ _ (fun q => by have z := ta0; rw [q.1, ta177] at z; exact absurd z (by decide)))
          have gd186 := Gd.keep gd176 (f181 _ _ (fun q => by have z := ta0; rw [q.1, ta177] at z; exact absurd z (by decide)))
          refine tr_aload_n dX12_readCall_203 rfl ?_
          refine tr_getR dX12_readCall_204 fl12_188 (kR15 hS180.1 ta0) d2 ?_
          refine tr_dup dX12_readCall_207 rfl ?_
          refine q_getI dX12_readCall_208 fl12_349 (kR14 hS180.1 ta1) c183 ?_
          refine q_iconst dX12_readCall_211 (by decide) ?_
          intro v187 h188
          refine q_iaddE dX12_readCall_212 (by intros; omega) ?_
          intro v189 h190
          refine q_putI dX12_readCall_213 fl12_349 (kR14 hS180.1 ta1) (Or.inl rfl) hS180 ta1 (by show (0 : Int) ≤ v189.toInt ∧ v189.toInt ≤ (6 : Int); omega) rfl (by decide +kernel) ?_
          intro I191 hS192 e193 f194
          have c195 : I191 a0 9 = v140 := (f194 _ _ (fun q => absurd q.2 (by decide))).trans c184
          have w196 : RdI a0 I0 I191 := w185.keep (f194 _ _ (fun q => absurd q.2 (by decide))) (f194 _ _ (fun q => absurd q.2 (by decide))) (f194 _ _ (fun q => absurd q.2 (by decide))) (f194 _ _ (fun q => absurd q.2 (by decide)))
          have gd197 := Gd.keep gd186 (f194 _ _ (fun q => absurd q.2 (by decide)))
          exact tr_vret hZ dX12_readCall_216 rfl (by decide) (by decide) ⟨rfl, rfl, rfl, rfl, rfl, hS192, w196, trivial⟩
        · skip
          exact tr_vret hZ dX12_readCall_136 rfl (by decide) (by decide) ⟨rfl, rfl, rfl, rfl, rfl, hS135, w137, trivial⟩
    · skip
      refine tr_aload_n dX12_readCall_42 rfl ?_
      refine tr_getR dX12_readCall_43 fl12_188 (kR15 hS15.1 ta0) d2 ?_
      obtain ⟨a198, d199, ta198⟩ := rf14_31 hW0 ta1
      refine tr_getR dX12_readCall_46 fl12_212 (kR14 hS15.1 ta1) d199 ?_
      refine tr_iload_n dX12_readCall_49 rfl ?_
      refine q_iald dX12_readCall_50 (kR74 hS15.1 ta198) (ti_in (nR74 hS15.1 ta198) (by omega) (by omega)) ?_
      intro v200 c201
      refine q_iconst dX12_readCall_51 (by decide) ?_
      intro v202 h203
      refine q_icmp_eq 60 dX12_readCall_52 (by decide) (fun h204 => ?_) (fun h204 => ?_)
      · skip
        refine tr_aload_n dX12_readCall_60 rfl ?_
        refine q_getI dX12_readCall_61 fl12_99 (kR15 hS15.1 ta0) c19 ?_
        refine q_iconst dX12_readCall_64 (by decide) ?_
        intro v205 h206
        refine q_icmp_ne 72 dX12_readCall_65 (by decide) (fun h207 => ?_) (fun h207 => ?_)
        · skip
          have p208 := gd21 (by rw [c19]; omega)
          refine tr_aload_n dX12_readCall_72 rfl ?_
          refine tr_getR dX12_readCall_73 fl12_188 (kR15 hS15.1 ta0) d2 ?_
          obtain ⟨a209, d210, ta209⟩ := rf14_32 hW0 ta1
          refine tr_getR dX12_readCall_76 fl12_215 (kR14 hS15.1 ta1) d210 ?_
          refine tr_iload_n dX12_readCall_79 rfl ?_
          refine q_iald dX12_readCall_80 (kR75 hS15.1 ta209) (ti_in (nR75 hS15.1 ta209) (by omega) (by omega)) ?_
          intro v211 c212
          refine tr_istore_n dX12_readCall_81 (by decide) (by decide) ?_
          refine tr_aload_n dX12_readCall_82 rfl ?_
          obtain ⟨v213, c214⟩ : ∃ v, I8 a0 8 = v := ⟨_, rfl⟩
          have b215 := iv15_8 hS15.1 ta0 c214
          obtain ⟨v216, c217⟩ : ∃ v, I8 a0 13 = v := ⟨_, rfl⟩
          refine q_callVv hE (M' := mX12_goesOn) (as := []) dX12_readCall_83 lk12_142 inX12_goesOn seX12_goesOn myX12_goesOn (by decide) ⟨by decide, by decide⟩ rfl (kR15 hS15.1 ta0) (Nat.le_of_ble_eq_true rfl) rfl rfl (by decide) (by decide) (k_X12_goesOn hS15.1 ta0) ?_
          rintro cn' K' N' I218 R219 L220 ⟨rfl, rfl, rfl, rfl, g221, p223, p224, p225, w226, -⟩
          have hS227 := hS15.tr g221 (by decide +kernel) (by decide +kernel)
          have c228 : I218 a1 5 = v3 := (g221.cell ta1 (by decide +kernel)).trans c16
          have c229 : I218 a0 13 = v216 := (g221.cell ta0 (by decide +kernel)).trans c217
          have w230 : RdI a0 I0 I218 := w17.rd w226
          have gd231 := Gd.go gd21 w226.stick
          obtain ⟨v232, c233⟩ : ∃ v, I218 a0 9 = v := ⟨_, rfl⟩
          have b234 := iv15_9 hS227.1 ta0 c233
          rw [c19] at p223
          rw [c233] at p223
          rw [c19] at p224
          rw [c233] at p224
          obtain ⟨v235, c236⟩ : ∃ v, I218 a0 8 = v := ⟨_, rfl⟩
          have b237 := iv15_8 hS227.1 ta0 c236
          rw [c236] at p225
          rw [c214] at p225
          rw [c229] at p225
          rw [c217] at p225
          refine tr_aload_n dX12_readCall_86 rfl ?_
          refine tr_ldcwS dX12_readCall_87 ld12_352 ?_
          refine q_iconst dX12_readCall_90 (by decide) ?_
          intro v238 h239
          refine tr_aload_n dX12_readCall_91 rfl ?_
          refine tr_getR dX12_readCall_92 fl12_188 (kR15 hS227.1 ta0) d2 ?_
          obtain ⟨v240, c241⟩ : ∃ v, I0 a1 0 = v := ⟨_, rfl⟩
          have b242 := iv14_0 hW0 ta1 c241
          refine q_getI dX12_readCall_95 fl12_192 (kR14 hS227.1 ta1) ((hS227.cell ta1 (by decide +kernel)).trans c241) ?_
          refine q_iconst dX12_readCall_98 (by decide) ?_
          intro v243 h244
          refine q_isubE dX12_readCall_99 (by intros; omega) ?_
          intro v245 h246
          refine q_callVi hE (M' := mX12_readPart) (as := [_, _, _]) dX12_readCall_100 lk12_249 inX12_readPart seX12_readPart myX12_readPart (by decide) ⟨by decide, by decide⟩ rfl (kR15 hS227.1 ta0) (Nat.le_of_ble_eq_true rfl) rfl rfl (by decide) (by decide) (k_X12_readPart hS227.1 ta0 (by decide)) ?_
          rintro v251 cn' K' N' I247 R248 L249 ⟨rfl, rfl, rfl, rfl, g250, p252, w253, -⟩
          have hS254 := hS227.tr g250 (by decide +kernel) (by decide +kernel)
          have c255 : I247 a1 5 = v3 := (g250.cell ta1 (by decide +kernel)).trans c228
          have w256 : RdI a0 I0 I247 := w230.rd w253
          have gd257 := Gd.go gd231 w253.stick
          have b258 : 0 ≤ v251.toInt ∧ v251.toInt ≤ 239 := by omega
          clear p252
          refine tr_istore_n dX12_readCall_103 (by decide) (by decide) ?_
          refine tr_aload_n dX12_readCall_104 rfl ?_
          refine tr_ldcwS dX12_readCall_105 ld12_354 ?_
          refine q_iconst dX12_readCall_108 (by decide) ?_
          intro v259 h260
          refine q_bipush dX12_readCall_109 (by decide +kernel) ?_
          intro v261 h262
          refine q_callVi hE (M' := mX12_readPart) (as := [_, _, _]) dX12_readCall_111 lk12_249 inX12_readPart seX12_readPart myX12_readPart (by decide) ⟨by decide, by decide⟩ rfl (kR15 hS254.1 ta0) (Nat.le_of_ble_eq_true rfl) rfl rfl (by decide) (by decide) (k_X12_readPart hS254.1 ta0 (by decide)) ?_
          rintro v267 cn' K' N' I263 R264 L265 ⟨rfl, rfl, rfl, rfl, g266, p268, w269, -⟩
          have hS270 := hS254.tr g266 (by decide +kernel) (by decide +kernel)
          have c271 : I263 a1 5 = v3 := (g266.cell ta1 (by decide +kernel)).trans c255
          have w272 : RdI a0 I0 I263 := w256.rd w269
          have gd273 := Gd.go gd257 w269.stick
          have b274 : 1 ≤ v267.toInt ∧ v267.toInt ≤ 60 := by omega
          clear p268
          refine tr_istore dX12_readCall_114 (by decide) (by decide) ?_
          refine tr_aload_n dX12_readCall_116 rfl ?_
          refine tr_ldcwS dX12_readCall_117 ld12_356 ?_
          refine q_iconst dX12_readCall_120 (by decide) ?_
          intro v275 h276
          refine q_bipush dX12_readCall_121 (by decide +kernel) ?_
          intro v277 h278
          refine q_callVi hE (M' := mX12_readPart) (as := [_, _, _]) dX12_readCall_123 lk12_249 inX12_readPart seX12_readPart myX12_readPart (by decide) ⟨by decide, by decide⟩ rfl (kR15 hS270.1 ta0) (Nat.le_of_ble_eq_true rfl) rfl rfl (by decide) (by decide) (k_X12_readPart hS270.1 ta0 (by decide)) ?_
          rintro v283 cn' K' N' I279 R280 L281 ⟨rfl, rfl, rfl, rfl, g282, p284, w285, -⟩
          have hS286 := hS270.tr g282 (by decide +kernel) (by decide +kernel)
          have c287 : I279 a1 5 = v3 := (g282.cell ta1 (by decide +kernel)).trans c271
          have w288 : RdI a0 I0 I279 := w272.rd w285
          have gd289 := Gd.go gd273 w285.stick
          have b290 : 0 ≤ v283.toInt ∧ v283.toInt ≤ 99 := by omega
          clear p284
          refine tr_istore dX12_readCall_126 (by decide) (by decide) ?_
          refine tr_aload_n dX12_readCall_128 rfl ?_
          obtain ⟨v291, c292⟩ : ∃ v, I279 a0 9 = v := ⟨_, rfl⟩
          have b293 := iv15_9 hS286.1 ta0 c292
          refine q_getI dX12_readCall_129 fl12_99 (kR15 hS286.1 ta0) c292 ?_
          refine q_iconst dX12_readCall_132 (by decide) ?_
          intro v294 h295
          refine q_icmp_ne 137 dX12_readCall_133 (by decide) (fun h296 => ?_) (fun h296 => ?_)
          · skip
            refine tr_aload_n dX12_readCall_137 rfl ?_
            refine tr_getR dX12_readCall_138 fl12_188 (kR15 hS286.1 ta0) d2 ?_
            obtain ⟨a297, d298, ta297⟩ := rf14_26 hW0 ta1
            refine tr_getR dX12_readCall_141 fl12_358 (kR14 hS286.1 ta1) d298 ?_
            refine tr_aload_n dX12_readCall_144 rfl ?_
            refine tr_getR dX12_readCall_145 fl12_188 (kR15 hS286.1 ta0) d2 ?_
            refine q_getI dX12_readCall_148 fl12_349 (kR14 hS286.1 ta1) c287 ?_
            refine tr_iload_n dX12_readCall_151 rfl ?_
            refine q_iast dX12_readCall_152 (kR69 hS286.1 ta297) (ti_in (nR69 hS286.1 ta297) (by omega) (by omega)) hS286 ta297 (iokF rfl) rfl (by rfl) ?_
            intro I299 hS300 e302 f301
            have c303 : I299 a1 5 = v3 := (f301 _ _ (fun q => by have z := ta1; rw [q.1, ta297] at z; exact absurd z (by decide))).trans c287
            have c304 : I299 a0 9 = v291 := (f301 _ _ (fun q => by have z := ta0; rw [q.1, ta297] at z; exact absurd z (by decide))).trans c292
            have w305 : RdI a0 I0 I299 := w288.keep (f301 _ _ (fun q => by have z := ta0; rw [q.1, ta297] at z; exact absurd z (by decide))) (f301 _ _ (fun q => by have z := ta0; rw [q.1, ta297] at z; exact absurd z (by decide))) (f301 _ _ (fun q => by have z := ta0; rw [q.1, ta297] at z; exact absurd z (by decide))) (f301 _ _ (fun q => by have z := ta0; rw [q.1, ta297] at z; exact absurd z (by decide)))
            have gd306 := Gd.keep gd289 (f301 _ _ (fun q => by have z := ta0; rw [q.1, ta297] at z; exact absurd z (by decide)))
            refine tr_aload_n dX12_readCall_153 rfl ?_
            refine tr_getR dX12_readCall_154 fl12_188 (kR15 hS300.1 ta0) d2 ?_
            obtain ⟨a307, d308, ta307⟩ := rf14_27 hW0 ta1
            refine tr_getR dX12_readCall_157 fl12_361 (kR14 hS300.1 ta1) d308 ?_
            refine tr_aload_n dX12_readCall_160 rfl ?_
            refine tr_getR dX12_readCall_161 fl12_188 (kR15 hS300.1 ta0) d2 ?_
            refine q_getI dX12_readCall_164 fl12_349 (kR14 hS300.1 ta1) c303 ?_
            refine tr_iload_n dX12_readCall_167 rfl ?_
            refine q_iast dX12_readCall_168 (kR70 hS300.1 ta307) (ti_in (nR70 hS300.1 ta307) (by omega) (by omega)) hS300 ta307 (iokF rfl) rfl (by rfl) ?_
            intro I309 hS310 e312 f311
            have c313 : I309 a1 5 = v3 := (f311 _ _ (fun q => by have z := ta1; rw [q.1, ta307] at z; exact absurd z (by decide))).trans c303
            have c314 : I309 a0 9 = v291 := (f311 _ _ (fun q => by have z := ta0; rw [q.1, ta307] at z; exact absurd z (by decide))).trans c304
            have w315 : RdI a0 I0 I309 := w305.keep (f311 _ _ (fun q => by have z := ta0; rw [q.1, ta307] at z; exact absurd z (by decide))) (f311 _ _ (fun q => by have z := ta0; rw [q.1, ta307] at z; exact absurd z (by decide))) (f311 _ _ (fun q => by have z := ta0; rw [q.1, ta307] at z; exact absurd z (by decide))) (f311 _ _ (fun q => by have z := ta0; rw [q.1, ta307] at z; exact absurd z (by decide)))
            have gd316 := Gd.keep gd306 (f311 _ _ (fun q => by have z := ta0; rw [q.1, ta307] at z; exact absurd z (by decide)))
            refine tr_aload_n dX12_readCall_169 rfl ?_
            refine tr_getR dX12_readCall_170 fl12_188 (kR15 hS310.1 ta0) d2 ?_
            obtain ⟨a317, d318, ta317⟩ := rf14_28 hW0 ta1
            refine tr_getR dX12_readCall_173 fl12_364 (kR14 hS310.1 ta1) d318 ?_
            refine tr_aload_n dX12_readCall_176 rfl ?_
            refine tr_getR dX12_readCall_177 fl12_188 (kR15 hS310.1 ta0) d2 ?_
            refine q_getI dX12_readCall_180 fl12_349 (kR14 hS310.1 ta1) c313 ?_
            refine tr_iload dX12_readCall_183 rfl ?_
            refine q_iast dX12_readCall_185 (kR71 hS310.1 ta317) (ti_in (nR71 hS310.1 ta317) (by omega) (by omega)) hS310 ta317 (iokF rfl) rfl (by rfl) ?_
            intro I319 hS320 e322 f321
            have c323 : I319 a1 5 = v3 := (f321 _ _ (fun q => by have z := ta1; rw [q.1, ta317] at z; exact absurd z (by decide))).trans c313
            have c324 : I319 a0 9 = v291 := (f321 _ _ (fun q => by have z := ta0; rw [q.1, ta317] at z; exact absurd z (by decide))).trans c314
            have w325 : RdI a0 I0 I319 := w315.keep (f321 _ _ (fun q => by have z := ta0; rw [q.1, ta317] at z; exact absurd z (by decide))) (f321 _ _ (fun q => by have z := ta0; rw [q.1, ta317] at z; exact absurd z (by decide))) (f321 _ _ (fun q => by have z := ta0; rw [q.1, ta317] at z; exact absurd z (by decide))) (f321 _ _ (fun q => by have z := ta0; rw [q.1, ta317] at z; exact absurd z (by decide)))
            have gd326 := Gd.keep gd316 (f321 _ _ (fun q => by have z := ta0; rw [q.1, ta317] at z; exact absurd z (by decide)))
            refine tr_aload_n dX12_readCall_186 rfl ?_
            refine tr_getR dX12_readCall_187 fl12_188 (kR15 hS320.1 ta0) d2 ?_
            obtain ⟨a327, d328, ta327⟩ := rf14_29 hW0 ta1
            refine tr_getR dX12_readCall_190 fl12_367 (kR14 hS320.1 ta1) d328 ?_
            refine tr_aload_n dX12_readCall_193 rfl ?_
            refine tr_getR dX12_readCall_194 fl12_188 (kR15 hS320.1 ta0) d2 ?_
            refine q_getI dX12_readCall_197 fl12_349 (kR14 hS320.1 ta1) c323 ?_
            refine tr_iload dX12_readCall_200 rfl ?_
            refine q_iast dX12_readCall_202 (kR72 hS320.1 ta327) (ti_in (nR72 hS320.1 ta327) (by omega) (by omega)) hS320 ta327 (iokF rfl) rfl (by rfl) ?_
            intro I329 hS330 e332 f331
            have c333 : I329 a1 5 = v3 := (f331 _ _ (fun q => by have z := ta1; rw [q.1, ta327] at z; exact absurd z (by decide))).trans c323
            have c334 : I329 a0 9 = v291 := (f331 _ _ (fun q => by have z := ta0; rw [q.1, ta327] at z; exact absurd z (by decide))).trans c324
            have w335 : RdI a0 I0 I329 := w325.keep (f331 _ _ (fun q => by have z := ta0; rw [q.1, ta327] at z; exact absurd z (by decide))) (f331 _ _ (fun q => by have z := ta0; rw [q.1, ta327] at z; exact absurd z (by decide))) (f331 _ _ (fun q => by have z := ta0; rw [q.1, ta327] at z; exact absurd z (by decide))) (f331 _ _ (fun q => by have z := ta0; rw [q.1, ta327] at z; exact absurd z (by decide)))
            have gd336 := Gd.keep gd326 (f331 _ _ (fun q => by have z := ta0; rw [q.1, ta327] at z; exact absurd z (by decide)))
            refine tr_aload_n dX12_readCall_203 rfl ?_
            refine tr_getR dX12_readCall_204 fl12_188 (kR15 hS330.1 ta0) d2 ?_
            refine tr_dup dX12_readCall_207 rfl ?_
            refine q_getI dX12_readCall_208 fl12_349 (kR14 hS330.1 ta1) c333 ?_
            refine q_iconst dX12_readCall_211 (by decide) ?_
            intro v337 h338
            refine q_iaddE dX12_readCall_212 (by intros; omega) ?_
            intro v339 h340
            refine q_putI dX12_readCall_213 fl12_349 (kR14 hS330.1 ta1) (Or.inl rfl) hS330 ta1 (by show (0 : Int) ≤ v339.toInt ∧ v339.toInt ≤ (6 : Int); omega) rfl (by decide +kernel) ?_
            intro I341 hS342 e343 f344
            have c345 : I341 a0 9 = v291 := (f344 _ _ (fun q => absurd q.2 (by decide))).trans c334
            have w346 : RdI a0 I0 I341 := w335.keep (f344 _ _ (fun q => absurd q.2 (by decide))) (f344 _ _ (fun q => absurd q.2 (by decide))) (f344 _ _ (fun q => absurd q.2 (by decide))) (f344 _ _ (fun q => absurd q.2 (by decide)))
            have gd347 := Gd.keep gd336 (f344 _ _ (fun q => absurd q.2 (by decide)))
            exact tr_vret hZ dX12_readCall_216 rfl (by decide) (by decide) ⟨rfl, rfl, rfl, rfl, rfl, hS342, w346, trivial⟩
          · skip
            exact tr_vret hZ dX12_readCall_136 rfl (by decide) (by decide) ⟨rfl, rfl, rfl, rfl, rfl, hS286, w288, trivial⟩
        · skip
          refine q_iconst dX12_readCall_68 (by decide) ?_
          intro v348 h349
          refine tr_goto 81 dX12_readCall_69 (by decide) ?_
          refine tr_istore_n dX12_readCall_81 (by decide) (by decide) ?_
          refine tr_aload_n dX12_readCall_82 rfl ?_
          obtain ⟨v350, c351⟩ : ∃ v, I8 a0 8 = v := ⟨_, rfl⟩
          have b352 := iv15_8 hS15.1 ta0 c351
          obtain ⟨v353, c354⟩ : ∃ v, I8 a0 13 = v := ⟨_, rfl⟩
          refine q_callVv hE (M' := mX12_goesOn) (as := []) dX12_readCall_83 lk12_142 inX12_goesOn seX12_goesOn myX12_goesOn (by decide) ⟨by decide, by decide⟩ rfl (kR15 hS15.1 ta0) (Nat.le_of_ble_eq_true rfl) rfl rfl (by decide) (by decide) (k_X12_goesOn hS15.1 ta0) ?_
          rintro cn' K' N' I355 R356 L357 ⟨rfl, rfl, rfl, rfl, g358, p360, p361, p362, w363, -⟩
          have hS364 := hS15.tr g358 (by decide +kernel) (by decide +kernel)
          have c365 : I355 a1 5 = v3 := (g358.cell ta1 (by decide +kernel)).trans c16
          have c366 : I355 a0 13 = v353 := (g358.cell ta0 (by decide +kernel)).trans c354
          have w367 : RdI a0 I0 I355 := w17.rd w363
          have gd368 := Gd.go gd21 w363.stick
          obtain ⟨v369, c370⟩ : ∃ v, I355 a0 9 = v := ⟨_, rfl⟩
          have b371 := iv15_9 hS364.1 ta0 c370
          rw [c19] at p360
          rw [c370] at p360
          rw [c19] at p361
          rw [c370] at p361
          obtain ⟨v372, c373⟩ : ∃ v, I355 a0 8 = v := ⟨_, rfl⟩
          have b374 := iv15_8 hS364.1 ta0 c373
          rw [c373] at p362
          rw [c351] at p362
          rw [c366] at p362
          rw [c354] at p362
          refine tr_aload_n dX12_readCall_86 rfl ?_
          refine tr_ldcwS dX12_readCall_87 ld12_352 ?_
          refine q_iconst dX12_readCall_90 (by decide) ?_
          intro v375 h376
          refine tr_aload_n dX12_readCall_91 rfl ?_
          refine tr_getR dX12_readCall_92 fl12_188 (kR15 hS364.1 ta0) d2 ?_
          obtain ⟨v377, c378⟩ : ∃ v, I0 a1 0 = v := ⟨_, rfl⟩
          have b379 := iv14_0 hW0 ta1 c378
          refine q_getI dX12_readCall_95 fl12_192 (kR14 hS364.1 ta1) ((hS364.cell ta1 (by decide +kernel)).trans c378) ?_
          refine q_iconst dX12_readCall_98 (by decide) ?_
          intro v380 h381
          refine q_isubE dX12_readCall_99 (by intros; omega) ?_
          intro v382 h383
          refine q_callVi hE (M' := mX12_readPart) (as := [_, _, _]) dX12_readCall_100 lk12_249 inX12_readPart seX12_readPart myX12_readPart (by decide) ⟨by decide, by decide⟩ rfl (kR15 hS364.1 ta0) (Nat.le_of_ble_eq_true rfl) rfl rfl (by decide) (by decide) (k_X12_readPart hS364.1 ta0 (by decide)) ?_
          rintro v388 cn' K' N' I384 R385 L386 ⟨rfl, rfl, rfl, rfl, g387, p389, w390, -⟩
          have hS391 := hS364.tr g387 (by decide +kernel) (by decide +kernel)
          have c392 : I384 a1 5 = v3 := (g387.cell ta1 (by decide +kernel)).trans c365
          have w393 : RdI a0 I0 I384 := w367.rd w390
          have gd394 := Gd.go gd368 w390.stick
          have b395 : 0 ≤ v388.toInt ∧ v388.toInt ≤ 239 := by omega
          clear p389
          refine tr_istore_n dX12_readCall_103 (by decide) (by decide) ?_
          refine tr_aload_n dX12_readCall_104 rfl ?_
          refine tr_ldcwS dX12_readCall_105 ld12_354 ?_
          refine q_iconst dX12_readCall_108 (by decide) ?_
          intro v396 h397
          refine q_bipush dX12_readCall_109 (by decide +kernel) ?_
          intro v398 h399
          refine q_callVi hE (M' := mX12_readPart) (as := [_, _, _]) dX12_readCall_111 lk12_249 inX12_readPart seX12_readPart myX12_readPart (by decide) ⟨by decide, by decide⟩ rfl (kR15 hS391.1 ta0) (Nat.le_of_ble_eq_true rfl) rfl rfl (by decide) (by decide) (k_X12_readPart hS391.1 ta0 (by decide)) ?_
          rintro v404 cn' K' N' I400 R401 L402 ⟨rfl, rfl, rfl, rfl, g403, p405, w406, -⟩
          have hS407 := hS391.tr g403 (by decide +kernel) (by decide +kernel)
          have c408 : I400 a1 5 = v3 := (g403.cell ta1 (by decide +kernel)).trans c392
          have w409 : RdI a0 I0 I400 := w393.rd w406
          have gd410 := Gd.go gd394 w406.stick
          have b411 : 1 ≤ v404.toInt ∧ v404.toInt ≤ 60 := by omega
          clear p405
          refine tr_istore dX12_readCall_114 (by decide) (by decide) ?_
          refine tr_aload_n dX12_readCall_116 rfl ?_
          refine tr_ldcwS dX12_readCall_117 ld12_356 ?_
          refine q_iconst dX12_readCall_120 (by decide) ?_
          intro v412 h413
          refine q_bipush dX12_readCall_121 (by decide +kernel) ?_
          intro v414 h415
          refine q_callVi hE (M' := mX12_readPart) (as := [_, _, _]) dX12_readCall_123 lk12_249 inX12_readPart seX12_readPart myX12_readPart (by decide) ⟨by decide, by decide⟩ rfl (kR15 hS407.1 ta0) (Nat.le_of_ble_eq_true rfl) rfl rfl (by decide) (by decide) (k_X12_readPart hS407.1 ta0 (by decide)) ?_
          rintro v420 cn' K' N' I416 R417 L418 ⟨rfl, rfl, rfl, rfl, g419, p421, w422, -⟩
          have hS423 := hS407.tr g419 (by decide +kernel) (by decide +kernel)
          have c424 : I416 a1 5 = v3 := (g419.cell ta1 (by decide +kernel)).trans c408
          have w425 : RdI a0 I0 I416 := w409.rd w422
          have gd426 := Gd.go gd410 w422.stick
          have b427 : 0 ≤ v420.toInt ∧ v420.toInt ≤ 99 := by omega
          clear p421
          refine tr_istore dX12_readCall_126 (by decide) (by decide) ?_
          refine tr_aload_n dX12_readCall_128 rfl ?_
          obtain ⟨v428, c429⟩ : ∃ v, I416 a0 9 = v := ⟨_, rfl⟩
          have b430 := iv15_9 hS423.1 ta0 c429
          refine q_getI dX12_readCall_129 fl12_99 (kR15 hS423.1 ta0) c429 ?_
          refine q_iconst dX12_readCall_132 (by decide) ?_
          intro v431 h432
          refine q_icmp_ne 137 dX12_readCall_133 (by decide) (fun h433 => ?_) (fun h433 => ?_)
          · skip
            have p434 := gd426 (by rw [c429]; omega)
            refine tr_aload_n dX12_readCall_137 rfl ?_
            refine tr_getR dX12_readCall_138 fl12_188 (kR15 hS423.1 ta0) d2 ?_
            obtain ⟨a435, d436, ta435⟩ := rf14_26 hW0 ta1
            refine tr_getR dX12_readCall_141 fl12_358 (kR14 hS423.1 ta1) d436 ?_
            refine tr_aload_n dX12_readCall_144 rfl ?_
            refine tr_getR dX12_readCall_145 fl12_188 (kR15 hS423.1 ta0) d2 ?_
            refine q_getI dX12_readCall_148 fl12_349 (kR14 hS423.1 ta1) c424 ?_
            refine tr_iload_n dX12_readCall_151 rfl ?_
            refine q_iast dX12_readCall_152 (kR69 hS423.1 ta435) (ti_in (nR69 hS423.1 ta435) (by omega) (by omega)) hS423 ta435 (iokF rfl) rfl (by rfl) ?_
            intro I437 hS438 e440 f439
            have c441 : I437 a1 5 = v3 := (f439 _ _ (fun q => by have z := ta1; rw [q.1, ta435] at z; exact absurd z (by decide))).trans c424
            have c442 : I437 a0 9 = v428 := (f439 _ _ (fun q => by have z := ta0; rw [q.1, ta435] at z; exact absurd z (by decide))).trans c429
            have w443 : RdI a0 I0 I437 := w425.keep (f439 _ _ (fun q => by have z := ta0; rw [q.1, ta435] at z; exact absurd z (by decide))) (f439 _ _ (fun q => by have z := ta0; rw [q.1, ta435] at z; exact absurd z (by decide))) (f439 _ _ (fun q => by have z := ta0; rw [q.1, ta435] at z; exact absurd z (by decide))) (f439 _ _ (fun q => by have z := ta0; rw [q.1, ta435] at z; exact absurd z (by decide)))
            have gd444 := Gd.keep gd426 (f439 _ _ (fun q => by have z := ta0; rw [q.1, ta435] at z; exact absurd z (by decide)))
            refine tr_aload_n dX12_readCall_153 rfl ?_
            refine tr_getR dX12_readCall_154 fl12_188 (kR15 hS438.1 ta0) d2 ?_
            obtain ⟨a445, d446, ta445⟩ := rf14_27 hW0 ta1
            refine tr_getR dX12_readCall_157 fl12_361 (kR14 hS438.1 ta1) d446 ?_
            refine tr_aload_n dX12_readCall_160 rfl ?_
            refine tr_getR dX12_readCall_161 fl12_188 (kR15 hS438.1 ta0) d2 ?_
            refine q_getI dX12_readCall_164 fl12_349 (kR14 hS438.1 ta1) c441 ?_
            refine tr_iload_n dX12_readCall_167 rfl ?_
            refine q_iast dX12_readCall_168 (kR70 hS438.1 ta445) (ti_in (nR70 hS438.1 ta445) (by omega) (by omega)) hS438 ta445 (iokF rfl) rfl (by rfl) ?_
            intro I447 hS448 e450 f449
            have c451 : I447 a1 5 = v3 := (f449 _ _ (fun q => by have z := ta1; rw [q.1, ta445] at z; exact absurd z (by decide))).trans c441
            have c452 : I447 a0 9 = v428 := (f449 _ _ (fun q => by have z := ta0; rw [q.1, ta445] at z; exact absurd z (by decide))).trans c442
            have w453 : RdI a0 I0 I447 := w443.keep (f449 _ _ (fun q => by have z := ta0; rw [q.1, ta445] at z; exact absurd z (by decide))) (f449 _ _ (fun q => by have z := ta0; rw [q.1, ta445] at z; exact absurd z (by decide))) (f449 _ _ (fun q => by have z := ta0; rw [q.1, ta445] at z; exact absurd z (by decide))) (f449 _ _ (fun q => by have z := ta0; rw [q.1, ta445] at z; exact absurd z (by decide)))
            have gd454 := Gd.keep gd444 (f449 _ _ (fun q => by have z := ta0; rw [q.1, ta445] at z; exact absurd z (by decide)))
            refine tr_aload_n dX12_readCall_169 rfl ?_
            refine tr_getR dX12_readCall_170 fl12_188 (kR15 hS448.1 ta0) d2 ?_
            obtain ⟨a455, d456, ta455⟩ := rf14_28 hW0 ta1
            refine tr_getR dX12_readCall_173 fl12_364 (kR14 hS448.1 ta1) d456 ?_
            refine tr_aload_n dX12_readCall_176 rfl ?_
            refine tr_getR dX12_readCall_177 fl12_188 (kR15 hS448.1 ta0) d2 ?_
            refine q_getI dX12_readCall_180 fl12_349 (kR14 hS448.1 ta1) c451 ?_
            refine tr_iload dX12_readCall_183 rfl ?_
            refine q_iast dX12_readCall_185 (kR71 hS448.1 ta455) (ti_in (nR71 hS448.1 ta455) (by omega) (by omega)) hS448 ta455 (iokF rfl) rfl (by rfl) ?_
            intro I457 hS458 e460 f459
            have c461 : I457 a1 5 = v3 := (f459 _ _ (fun q => by have z := ta1; rw [q.1, ta455] at z; exact absurd z (by decide))).trans c451
            have c462 : I457 a0 9 = v428 := (f459 _ _ (fun q => by have z := ta0; rw [q.1, ta455] at z; exact absurd z (by decide))).trans c452
            have w463 : RdI a0 I0 I457 := w453.keep (f459 _ _ (fun q => by have z := ta0; rw [q.1, ta455] at z; exact absurd z (by decide))) (f459 _ _ (fun q => by have z := ta0; rw [q.1, ta455] at z; exact absurd z (by decide))) (f459 _ _ (fun q => by have z := ta0; rw [q.1, ta455] at z; exact absurd z (by decide))) (f459 _ _ (fun q => by have z := ta0; rw [q.1, ta455] at z; exact absurd z (by decide)))
            have gd464 := Gd.keep gd454 (f459 _ _ (fun q => by have z := ta0; rw [q.1, ta455] at z; exact absurd z (by decide)))
            refine tr_aload_n dX12_readCall_186 rfl ?_
            refine tr_getR dX12_readCall_187 fl12_188 (kR15 hS458.1 ta0) d2 ?_
            obtain ⟨a465, d466, ta465⟩ := rf14_29 hW0 ta1
            refine tr_getR dX12_readCall_190 fl12_367 (kR14 hS458.1 ta1) d466 ?_
            refine tr_aload_n dX12_readCall_193 rfl ?_
            refine tr_getR dX12_readCall_194 fl12_188 (kR15 hS458.1 ta0) d2 ?_
            refine q_getI dX12_readCall_197 fl12_349 (kR14 hS458.1 ta1) c461 ?_
            refine tr_iload dX12_readCall_200 rfl ?_
            refine q_iast dX12_readCall_202 (kR72 hS458.1 ta465) (ti_in (nR72 hS458.1 ta465) (by omega) (by omega)) hS458 ta465 (iokF rfl) rfl (by rfl) ?_
            intro I467 hS468 e470 f469
            have c471 : I467 a1 5 = v3 := (f469 _ _ (fun q => by have z := ta1; rw [q.1, ta465] at z; exact absurd z (by decide))).trans c461
            have c472 : I467 a0 9 = v428 := (f469 _ _ (fun q => by have z := ta0; rw [q.1, ta465] at z; exact absurd z (by decide))).trans c462
            have w473 : RdI a0 I0 I467 := w463.keep (f469 _ _ (fun q => by have z := ta0; rw [q.1, ta465] at z; exact absurd z (by decide))) (f469 _ _ (fun q => by have z := ta0; rw [q.1, ta465] at z; exact absurd z (by decide))) (f469 _ _ (fun q => by have z := ta0; rw [q.1, ta465] at z; exact absurd z (by decide))) (f469 _ _ (fun q => by have z := ta0; rw [q.1, ta465] at z; exact absurd z (by decide)))
            have gd474 := Gd.keep gd464 (f469 _ _ (fun q => by have z := ta0; rw [q.1, ta465] at z; exact absurd z (by decide)))
            refine tr_aload_n dX12_readCall_203 rfl ?_
            refine tr_getR dX12_readCall_204 fl12_188 (kR15 hS468.1 ta0) d2 ?_
            refine tr_dup dX12_readCall_207 rfl ?_
            refine q_getI dX12_readCall_208 fl12_349 (kR14 hS468.1 ta1) c471 ?_
            refine q_iconst dX12_readCall_211 (by decide) ?_
            intro v475 h476
            refine q_iaddE dX12_readCall_212 (by intros; omega) ?_
            intro v477 h478
            refine q_putI dX12_readCall_213 fl12_349 (kR14 hS468.1 ta1) (Or.inl rfl) hS468 ta1 (by show (0 : Int) ≤ v477.toInt ∧ v477.toInt ≤ (6 : Int); omega) rfl (by decide +kernel) ?_
            intro I479 hS480 e481 f482
            have c483 : I479 a0 9 = v428 := (f482 _ _ (fun q => absurd q.2 (by decide))).trans c472
            have w484 : RdI a0 I0 I479 := w473.keep (f482 _ _ (fun q => absurd q.2 (by decide))) (f482 _ _ (fun q => absurd q.2 (by decide))) (f482 _ _ (fun q => absurd q.2 (by decide))) (f482 _ _ (fun q => absurd q.2 (by decide)))
            have gd485 := Gd.keep gd474 (f482 _ _ (fun q => absurd q.2 (by decide)))
            exact tr_vret hZ dX12_readCall_216 rfl (by decide) (by decide) ⟨rfl, rfl, rfl, rfl, rfl, hS480, w484, trivial⟩
          · skip
            exact tr_vret hZ dX12_readCall_136 rfl (by decide) (by decide) ⟨rfl, rfl, rfl, rfl, rfl, hS423, w425, trivial⟩
      · skip
        refine tr_aload_n dX12_readCall_55 rfl ?_
        refine q_iconst dX12_readCall_56 (by decide) ?_
        intro v486 h487
        obtain ⟨v488, c489⟩ : ∃ v, I8 a0 8 = v := ⟨_, rfl⟩
        have b490 := iv15_8 hS15.1 ta0 c489
        refine q_callVv hE (M' := mX12_flaw) (as := [_]) dX12_readCall_57 lk12_145 inX12_flaw seX12_flaw myX12_flaw (by decide) ⟨by decide, by decide⟩ rfl (kR15 hS15.1 ta0) (Nat.le_of_ble_eq_true rfl) rfl rfl (by decide) (by decide) (k_X12_flaw hS15.1 ta0 (by omega)) ?_
        rintro cn' K' N' I491 R492 L493 ⟨rfl, rfl, rfl, rfl, rfl, g494, p496, p497, w498, -⟩
        have hS499 := hS15.tr g494 (by decide +kernel) (by decide +kernel)
        have c500 : I491 a1 5 = v3 := (g494.cell ta1 (by decide +kernel)).trans c16
        have c501 : I491 a0 8 = v488 := (g494.cell ta0 (by decide +kernel)).trans c489
        have w502 : RdI a0 I0 I491 := w17.rd w498
        have gd503 := Gd.go gd21 w498.stick
        obtain ⟨v504, c505⟩ : ∃ v, I491 a0 9 = v := ⟨_, rfl⟩
        have b506 := iv15_9 hS499.1 ta0 c505
        rw [c505] at p496
        rw [c501] at p497
        rw [c489] at p497
        refine tr_aload_n dX12_readCall_60 rfl ?_
        refine q_getI dX12_readCall_61 fl12_99 (kR15 hS499.1 ta0) c505 ?_
        refine q_iconst dX12_readCall_64 (by decide) ?_
        intro v507 h508
        refine q_icmp_ne 72 dX12_readCall_65 (by decide) (fun h509 => ?_) (fun h509 => ?_)
        · skip
          exfalso; omega
        · skip
          refine q_iconst dX12_readCall_68 (by decide) ?_
          intro v510 h511
          refine tr_goto 81 dX12_readCall_69 (by decide) ?_
          refine tr_istore_n dX12_readCall_81 (by decide) (by decide) ?_
          refine tr_aload_n dX12_readCall_82 rfl ?_
          obtain ⟨v512, c513⟩ : ∃ v, I491 a0 13 = v := ⟨_, rfl⟩
          refine q_callVv hE (M' := mX12_goesOn) (as := []) dX12_readCall_83 lk12_142 inX12_goesOn seX12_goesOn myX12_goesOn (by decide) ⟨by decide, by decide⟩ rfl (kR15 hS499.1 ta0) (Nat.le_of_ble_eq_true rfl) rfl rfl (by decide) (by decide) (k_X12_goesOn hS499.1 ta0) ?_
          rintro cn' K' N' I514 R515 L516 ⟨rfl, rfl, rfl, rfl, g517, p519, p520, p521, w522, -⟩
          have hS523 := hS499.tr g517 (by decide +kernel) (by decide +kernel)
          have c524 : I514 a1 5 = v3 := (g517.cell ta1 (by decide +kernel)).trans c500
          have c525 : I514 a0 13 = v512 := (g517.cell ta0 (by decide +kernel)).trans c513
          have w526 : RdI a0 I0 I514 := w502.rd w522
          have gd527 := Gd.go gd503 w522.stick
          obtain ⟨v528, c529⟩ : ∃ v, I514 a0 9 = v := ⟨_, rfl⟩
          have b530 := iv15_9 hS523.1 ta0 c529
          rw [c505] at p519
          rw [c529] at p519
          rw [c505] at p520
          rw [c529] at p520
          obtain ⟨v531, c532⟩ : ∃ v, I514 a0 8 = v := ⟨_, rfl⟩
          have b533 := iv15_8 hS523.1 ta0 c532
          rw [c532] at p521
          rw [c501] at p521
          rw [c525] at p521
          rw [c513] at p521
          refine tr_aload_n dX12_readCall_86 rfl ?_
          refine tr_ldcwS dX12_readCall_87 ld12_352 ?_
          refine q_iconst dX12_readCall_90 (by decide) ?_
          intro v534 h535
          refine tr_aload_n dX12_readCall_91 rfl ?_
          refine tr_getR dX12_readCall_92 fl12_188 (kR15 hS523.1 ta0) d2 ?_
          obtain ⟨v536, c537⟩ : ∃ v, I0 a1 0 = v := ⟨_, rfl⟩
          have b538 := iv14_0 hW0 ta1 c537
          refine q_getI dX12_readCall_95 fl12_192 (kR14 hS523.1 ta1) ((hS523.cell ta1 (by decide +kernel)).trans c537) ?_
          refine q_iconst dX12_readCall_98 (by decide) ?_
          intro v539 h540
          refine q_isubE dX12_readCall_99 (by intros; omega) ?_
          intro v541 h542
          refine q_callVi hE (M' := mX12_readPart) (as := [_, _, _]) dX12_readCall_100 lk12_249 inX12_readPart seX12_readPart myX12_readPart (by decide) ⟨by decide, by decide⟩ rfl (kR15 hS523.1 ta0) (Nat.le_of_ble_eq_true rfl) rfl rfl (by decide) (by decide) (k_X12_readPart hS523.1 ta0 (by decide)) ?_
          rintro v547 cn' K' N' I543 R544 L545 ⟨rfl, rfl, rfl, rfl, g546, p548, w549, -⟩
          have hS550 := hS523.tr g546 (by decide +kernel) (by decide +kernel)
          have c551 : I543 a1 5 = v3 := (g546.cell ta1 (by decide +kernel)).trans c524
          have w552 : RdI a0 I0 I543 := w526.rd w549
          have gd553 := Gd.go gd527 w549.stick
          have b554 : 0 ≤ v547.toInt ∧ v547.toInt ≤ 239 := by omega
          clear p548
          refine tr_istore_n dX12_readCall_103 (by decide) (by decide) ?_
          refine tr_aload_n dX12_readCall_104 rfl ?_
          refine tr_ldcwS dX12_readCall_105 ld12_354 ?_
          refine q_iconst dX12_readCall_108 (by decide) ?_
          intro v555 h556
          refine q_bipush dX12_readCall_109 (by decide +kernel) ?_
          intro v557 h558
          refine q_callVi hE (M' := mX12_readPart) (as := [_, _, _]) dX12_readCall_111 lk12_249 inX12_readPart seX12_readPart myX12_readPart (by decide) ⟨by decide, by decide⟩ rfl (kR15 hS550.1 ta0) (Nat.le_of_ble_eq_true rfl) rfl rfl (by decide) (by decide) (k_X12_readPart hS550.1 ta0 (by decide)) ?_
          rintro v563 cn' K' N' I559 R560 L561 ⟨rfl, rfl, rfl, rfl, g562, p564, w565, -⟩
          have hS566 := hS550.tr g562 (by decide +kernel) (by decide +kernel)
          have c567 : I559 a1 5 = v3 := (g562.cell ta1 (by decide +kernel)).trans c551
          have w568 : RdI a0 I0 I559 := w552.rd w565
          have gd569 := Gd.go gd553 w565.stick
          have b570 : 1 ≤ v563.toInt ∧ v563.toInt ≤ 60 := by omega
          clear p564
          refine tr_istore dX12_readCall_114 (by decide) (by decide) ?_
          refine tr_aload_n dX12_readCall_116 rfl ?_
          refine tr_ldcwS dX12_readCall_117 ld12_356 ?_
          refine q_iconst dX12_readCall_120 (by decide) ?_
          intro v571 h572
          refine q_bipush dX12_readCall_121 (by decide +kernel) ?_
          intro v573 h574
          refine q_callVi hE (M' := mX12_readPart) (as := [_, _, _]) dX12_readCall_123 lk12_249 inX12_readPart seX12_readPart myX12_readPart (by decide) ⟨by decide, by decide⟩ rfl (kR15 hS566.1 ta0) (Nat.le_of_ble_eq_true rfl) rfl rfl (by decide) (by decide) (k_X12_readPart hS566.1 ta0 (by decide)) ?_
          rintro v579 cn' K' N' I575 R576 L577 ⟨rfl, rfl, rfl, rfl, g578, p580, w581, -⟩
          have hS582 := hS566.tr g578 (by decide +kernel) (by decide +kernel)
          have c583 : I575 a1 5 = v3 := (g578.cell ta1 (by decide +kernel)).trans c567
          have w584 : RdI a0 I0 I575 := w568.rd w581
          have gd585 := Gd.go gd569 w581.stick
          have b586 : 0 ≤ v579.toInt ∧ v579.toInt ≤ 99 := by omega
          clear p580
          refine tr_istore dX12_readCall_126 (by decide) (by decide) ?_
          refine tr_aload_n dX12_readCall_128 rfl ?_
          obtain ⟨v587, c588⟩ : ∃ v, I575 a0 9 = v := ⟨_, rfl⟩
          have b589 := iv15_9 hS582.1 ta0 c588
          refine q_getI dX12_readCall_129 fl12_99 (kR15 hS582.1 ta0) c588 ?_
          refine q_iconst dX12_readCall_132 (by decide) ?_
          intro v590 h591
          refine q_icmp_ne 137 dX12_readCall_133 (by decide) (fun h592 => ?_) (fun h592 => ?_)
          · skip
            have p593 := gd585 (by rw [c588]; omega)
            refine tr_aload_n dX12_readCall_137 rfl ?_
            refine tr_getR dX12_readCall_138 fl12_188 (kR15 hS582.1 ta0) d2 ?_
            obtain ⟨a594, d595, ta594⟩ := rf14_26 hW0 ta1
            refine tr_getR dX12_readCall_141 fl12_358 (kR14 hS582.1 ta1) d595 ?_
            refine tr_aload_n dX12_readCall_144 rfl ?_
            refine tr_getR dX12_readCall_145 fl12_188 (kR15 hS582.1 ta0) d2 ?_
            refine q_getI dX12_readCall_148 fl12_349 (kR14 hS582.1 ta1) c583 ?_
            refine tr_iload_n dX12_readCall_151 rfl ?_
            refine q_iast dX12_readCall_152 (kR69 hS582.1 ta594) (ti_in (nR69 hS582.1 ta594) (by omega) (by omega)) hS582 ta594 (iokF rfl) rfl (by rfl) ?_
            intro I596 hS597 e599 f598
            have c600 : I596 a1 5 = v3 := (f598 _ _ (fun q => by have z := ta1; rw [q.1, ta594] at z; exact absurd z (by decide))).trans c583
            have c601 : I596 a0 9 = v587 := (f598 _ _ (fun q => by have z := ta0; rw [q.1, ta594] at z; exact absurd z (by decide))).trans c588
            have w602 : RdI a0 I0 I596 := w584.keep (f598 _ _ (fun q => by have z := ta0; rw [q.1, ta594] at z; exact absurd z (by decide))) (f598 _ _ (fun q => by have z := ta0; rw [q.1, ta594] at z; exact absurd z (by decide))) (f598 _ _ (fun q => by have z := ta0; rw [q.1, ta594] at z; exact absurd z (by decide))) (f598 _ _ (fun q => by have z := ta0; rw [q.1, ta594] at z; exact absurd z (by decide)))
            have gd603 := Gd.keep gd585 (f598 _ _ (fun q => by have z := ta0; rw [q.1, ta594] at z; exact absurd z (by decide)))
            refine tr_aload_n dX12_readCall_153 rfl ?_
            refine tr_getR dX12_readCall_154 fl12_188 (kR15 hS597.1 ta0) d2 ?_
            obtain ⟨a604, d605, ta604⟩ := rf14_27 hW0 ta1
            refine tr_getR dX12_readCall_157 fl12_361 (kR14 hS597.1 ta1) d605 ?_
            refine tr_aload_n dX12_readCall_160 rfl ?_
            refine tr_getR dX12_readCall_161 fl12_188 (kR15 hS597.1 ta0) d2 ?_
            refine q_getI dX12_readCall_164 fl12_349 (kR14 hS597.1 ta1) c600 ?_
            refine tr_iload_n dX12_readCall_167 rfl ?_
            refine q_iast dX12_readCall_168 (kR70 hS597.1 ta604) (ti_in (nR70 hS597.1 ta604) (by omega) (by omega)) hS597 ta604 (iokF rfl) rfl (by rfl) ?_
            intro I606 hS607 e609 f608
            have c610 : I606 a1 5 = v3 := (f608 _ _ (fun q => by have z := ta1; rw [q.1, ta604] at z; exact absurd z (by decide))).trans c600
            have c611 : I606 a0 9 = v587 := (f608 _ _ (fun q => by have z := ta0; rw [q.1, ta604] at z; exact absurd z (by decide))).trans c601
            have w612 : RdI a0 I0 I606 := w602.keep (f608 _ _ (fun q => by have z := ta0; rw [q.1, ta604] at z; exact absurd z (by decide))) (f608 _ _ (fun q => by have z := ta0; rw [q.1, ta604] at z; exact absurd z (by decide))) (f608 _ _ (fun q => by have z := ta0; rw [q.1, ta604] at z; exact absurd z (by decide))) (f608 _ _ (fun q => by have z := ta0; rw [q.1, ta604] at z; exact absurd z (by decide)))
            have gd613 := Gd.keep gd603 (f608 _ _ (fun q => by have z := ta0; rw [q.1, ta604] at z; exact absurd z (by decide)))
            refine tr_aload_n dX12_readCall_169 rfl ?_
            refine tr_getR dX12_readCall_170 fl12_188 (kR15 hS607.1 ta0) d2 ?_
            obtain ⟨a614, d615, ta614⟩ := rf14_28 hW0 ta1
            refine tr_getR dX12_readCall_173 fl12_364 (kR14 hS607.1 ta1) d615 ?_
            refine tr_aload_n dX12_readCall_176 rfl ?_
            refine tr_getR dX12_readCall_177 fl12_188 (kR15 hS607.1 ta0) d2 ?_
            refine q_getI dX12_readCall_180 fl12_349 (kR14 hS607.1 ta1) c610 ?_
            refine tr_iload dX12_readCall_183 rfl ?_
            refine q_iast dX12_readCall_185 (kR71 hS607.1 ta614) (ti_in (nR71 hS607.1 ta614) (by omega) (by omega)) hS607 ta614 (iokF rfl) rfl (by rfl) ?_
            intro I616 hS617 e619 f618
            have c620 : I616 a1 5 = v3 := (f618 _ _ (fun q => by have z := ta1; rw [q.1, ta614] at z; exact absurd z (by decide))).trans c610
            have c621 : I616 a0 9 = v587 := (f618 _ _ (fun q => by have z := ta0; rw [q.1, ta614] at z; exact absurd z (by decide))).trans c611
            have w622 : RdI a0 I0 I616 := w612.keep (f618 _ _ (fun q => by have z := ta0; rw [q.1, ta614] at z; exact absurd z (by decide))) (f618 _ _ (fun q => by have z := ta0; rw [q.1, ta614] at z; exact absurd z (by decide))) (f618 _ _ (fun q => by have z := ta0; rw [q.1, ta614] at z; exact absurd z (by decide))) (f618 _ _ (fun q => by have z := ta0; rw [q.1, ta614] at z; exact absurd z (by decide)))
            have gd623 := Gd.keep gd613 (f618 _ _ (fun q => by have z := ta0; rw [q.1, ta614] at z; exact absurd z (by decide)))
            refine tr_aload_n dX12_readCall_186 rfl ?_
            refine tr_getR dX12_readCall_187 fl12_188 (kR15 hS617.1 ta0) d2 ?_
            obtain ⟨a624, d625, ta624⟩ := rf14_29 hW0 ta1
            refine tr_getR dX12_readCall_190 fl12_367 (kR14 hS617.1 ta1) d625 ?_
            refine tr_aload_n dX12_readCall_193 rfl ?_
            refine tr_getR dX12_readCall_194 fl12_188 (kR15 hS617.1 ta0) d2 ?_
            refine q_getI dX12_readCall_197 fl12_349 (kR14 hS617.1 ta1) c620 ?_
            refine tr_iload dX12_readCall_200 rfl ?_
            refine q_iast dX12_readCall_202 (kR72 hS617.1 ta624) (ti_in (nR72 hS617.1 ta624) (by omega) (by omega)) hS617 ta624 (iokF rfl) rfl (by rfl) ?_
            intro I626 hS627 e629 f628
            have c630 : I626 a1 5 = v3 := (f628 _ _ (fun q => by have z := ta1; rw [q.1, ta624] at z; exact absurd z (by decide))).trans c620
            have c631 : I626 a0 9 = v587 := (f628 _ _ (fun q => by have z := ta0; rw [q.1, ta624] at z; exact absurd z (by decide))).trans c621
            have w632 : RdI a0 I0 I626 := w622.keep (f628 _ _ (fun q => by have z := ta0; rw [q.1, ta624] at z; exact absurd z (by decide))) (f628 _ _ (fun q => by have z := ta0; rw [q.1, ta624] at z; exact absurd z (by decide))) (f628 _ _ (fun q => by have z := ta0; rw [q.1, ta624] at z; exact absurd z (by decide))) (f628 _ _ (fun q => by have z := ta0; rw [q.1, ta624] at z; exact absurd z (by decide)))
            have gd633 := Gd.keep gd623 (f628 _ _ (fun q => by have z := ta0; rw [q.1, ta624] at z; exact absurd z (by decide)))
            refine tr_aload_n dX12_readCall_203 rfl ?_
            refine tr_getR dX12_readCall_204 fl12_188 (kR15 hS627.1 ta0) d2 ?_
            refine tr_dup dX12_readCall_207 rfl ?_
            refine q_getI dX12_readCall_208 fl12_349 (kR14 hS627.1 ta1) c630 ?_
            refine q_iconst dX12_readCall_211 (by decide) ?_
            intro v634 h635
            refine q_iaddE dX12_readCall_212 (by intros; omega) ?_
            intro v636 h637
            refine q_putI dX12_readCall_213 fl12_349 (kR14 hS627.1 ta1) (Or.inl rfl) hS627 ta1 (by show (0 : Int) ≤ v636.toInt ∧ v636.toInt ≤ (6 : Int); omega) rfl (by decide +kernel) ?_
            intro I638 hS639 e640 f641
            have c642 : I638 a0 9 = v587 := (f641 _ _ (fun q => absurd q.2 (by decide))).trans c631
            have w643 : RdI a0 I0 I638 := w632.keep (f641 _ _ (fun q => absurd q.2 (by decide))) (f641 _ _ (fun q => absurd q.2 (by decide))) (f641 _ _ (fun q => absurd q.2 (by decide))) (f641 _ _ (fun q => absurd q.2 (by decide)))
            have gd644 := Gd.keep gd633 (f641 _ _ (fun q => absurd q.2 (by decide)))
            exact tr_vret hZ dX12_readCall_216 rfl (by decide) (by decide) ⟨rfl, rfl, rfl, rfl, rfl, hS639, w643, trivial⟩
          · skip
            exact tr_vret hZ dX12_readCall_136 rfl (by decide) (by decide) ⟨rfl, rfl, rfl, rfl, rfl, hS582, w584, trivial⟩
  · skip
    refine tr_aload_n dX12_readCall_20 rfl ?_
    refine q_iconst dX12_readCall_21 (by decide) ?_
    intro v645 h646
    obtain ⟨v647, c648⟩ : ∃ v, I8 a0 8 = v := ⟨_, rfl⟩
    have b649 := iv15_8 hS15.1 ta0 c648
    refine q_callVv hE (M' := mX12_flaw) (as := [_]) dX12_readCall_22 lk12_145 inX12_flaw seX12_flaw myX12_flaw (by decide) ⟨by decide, by decide⟩ rfl (kR15 hS15.1 ta0) (Nat.le_of_ble_eq_true rfl) rfl rfl (by decide) (by decide) (k_X12_flaw hS15.1 ta0 (by omega)) ?_
    rintro cn' K' N' I650 R651 L652 ⟨rfl, rfl, rfl, rfl, rfl, g653, p655, p656, w657, -⟩
    have hS658 := hS15.tr g653 (by decide +kernel) (by decide +kernel)
    have c659 : I650 a1 5 = v3 := (g653.cell ta1 (by decide +kernel)).trans c16
    have c660 : I650 a0 8 = v647 := (g653.cell ta0 (by decide +kernel)).trans c648
    have w661 : RdI a0 I0 I650 := w17.rd w657
    have gd662 := Gd.go gd21 w657.stick
    obtain ⟨v663, c664⟩ : ∃ v, I650 a0 9 = v := ⟨_, rfl⟩
    have b665 := iv15_9 hS658.1 ta0 c664
    rw [c664] at p655
    rw [c660] at p656
    rw [c648] at p656
    refine tr_aload_n dX12_readCall_25 rfl ?_
    refine tr_getR dX12_readCall_26 fl12_188 (kR15 hS658.1 ta0) d2 ?_
    refine tr_aload_n dX12_readCall_29 rfl ?_
    refine q_getL dX12_readCall_30 fl12_118 (kR15 hS658.1 ta0) ?_
    intro y666
    refine q_callVi hE (M' := mX11_find) (as := [_]) dX12_readCall_33 lk12_201 inX11_find seX11_find myX11_find (by decide) ⟨by decide, by decide⟩ rfl (kR14 hS658.1 ta1) (Nat.le_of_ble_eq_true rfl) rfl rfl (by decide) (by decide) (k_X11_find hS658.1 ta1) ?_
    rintro v671 cn' K' N' I667 R668 L669 ⟨rfl, rfl, rfl, rfl, rfl, rfl, h672, -⟩
    refine tr_istore_n dX12_readCall_36 (by decide) (by decide) ?_
    refine tr_iload_n dX12_readCall_37 rfl ?_
    refine q_iconst dX12_readCall_38 (by decide) ?_
    intro v673 h674
    refine q_icmp_eq 55 dX12_readCall_39 (by decide) (fun h675 => ?_) (fun h675 => ?_)
    · skip
      refine tr_aload_n dX12_readCall_55 rfl ?_
      refine q_iconst dX12_readCall_56 (by decide) ?_
      intro v676 h677
      refine q_callVv hE (M' := mX12_flaw) (as := [_]) dX12_readCall_57 lk12_145 inX12_flaw seX12_flaw myX12_flaw (by decide) ⟨by decide, by decide⟩ rfl (kR15 hS658.1 ta0) (Nat.le_of_ble_eq_true rfl) rfl rfl (by decide) (by decide) (k_X12_flaw hS658.1 ta0 (by omega)) ?_
      rintro cn' K' N' I678 R679 L680 ⟨rfl, rfl, rfl, rfl, rfl, g681, p683, p684, w685, -⟩
      have hS686 := hS658.tr g681 (by decide +kernel) (by decide +kernel)
      have c687 : I678 a1 5 = v3 := (g681.cell ta1 (by decide +kernel)).trans c659
      have c688 : I678 a0 8 = v647 := (g681.cell ta0 (by decide +kernel)).trans c660
      have w689 : RdI a0 I0 I678 := w661.rd w685
      have gd690 := Gd.go gd662 w685.stick
      obtain ⟨v691, c692⟩ : ∃ v, I678 a0 9 = v := ⟨_, rfl⟩
      have b693 := iv15_9 hS686.1 ta0 c692
      rw [c692] at p683
      rw [c688] at p684
      rw [c660] at p684
      refine tr_aload_n dX12_readCall_60 rfl ?_
      refine q_getI dX12_readCall_61 fl12_99 (kR15 hS686.1 ta0) c692 ?_
      refine q_iconst dX12_readCall_64 (by decide) ?_
      intro v694 h695
      refine q_icmp_ne 72 dX12_readCall_65 (by decide) (fun h696 => ?_) (fun h696 => ?_)
      · skip
        exfalso; omega
      · skip
        refine q_iconst dX12_readCall_68 (by decide) ?_
        intro v697 h698
        refine tr_goto 81 dX12_readCall_69 (by decide) ?_
        refine tr_istore_n dX12_readCall_81 (by decide) (by decide) ?_
        refine tr_aload_n dX12_readCall_82 rfl ?_
        obtain ⟨v699, c700⟩ : ∃ v, I678 a0 13 = v := ⟨_, rfl⟩
        refine q_callVv hE (M' := mX12_goesOn) (as := []) dX12_readCall_83 lk12_142 inX12_goesOn seX12_goesOn myX12_goesOn (by decide) ⟨by decide, by decide⟩ rfl (kR15 hS686.1 ta0) (Nat.le_of_ble_eq_true rfl) rfl rfl (by decide) (by decide) (k_X12_goesOn hS686.1 ta0) ?_
        rintro cn' K' N' I701 R702 L703 ⟨rfl, rfl, rfl, rfl, g704, p706, p707, p708, w709, -⟩
        have hS710 := hS686.tr g704 (by decide +kernel) (by decide +kernel)
        have c711 : I701 a1 5 = v3 := (g704.cell ta1 (by decide +kernel)).trans c687
        have c712 : I701 a0 13 = v699 := (g704.cell ta0 (by decide +kernel)).trans c700
        have w713 : RdI a0 I0 I701 := w689.rd w709
        have gd714 := Gd.go gd690 w709.stick
        obtain ⟨v715, c716⟩ : ∃ v, I701 a0 9 = v := ⟨_, rfl⟩
        have b717 := iv15_9 hS710.1 ta0 c716
        rw [c692] at p706
        rw [c716] at p706
        rw [c692] at p707
        rw [c716] at p707
        obtain ⟨v718, c719⟩ : ∃ v, I701 a0 8 = v := ⟨_, rfl⟩
        have b720 := iv15_8 hS710.1 ta0 c719
        rw [c719] at p708
        rw [c688] at p708
        rw [c712] at p708
        rw [c700] at p708
        refine tr_aload_n dX12_readCall_86 rfl ?_
        refine tr_ldcwS dX12_readCall_87 ld12_352 ?_
        refine q_iconst dX12_readCall_90 (by decide) ?_
        intro v721 h722
        refine tr_aload_n dX12_readCall_91 rfl ?_
        refine tr_getR dX12_readCall_92 fl12_188 (kR15 hS710.1 ta0) d2 ?_
        obtain ⟨v723, c724⟩ : ∃ v, I0 a1 0 = v := ⟨_, rfl⟩
        have b725 := iv14_0 hW0 ta1 c724
        refine q_getI dX12_readCall_95 fl12_192 (kR14 hS710.1 ta1) ((hS710.cell ta1 (by decide +kernel)).trans c724) ?_
        refine q_iconst dX12_readCall_98 (by decide) ?_
        intro v726 h727
        refine q_isubE dX12_readCall_99 (by intros; omega) ?_
        intro v728 h729
        refine q_callVi hE (M' := mX12_readPart) (as := [_, _, _]) dX12_readCall_100 lk12_249 inX12_readPart seX12_readPart myX12_readPart (by decide) ⟨by decide, by decide⟩ rfl (kR15 hS710.1 ta0) (Nat.le_of_ble_eq_true rfl) rfl rfl (by decide) (by decide) (k_X12_readPart hS710.1 ta0 (by decide)) ?_
        rintro v734 cn' K' N' I730 R731 L732 ⟨rfl, rfl, rfl, rfl, g733, p735, w736, -⟩
        have hS737 := hS710.tr g733 (by decide +kernel) (by decide +kernel)
        have c738 : I730 a1 5 = v3 := (g733.cell ta1 (by decide +kernel)).trans c711
        have w739 : RdI a0 I0 I730 := w713.rd w736
        have gd740 := Gd.go gd714 w736.stick
        have b741 : 0 ≤ v734.toInt ∧ v734.toInt ≤ 239 := by omega
        clear p735
        refine tr_istore_n dX12_readCall_103 (by decide) (by decide) ?_
        refine tr_aload_n dX12_readCall_104 rfl ?_
        refine tr_ldcwS dX12_readCall_105 ld12_354 ?_
        refine q_iconst dX12_readCall_108 (by decide) ?_
        intro v742 h743
        refine q_bipush dX12_readCall_109 (by decide +kernel) ?_
        intro v744 h745
        refine q_callVi hE (M' := mX12_readPart) (as := [_, _, _]) dX12_readCall_111 lk12_249 inX12_readPart seX12_readPart myX12_readPart (by decide) ⟨by decide, by decide⟩ rfl (kR15 hS737.1 ta0) (Nat.le_of_ble_eq_true rfl) rfl rfl (by decide) (by decide) (k_X12_readPart hS737.1 ta0 (by decide)) ?_
        rintro v750 cn' K' N' I746 R747 L748 ⟨rfl, rfl, rfl, rfl, g749, p751, w752, -⟩
        have hS753 := hS737.tr g749 (by decide +kernel) (by decide +kernel)
        have c754 : I746 a1 5 = v3 := (g749.cell ta1 (by decide +kernel)).trans c738
        have w755 : RdI a0 I0 I746 := w739.rd w752
        have gd756 := Gd.go gd740 w752.stick
        have b757 : 1 ≤ v750.toInt ∧ v750.toInt ≤ 60 := by omega
        clear p751
        refine tr_istore dX12_readCall_114 (by decide) (by decide) ?_
        refine tr_aload_n dX12_readCall_116 rfl ?_
        refine tr_ldcwS dX12_readCall_117 ld12_356 ?_
        refine q_iconst dX12_readCall_120 (by decide) ?_
        intro v758 h759
        refine q_bipush dX12_readCall_121 (by decide +kernel) ?_
        intro v760 h761
        refine q_callVi hE (M' := mX12_readPart) (as := [_, _, _]) dX12_readCall_123 lk12_249 inX12_readPart seX12_readPart myX12_readPart (by decide) ⟨by decide, by decide⟩ rfl (kR15 hS753.1 ta0) (Nat.le_of_ble_eq_true rfl) rfl rfl (by decide) (by decide) (k_X12_readPart hS753.1 ta0 (by decide)) ?_
        rintro v766 cn' K' N' I762 R763 L764 ⟨rfl, rfl, rfl, rfl, g765, p767, w768, -⟩
        have hS769 := hS753.tr g765 (by decide +kernel) (by decide +kernel)
        have c770 : I762 a1 5 = v3 := (g765.cell ta1 (by decide +kernel)).trans c754
        have w771 : RdI a0 I0 I762 := w755.rd w768
        have gd772 := Gd.go gd756 w768.stick
        have b773 : 0 ≤ v766.toInt ∧ v766.toInt ≤ 99 := by omega
        clear p767
        refine tr_istore dX12_readCall_126 (by decide) (by decide) ?_
        refine tr_aload_n dX12_readCall_128 rfl ?_
        obtain ⟨v774, c775⟩ : ∃ v, I762 a0 9 = v := ⟨_, rfl⟩
        have b776 := iv15_9 hS769.1 ta0 c775
        refine q_getI dX12_readCall_129 fl12_99 (kR15 hS769.1 ta0) c775 ?_
        refine q_iconst dX12_readCall_132 (by decide) ?_
        intro v777 h778
        refine q_icmp_ne 137 dX12_readCall_133 (by decide) (fun h779 => ?_) (fun h779 => ?_)
        · skip
          have p780 := gd772 (by rw [c775]; omega)
          refine tr_aload_n dX12_readCall_137 rfl ?_
          refine tr_getR dX12_readCall_138 fl12_188 (kR15 hS769.1 ta0) d2 ?_
          obtain ⟨a781, d782, ta781⟩ := rf14_26 hW0 ta1
          refine tr_getR dX12_readCall_141 fl12_358 (kR14 hS769.1 ta1) d782 ?_
          refine tr_aload_n dX12_readCall_144 rfl ?_
          refine tr_getR dX12_readCall_145 fl12_188 (kR15 hS769.1 ta0) d2 ?_
          refine q_getI dX12_readCall_148 fl12_349 (kR14 hS769.1 ta1) c770 ?_
          refine tr_iload_n dX12_readCall_151 rfl ?_
          refine q_iast dX12_readCall_152 (kR69 hS769.1 ta781) (ti_in (nR69 hS769.1 ta781) (by omega) (by omega)) hS769 ta781 (iokF rfl) rfl (by rfl) ?_
          intro I783 hS784 e786 f785
          have c787 : I783 a1 5 = v3 := (f785 _ _ (fun q => by have z := ta1; rw [q.1, ta781] at z; exact absurd z (by decide))).trans c770
          have c788 : I783 a0 9 = v774 := (f785 _ _ (fun q => by have z := ta0; rw [q.1, ta781] at z; exact absurd z (by decide))).trans c775
          have w789 : RdI a0 I0 I783 := w771.keep (f785 _ _ (fun q => by have z := ta0; rw [q.1, ta781] at z; exact absurd z (by decide))) (f785 _ _ (fun q => by have z := ta0; rw [q.1, ta781] at z; exact absurd z (by decide))) (f785 _ _ (fun q => by have z := ta0; rw [q.1, ta781] at z; exact absurd z (by decide))) (f785 _ _ (fun q => by have z := ta0; rw [q.1, ta781] at z; exact absurd z (by decide)))
          have gd790 := Gd.keep gd772 (f785 _ _ (fun q => by have z := ta0; rw [q.1, ta781] at z; exact absurd z (by decide)))
          refine tr_aload_n dX12_readCall_153 rfl ?_
          refine tr_getR dX12_readCall_154 fl12_188 (kR15 hS784.1 ta0) d2 ?_
          obtain ⟨a791, d792, ta791⟩ := rf14_27 hW0 ta1
          refine tr_getR dX12_readCall_157 fl12_361 (kR14 hS784.1 ta1) d792 ?_
          refine tr_aload_n dX12_readCall_160 rfl ?_
          refine tr_getR dX12_readCall_161 fl12_188 (kR15 hS784.1 ta0) d2 ?_
          refine q_getI dX12_readCall_164 fl12_349 (kR14 hS784.1 ta1) c787 ?_
          refine tr_iload_n dX12_readCall_167 rfl ?_
          refine q_iast dX12_readCall_168 (kR70 hS784.1 ta791) (ti_in (nR70 hS784.1 ta791) (by omega) (by omega)) hS784 ta791 (iokF rfl) rfl (by rfl) ?_
          intro I793 hS794 e796 f795
          have c797 : I793 a1 5 = v3 := (f795 _ _ (fun q => by have z := ta1; rw [q.1, ta791] at z; exact absurd z (by decide))).trans c787
          have c798 : I793 a0 9 = v774 := (f795 _ _ (fun q => by have z := ta0; rw [q.1, ta791] at z; exact absurd z (by decide))).trans c788
          have w799 : RdI a0 I0 I793 := w789.keep (f795 _ _ (fun q => by have z := ta0; rw [q.1, ta791] at z; exact absurd z (by decide))) (f795 _ _ (fun q => by have z := ta0; rw [q.1, ta791] at z; exact absurd z (by decide))) (f795 _ _ (fun q => by have z := ta0; rw [q.1, ta791] at z; exact absurd z (by decide))) (f795 _ _ (fun q => by have z := ta0; rw [q.1, ta791] at z; exact absurd z (by decide)))
          have gd800 := Gd.keep gd790 (f795 _ _ (fun q => by have z := ta0; rw [q.1, ta791] at z; exact absurd z (by decide)))
          refine tr_aload_n dX12_readCall_169 rfl ?_
          refine tr_getR dX12_readCall_170 fl12_188 (kR15 hS794.1 ta0) d2 ?_
          obtain ⟨a801, d802, ta801⟩ := rf14_28 hW0 ta1
          refine tr_getR dX12_readCall_173 fl12_364 (kR14 hS794.1 ta1) d802 ?_
          refine tr_aload_n dX12_readCall_176 rfl ?_
          refine tr_getR dX12_readCall_177 fl12_188 (kR15 hS794.1 ta0) d2 ?_
          refine q_getI dX12_readCall_180 fl12_349 (kR14 hS794.1 ta1) c797 ?_
          refine tr_iload dX12_readCall_183 rfl ?_
          refine q_iast dX12_readCall_185 (kR71 hS794.1 ta801) (ti_in (nR71 hS794.1 ta801) (by omega) (by omega)) hS794 ta801 (iokF rfl) rfl (by rfl) ?_
          intro I803 hS804 e806 f805
          have c807 : I803 a1 5 = v3 := (f805 _ _ (fun q => by have z := ta1; rw [q.1, ta801] at z; exact absurd z (by decide))).trans c797
          have c808 : I803 a0 9 = v774 := (f805 _ _ (fun q => by have z := ta0; rw [q.1, ta801] at z; exact absurd z (by decide))).trans c798
          have w809 : RdI a0 I0 I803 := w799.keep (f805 _ _ (fun q => by have z := ta0; rw [q.1, ta801] at z; exact absurd z (by decide))) (f805 _ _ (fun q => by have z := ta0; rw [q.1, ta801] at z; exact absurd z (by decide))) (f805 _ _ (fun q => by have z := ta0; rw [q.1, ta801] at z; exact absurd z (by decide))) (f805 _ _ (fun q => by have z := ta0; rw [q.1, ta801] at z; exact absurd z (by decide)))
          have gd810 := Gd.keep gd800 (f805 _ _ (fun q => by have z := ta0; rw [q.1, ta801] at z; exact absurd z (by decide)))
          refine tr_aload_n dX12_readCall_186 rfl ?_
          refine tr_getR dX12_readCall_187 fl12_188 (kR15 hS804.1 ta0) d2 ?_
          obtain ⟨a811, d812, ta811⟩ := rf14_29 hW0 ta1
          refine tr_getR dX12_readCall_190 fl12_367 (kR14 hS804.1 ta1) d812 ?_
          refine tr_aload_n dX12_readCall_193 rfl ?_
          refine tr_getR dX12_readCall_194 fl12_188 (kR15 hS804.1 ta0) d2 ?_
          refine q_getI dX12_readCall_197 fl12_349 (kR14 hS804.1 ta1) c807 ?_
          refine tr_iload dX12_readCall_200 rfl ?_
          refine q_iast dX12_readCall_202 (kR72 hS804.1 ta811) (ti_in (nR72 hS804.1 ta811) (by omega) (by omega)) hS804 ta811 (iokF rfl) rfl (by rfl) ?_
          intro I813 hS814 e816 f815
          have c817 : I813 a1 5 = v3 := (f815 _ _ (fun q => by have z := ta1; rw [q.1, ta811] at z; exact absurd z (by decide))).trans c807
          have c818 : I813 a0 9 = v774 := (f815 _ _ (fun q => by have z := ta0; rw [q.1, ta811] at z; exact absurd z (by decide))).trans c808
          have w819 : RdI a0 I0 I813 := w809.keep (f815 _ _ (fun q => by have z := ta0; rw [q.1, ta811] at z; exact absurd z (by decide))) (f815 _ _ (fun q => by have z := ta0; rw [q.1, ta811] at z; exact absurd z (by decide))) (f815 _ _ (fun q => by have z := ta0; rw [q.1, ta811] at z; exact absurd z (by decide))) (f815 _ _ (fun q => by have z := ta0; rw [q.1, ta811] at z; exact absurd z (by decide)))
          have gd820 := Gd.keep gd810 (f815 _ _ (fun q => by have z := ta0; rw [q.1, ta811] at z; exact absurd z (by decide)))
          refine tr_aload_n dX12_readCall_203 rfl ?_
          refine tr_getR dX12_readCall_204 fl12_188 (kR15 hS814.1 ta0) d2 ?_
          refine tr_dup dX12_readCall_207 rfl ?_
          refine q_getI dX12_readCall_208 fl12_349 (kR14 hS814.1 ta1) c817 ?_
          refine q_iconst dX12_readCall_211 (by decide) ?_
          intro v821 h822
          refine q_iaddE dX12_readCall_212 (by intros; omega) ?_
          intro v823 h824
          refine q_putI dX12_readCall_213 fl12_349 (kR14 hS814.1 ta1) (Or.inl rfl) hS814 ta1 (by show (0 : Int) ≤ v823.toInt ∧ v823.toInt ≤ (6 : Int); omega) rfl (by decide +kernel) ?_
          intro I825 hS826 e827 f828
          have c829 : I825 a0 9 = v774 := (f828 _ _ (fun q => absurd q.2 (by decide))).trans c818
          have w830 : RdI a0 I0 I825 := w819.keep (f828 _ _ (fun q => absurd q.2 (by decide))) (f828 _ _ (fun q => absurd q.2 (by decide))) (f828 _ _ (fun q => absurd q.2 (by decide))) (f828 _ _ (fun q => absurd q.2 (by decide)))
          have gd831 := Gd.keep gd820 (f828 _ _ (fun q => absurd q.2 (by decide)))
          exact tr_vret hZ dX12_readCall_216 rfl (by decide) (by decide) ⟨rfl, rfl, rfl, rfl, rfl, hS826, w830, trivial⟩
        · skip
          exact tr_vret hZ dX12_readCall_136 rfl (by decide) (by decide) ⟨rfl, rfl, rfl, rfl, rfl, hS769, w771, trivial⟩
    · skip
      refine tr_aload_n dX12_readCall_42 rfl ?_
      refine tr_getR dX12_readCall_43 fl12_188 (kR15 hS658.1 ta0) d2 ?_
      obtain ⟨a832, d833, ta832⟩ := rf14_31 hW0 ta1
      refine tr_getR dX12_readCall_46 fl12_212 (kR14 hS658.1 ta1) d833 ?_
      refine tr_iload_n dX12_readCall_49 rfl ?_
      refine q_iald dX12_readCall_50 (kR74 hS658.1 ta832) (ti_in (nR74 hS658.1 ta832) (by omega) (by omega)) ?_
      intro v834 c835
      refine q_iconst dX12_readCall_51 (by decide) ?_
      intro v836 h837
      refine q_icmp_eq 60 dX12_readCall_52 (by decide) (fun h838 => ?_) (fun h838 => ?_)
      · skip
        refine tr_aload_n dX12_readCall_60 rfl ?_
        refine q_getI dX12_readCall_61 fl12_99 (kR15 hS658.1 ta0) c664 ?_
        refine q_iconst dX12_readCall_64 (by decide) ?_
        intro v839 h840
        refine q_icmp_ne 72 dX12_readCall_65 (by decide) (fun h841 => ?_) (fun h841 => ?_)
        · skip
          exfalso; omega
        · skip
          refine q_iconst dX12_readCall_68 (by decide) ?_
          intro v842 h843
          refine tr_goto 81 dX12_readCall_69 (by decide) ?_
          refine tr_istore_n dX12_readCall_81 (by decide) (by decide) ?_
          refine tr_aload_n dX12_readCall_82 rfl ?_
          obtain ⟨v844, c845⟩ : ∃ v, I650 a0 13 = v := ⟨_, rfl⟩
          refine q_callVv hE (M' := mX12_goesOn) (as := []) dX12_readCall_83 lk12_142 inX12_goesOn seX12_goesOn myX12_goesOn (by decide) ⟨by decide, by decide⟩ rfl (kR15 hS658.1 ta0) (Nat.le_of_ble_eq_true rfl) rfl rfl (by decide) (by decide) (k_X12_goesOn hS658.1 ta0) ?_
          rintro cn' K' N' I846 R847 L848 ⟨rfl, rfl, rfl, rfl, g849, p851, p852, p853, w854, -⟩
          have hS855 := hS658.tr g849 (by decide +kernel) (by decide +kernel)
          have c856 : I846 a1 5 = v3 := (g849.cell ta1 (by decide +kernel)).trans c659
          have c857 : I846 a0 13 = v844 := (g849.cell ta0 (by decide +kernel)).trans c845
          have w858 : RdI a0 I0 I846 := w661.rd w854
          have gd859 := Gd.go gd662 w854.stick
          obtain ⟨v860, c861⟩ : ∃ v, I846 a0 9 = v := ⟨_, rfl⟩
          have b862 := iv15_9 hS855.1 ta0 c861
          rw [c664] at p851
          rw [c861] at p851
          rw [c664] at p852
          rw [c861] at p852
          obtain ⟨v863, c864⟩ : ∃ v, I846 a0 8 = v := ⟨_, rfl⟩
          have b865 := iv15_8 hS855.1 ta0 c864
          rw [c864] at p853
          rw [c660] at p853
          rw [c857] at p853
          rw [c845] at p853
          refine tr_aload_n dX12_readCall_86 rfl ?_
          refine tr_ldcwS dX12_readCall_87 ld12_352 ?_
          refine q_iconst dX12_readCall_90 (by decide) ?_
          intro v866 h867
          refine tr_aload_n dX12_readCall_91 rfl ?_
          refine tr_getR dX12_readCall_92 fl12_188 (kR15 hS855.1 ta0) d2 ?_
          obtain ⟨v868, c869⟩ : ∃ v, I0 a1 0 = v := ⟨_, rfl⟩
          have b870 := iv14_0 hW0 ta1 c869
          refine q_getI dX12_readCall_95 fl12_192 (kR14 hS855.1 ta1) ((hS855.cell ta1 (by decide +kernel)).trans c869) ?_
          refine q_iconst dX12_readCall_98 (by decide) ?_
          intro v871 h872
          refine q_isubE dX12_readCall_99 (by intros; omega) ?_
          intro v873 h874
          refine q_callVi hE (M' := mX12_readPart) (as := [_, _, _]) dX12_readCall_100 lk12_249 inX12_readPart seX12_readPart myX12_readPart (by decide) ⟨by decide, by decide⟩ rfl (kR15 hS855.1 ta0) (Nat.le_of_ble_eq_true rfl) rfl rfl (by decide) (by decide) (k_X12_readPart hS855.1 ta0 (by decide)) ?_
          rintro v879 cn' K' N' I875 R876 L877 ⟨rfl, rfl, rfl, rfl, g878, p880, w881, -⟩
          have hS882 := hS855.tr g878 (by decide +kernel) (by decide +kernel)
          have c883 : I875 a1 5 = v3 := (g878.cell ta1 (by decide +kernel)).trans c856
          have w884 : RdI a0 I0 I875 := w858.rd w881
          have gd885 := Gd.go gd859 w881.stick
          have b886 : 0 ≤ v879.toInt ∧ v879.toInt ≤ 239 := by omega
          clear p880
          refine tr_istore_n dX12_readCall_103 (by decide) (by decide) ?_
          refine tr_aload_n dX12_readCall_104 rfl ?_
          refine tr_ldcwS dX12_readCall_105 ld12_354 ?_
          refine q_iconst dX12_readCall_108 (by decide) ?_
          intro v887 h888
          refine q_bipush dX12_readCall_109 (by decide +kernel) ?_
          intro v889 h890
          refine q_callVi hE (M' := mX12_readPart) (as := [_, _, _]) dX12_readCall_111 lk12_249 inX12_readPart seX12_readPart myX12_readPart (by decide) ⟨by decide, by decide⟩ rfl (kR15 hS882.1 ta0) (Nat.le_of_ble_eq_true rfl) rfl rfl (by decide) (by decide) (k_X12_readPart hS882.1 ta0 (by decide)) ?_
          rintro v895 cn' K' N' I891 R892 L893 ⟨rfl, rfl, rfl, rfl, g894, p896, w897, -⟩
          have hS898 := hS882.tr g894 (by decide +kernel) (by decide +kernel)
          have c899 : I891 a1 5 = v3 := (g894.cell ta1 (by decide +kernel)).trans c883
          have w900 : RdI a0 I0 I891 := w884.rd w897
          have gd901 := Gd.go gd885 w897.stick
          have b902 : 1 ≤ v895.toInt ∧ v895.toInt ≤ 60 := by omega
          clear p896
          refine tr_istore dX12_readCall_114 (by decide) (by decide) ?_
          refine tr_aload_n dX12_readCall_116 rfl ?_
          refine tr_ldcwS dX12_readCall_117 ld12_356 ?_
          refine q_iconst dX12_readCall_120 (by decide) ?_
          intro v903 h904
          refine q_bipush dX12_readCall_121 (by decide +kernel) ?_
          intro v905 h906
          refine q_callVi hE (M' := mX12_readPart) (as := [_, _, _]) dX12_readCall_123 lk12_249 inX12_readPart seX12_readPart myX12_readPart (by decide) ⟨by decide, by decide⟩ rfl (kR15 hS898.1 ta0) (Nat.le_of_ble_eq_true rfl) rfl rfl (by decide) (by decide) (k_X12_readPart hS898.1 ta0 (by decide)) ?_
          rintro v911 cn' K' N' I907 R908 L909 ⟨rfl, rfl, rfl, rfl, g910, p912, w913, -⟩
          have hS914 := hS898.tr g910 (by decide +kernel) (by decide +kernel)
          have c915 : I907 a1 5 = v3 := (g910.cell ta1 (by decide +kernel)).trans c899
          have w916 : RdI a0 I0 I907 := w900.rd w913
          have gd917 := Gd.go gd901 w913.stick
          have b918 : 0 ≤ v911.toInt ∧ v911.toInt ≤ 99 := by omega
          clear p912
          refine tr_istore dX12_readCall_126 (by decide) (by decide) ?_
          refine tr_aload_n dX12_readCall_128 rfl ?_
          obtain ⟨v919, c920⟩ : ∃ v, I907 a0 9 = v := ⟨_, rfl⟩
          have b921 := iv15_9 hS914.1 ta0 c920
          refine q_getI dX12_readCall_129 fl12_99 (kR15 hS914.1 ta0) c920 ?_
          refine q_iconst dX12_readCall_132 (by decide) ?_
          intro v922 h923
          refine q_icmp_ne 137 dX12_readCall_133 (by decide) (fun h924 => ?_) (fun h924 => ?_)
          · skip
            have p925 := gd917 (by rw [c920]; omega)
            refine tr_aload_n dX12_readCall_137 rfl ?_
            refine tr_getR dX12_readCall_138 fl12_188 (kR15 hS914.1 ta0) d2 ?_
            obtain ⟨a926, d927, ta926⟩ := rf14_26 hW0 ta1
            refine tr_getR dX12_readCall_141 fl12_358 (kR14 hS914.1 ta1) d927 ?_
            refine tr_aload_n dX12_readCall_144 rfl ?_
            refine tr_getR dX12_readCall_145 fl12_188 (kR15 hS914.1 ta0) d2 ?_
            refine q_getI dX12_readCall_148 fl12_349 (kR14 hS914.1 ta1) c915 ?_
            refine tr_iload_n dX12_readCall_151 rfl ?_
            refine q_iast dX12_readCall_152 (kR69 hS914.1 ta926) (ti_in (nR69 hS914.1 ta926) (by omega) (by omega)) hS914 ta926 (iokF rfl) rfl (by rfl) ?_
            intro I928 hS929 e931 f930
            have c932 : I928 a1 5 = v3 := (f930 _ _ (fun q => by have z := ta1; rw [q.1, ta926] at z; exact absurd z (by decide))).trans c915
            have c933 : I928 a0 9 = v919 := (f930 _ _ (fun q => by have z := ta0; rw [q.1, ta926] at z; exact absurd z (by decide))).trans c920
            have w934 : RdI a0 I0 I928 := w916.keep (f930 _ _ (fun q => by have z := ta0; rw [q.1, ta926] at z; exact absurd z (by decide))) (f930 _ _ (fun q => by have z := ta0; rw [q.1, ta926] at z; exact absurd z (by decide))) (f930 _ _ (fun q => by have z := ta0; rw [q.1, ta926] at z; exact absurd z (by decide))) (f930 _ _ (fun q => by have z := ta0; rw [q.1, ta926] at z; exact absurd z (by decide)))
            have gd935 := Gd.keep gd917 (f930 _ _ (fun q => by have z := ta0; rw [q.1, ta926] at z; exact absurd z (by decide)))
            refine tr_aload_n dX12_readCall_153 rfl ?_
            refine tr_getR dX12_readCall_154 fl12_188 (kR15 hS929.1 ta0) d2 ?_
            obtain ⟨a936, d937, ta936⟩ := rf14_27 hW0 ta1
            refine tr_getR dX12_readCall_157 fl12_361 (kR14 hS929.1 ta1) d937 ?_
            refine tr_aload_n dX12_readCall_160 rfl ?_
            refine tr_getR dX12_readCall_161 fl12_188 (kR15 hS929.1 ta0) d2 ?_
            refine q_getI dX12_readCall_164 fl12_349 (kR14 hS929.1 ta1) c932 ?_
            refine tr_iload_n dX12_readCall_167 rfl ?_
            refine q_iast dX12_readCall_168 (kR70 hS929.1 ta936) (ti_in (nR70 hS929.1 ta936) (by omega) (by omega)) hS929 ta936 (iokF rfl) rfl (by rfl) ?_
            intro I938 hS939 e941 f940
            have c942 : I938 a1 5 = v3 := (f940 _ _ (fun q => by have z := ta1; rw [q.1, ta936] at z; exact absurd z (by decide))).trans c932
            have c943 : I938 a0 9 = v919 := (f940 _ _ (fun q => by have z := ta0; rw [q.1, ta936] at z; exact absurd z (by decide))).trans c933
            have w944 : RdI a0 I0 I938 := w934.keep (f940 _ _ (fun q => by have z := ta0; rw [q.1, ta936] at z; exact absurd z (by decide))) (f940 _ _ (fun q => by have z := ta0; rw [q.1, ta936] at z; exact absurd z (by decide))) (f940 _ _ (fun q => by have z := ta0; rw [q.1, ta936] at z; exact absurd z (by decide))) (f940 _ _ (fun q => by have z := ta0; rw [q.1, ta936] at z; exact absurd z (by decide)))
            have gd945 := Gd.keep gd935 (f940 _ _ (fun q => by have z := ta0; rw [q.1, ta936] at z; exact absurd z (by decide)))
            refine tr_aload_n dX12_readCall_169 rfl ?_
            refine tr_getR dX12_readCall_170 fl12_188 (kR15 hS939.1 ta0) d2 ?_
            obtain ⟨a946, d947, ta946⟩ := rf14_28 hW0 ta1
            refine tr_getR dX12_readCall_173 fl12_364 (kR14 hS939.1 ta1) d947 ?_
            refine tr_aload_n dX12_readCall_176 rfl ?_
            refine tr_getR dX12_readCall_177 fl12_188 (kR15 hS939.1 ta0) d2 ?_
            refine q_getI dX12_readCall_180 fl12_349 (kR14 hS939.1 ta1) c942 ?_
            refine tr_iload dX12_readCall_183 rfl ?_
            refine q_iast dX12_readCall_185 (kR71 hS939.1 ta946) (ti_in (nR71 hS939.1 ta946) (by omega) (by omega)) hS939 ta946 (iokF rfl) rfl (by rfl) ?_
            intro I948 hS949 e951 f950
            have c952 : I948 a1 5 = v3 := (f950 _ _ (fun q => by have z := ta1; rw [q.1, ta946] at z; exact absurd z (by decide))).trans c942
            have c953 : I948 a0 9 = v919 := (f950 _ _ (fun q => by have z := ta0; rw [q.1, ta946] at z; exact absurd z (by decide))).trans c943
            have w954 : RdI a0 I0 I948 := w944.keep (f950 _ _ (fun q => by have z := ta0; rw [q.1, ta946] at z; exact absurd z (by decide))) (f950 _ _ (fun q => by have z := ta0; rw [q.1, ta946] at z; exact absurd z (by decide))) (f950 _ _ (fun q => by have z := ta0; rw [q.1, ta946] at z; exact absurd z (by decide))) (f950 _ _ (fun q => by have z := ta0; rw [q.1, ta946] at z; exact absurd z (by decide)))
            have gd955 := Gd.keep gd945 (f950 _ _ (fun q => by have z := ta0; rw [q.1, ta946] at z; exact absurd z (by decide)))
            refine tr_aload_n dX12_readCall_186 rfl ?_
            refine tr_getR dX12_readCall_187 fl12_188 (kR15 hS949.1 ta0) d2 ?_
            obtain ⟨a956, d957, ta956⟩ := rf14_29 hW0 ta1
            refine tr_getR dX12_readCall_190 fl12_367 (kR14 hS949.1 ta1) d957 ?_
            refine tr_aload_n dX12_readCall_193 rfl ?_
            refine tr_getR dX12_readCall_194 fl12_188 (kR15 hS949.1 ta0) d2 ?_
            refine q_getI dX12_readCall_197 fl12_349 (kR14 hS949.1 ta1) c952 ?_
            refine tr_iload dX12_readCall_200 rfl ?_
            refine q_iast dX12_readCall_202 (kR72 hS949.1 ta956) (ti_in (nR72 hS949.1 ta956) (by omega) (by omega)) hS949 ta956 (iokF rfl) rfl (by rfl) ?_
            intro I958 hS959 e961 f960
            have c962 : I958 a1 5 = v3 := (f960 _ _ (fun q => by have z := ta1; rw [q.1, ta956] at z; exact absurd z (by decide))).trans c952
            have c963 : I958 a0 9 = v919 := (f960 _ _ (fun q => by have z := ta0; rw [q.1, ta956] at z; exact absurd z (by decide))).trans c953
            have w964 : RdI a0 I0 I958 := w954.keep (f960 _ _ (fun q => by have z := ta0; rw [q.1, ta956] at z; exact absurd z (by decide))) (f960 _ _ (fun q => by have z := ta0; rw [q.1, ta956] at z; exact absurd z (by decide))) (f960 _ _ (fun q => by have z := ta0; rw [q.1, ta956] at z; exact absurd z (by decide))) (f960 _ _ (fun q => by have z := ta0; rw [q.1, ta956] at z; exact absurd z (by decide)))
            have gd965 := Gd.keep gd955 (f960 _ _ (fun q => by have z := ta0; rw [q.1, ta956] at z; exact absurd z (by decide)))
            refine tr_aload_n dX12_readCall_203 rfl ?_
            refine tr_getR dX12_readCall_204 fl12_188 (kR15 hS959.1 ta0) d2 ?_
            refine tr_dup dX12_readCall_207 rfl ?_
            refine q_getI dX12_readCall_208 fl12_349 (kR14 hS959.1 ta1) c962 ?_
            refine q_iconst dX12_readCall_211 (by decide) ?_
            intro v966 h967
            refine q_iaddE dX12_readCall_212 (by intros; omega) ?_
            intro v968 h969
            refine q_putI dX12_readCall_213 fl12_349 (kR14 hS959.1 ta1) (Or.inl rfl) hS959 ta1 (by show (0 : Int) ≤ v968.toInt ∧ v968.toInt ≤ (6 : Int); omega) rfl (by decide +kernel) ?_
            intro I970 hS971 e972 f973
            have c974 : I970 a0 9 = v919 := (f973 _ _ (fun q => absurd q.2 (by decide))).trans c963
            have w975 : RdI a0 I0 I970 := w964.keep (f973 _ _ (fun q => absurd q.2 (by decide))) (f973 _ _ (fun q => absurd q.2 (by decide))) (f973 _ _ (fun q => absurd q.2 (by decide))) (f973 _ _ (fun q => absurd q.2 (by decide)))
            have gd976 := Gd.keep gd965 (f973 _ _ (fun q => absurd q.2 (by decide)))
            exact tr_vret hZ dX12_readCall_216 rfl (by decide) (by decide) ⟨rfl, rfl, rfl, rfl, rfl, hS971, w975, trivial⟩
          · skip
            exact tr_vret hZ dX12_readCall_136 rfl (by decide) (by decide) ⟨rfl, rfl, rfl, rfl, rfl, hS914, w916, trivial⟩
      · skip
        refine tr_aload_n dX12_readCall_55 rfl ?_
        refine q_iconst dX12_readCall_56 (by decide) ?_
        intro v977 h978
        refine q_callVv hE (M' := mX12_flaw) (as := [_]) dX12_readCall_57 lk12_145 inX12_flaw seX12_flaw myX12_flaw (by decide) ⟨by decide, by decide⟩ rfl (kR15 hS658.1 ta0) (Nat.le_of_ble_eq_true rfl) rfl rfl (by decide) (by decide) (k_X12_flaw hS658.1 ta0 (by omega)) ?_
        rintro cn' K' N' I979 R980 L981 ⟨rfl, rfl, rfl, rfl, rfl, g982, p984, p985, w986, -⟩
        have hS987 := hS658.tr g982 (by decide +kernel) (by decide +kernel)
        have c988 : I979 a1 5 = v3 := (g982.cell ta1 (by decide +kernel)).trans c659
        have c989 : I979 a0 8 = v647 := (g982.cell ta0 (by decide +kernel)).trans c660
        have w990 : RdI a0 I0 I979 := w661.rd w986
        have gd991 := Gd.go gd662 w986.stick
        obtain ⟨v992, c993⟩ : ∃ v, I979 a0 9 = v := ⟨_, rfl⟩
        have b994 := iv15_9 hS987.1 ta0 c993
        rw [c993] at p984
        rw [c989] at p985
        rw [c660] at p985
        refine tr_aload_n dX12_readCall_60 rfl ?_
        refine q_getI dX12_readCall_61 fl12_99 (kR15 hS987.1 ta0) c993 ?_
        refine q_iconst dX12_readCall_64 (by decide) ?_
        intro v995 h996
        refine q_icmp_ne 72 dX12_readCall_65 (by decide) (fun h997 => ?_) (fun h997 => ?_)
        · skip
          exfalso; omega
        · skip
          refine q_iconst dX12_readCall_68 (by decide) ?_
          intro v998 h999
          refine tr_goto 81 dX12_readCall_69 (by decide) ?_
          refine tr_istore_n dX12_readCall_81 (by decide) (by decide) ?_
          refine tr_aload_n dX12_readCall_82 rfl ?_
          obtain ⟨v1000, c1001⟩ : ∃ v, I979 a0 13 = v := ⟨_, rfl⟩
          refine q_callVv hE (M' := mX12_goesOn) (as := []) dX12_readCall_83 lk12_142 inX12_goesOn seX12_goesOn myX12_goesOn (by decide) ⟨by decide, by decide⟩ rfl (kR15 hS987.1 ta0) (Nat.le_of_ble_eq_true rfl) rfl rfl (by decide) (by decide) (k_X12_goesOn hS987.1 ta0) ?_
          rintro cn' K' N' I1002 R1003 L1004 ⟨rfl, rfl, rfl, rfl, g1005, p1007, p1008, p1009, w1010, -⟩
          have hS1011 := hS987.tr g1005 (by decide +kernel) (by decide +kernel)
          have c1012 : I1002 a1 5 = v3 := (g1005.cell ta1 (by decide +kernel)).trans c988
          have c1013 : I1002 a0 13 = v1000 := (g1005.cell ta0 (by decide +kernel)).trans c1001
          have w1014 : RdI a0 I0 I1002 := w990.rd w1010
          have gd1015 := Gd.go gd991 w1010.stick
          obtain ⟨v1016, c1017⟩ : ∃ v, I1002 a0 9 = v := ⟨_, rfl⟩
          have b1018 := iv15_9 hS1011.1 ta0 c1017
          rw [c993] at p1007
          rw [c1017] at p1007
          rw [c993] at p1008
          rw [c1017] at p1008
          obtain ⟨v1019, c1020⟩ : ∃ v, I1002 a0 8 = v := ⟨_, rfl⟩
          have b1021 := iv15_8 hS1011.1 ta0 c1020
          rw [c1020] at p1009
          rw [c989] at p1009
          rw [c1013] at p1009
          rw [c1001] at p1009
          refine tr_aload_n dX12_readCall_86 rfl ?_
          refine tr_ldcwS dX12_readCall_87 ld12_352 ?_
          refine q_iconst dX12_readCall_90 (by decide) ?_
          intro v1022 h1023
          refine tr_aload_n dX12_readCall_91 rfl ?_
          refine tr_getR dX12_readCall_92 fl12_188 (kR15 hS1011.1 ta0) d2 ?_
          obtain ⟨v1024, c1025⟩ : ∃ v, I0 a1 0 = v := ⟨_, rfl⟩
          have b1026 := iv14_0 hW0 ta1 c1025
          refine q_getI dX12_readCall_95 fl12_192 (kR14 hS1011.1 ta1) ((hS1011.cell ta1 (by decide +kernel)).trans c1025) ?_
          refine q_iconst dX12_readCall_98 (by decide) ?_
          intro v1027 h1028
          refine q_isubE dX12_readCall_99 (by intros; omega) ?_
          intro v1029 h1030
          refine q_callVi hE (M' := mX12_readPart) (as := [_, _, _]) dX12_readCall_100 lk12_249 inX12_readPart seX12_readPart myX12_readPart (by decide) ⟨by decide, by decide⟩ rfl (kR15 hS1011.1 ta0) (Nat.le_of_ble_eq_true rfl) rfl rfl (by decide) (by decide) (k_X12_readPart hS1011.1 ta0 (by decide)) ?_
          rintro v1035 cn' K' N' I1031 R1032 L1033 ⟨rfl, rfl, rfl, rfl, g1034, p1036, w1037, -⟩
          have hS1038 := hS1011.tr g1034 (by decide +kernel) (by decide +kernel)
          have c1039 : I1031 a1 5 = v3 := (g1034.cell ta1 (by decide +kernel)).trans c1012
          have w1040 : RdI a0 I0 I1031 := w1014.rd w1037
          have gd1041 := Gd.go gd1015 w1037.stick
          have b1042 : 0 ≤ v1035.toInt ∧ v1035.toInt ≤ 239 := by omega
          clear p1036
          refine tr_istore_n dX12_readCall_103 (by decide) (by decide) ?_
          refine tr_aload_n dX12_readCall_104 rfl ?_
          refine tr_ldcwS dX12_readCall_105 ld12_354 ?_
          refine q_iconst dX12_readCall_108 (by decide) ?_
          intro v1043 h1044
          refine q_bipush dX12_readCall_109 (by decide +kernel) ?_
          intro v1045 h1046
          refine q_callVi hE (M' := mX12_readPart) (as := [_, _, _]) dX12_readCall_111 lk12_249 inX12_readPart seX12_readPart myX12_readPart (by decide) ⟨by decide, by decide⟩ rfl (kR15 hS1038.1 ta0) (Nat.le_of_ble_eq_true rfl) rfl rfl (by decide) (by decide) (k_X12_readPart hS1038.1 ta0 (by decide)) ?_
          rintro v1051 cn' K' N' I1047 R1048 L1049 ⟨rfl, rfl, rfl, rfl, g1050, p1052, w1053, -⟩
          have hS1054 := hS1038.tr g1050 (by decide +kernel) (by decide +kernel)
          have c1055 : I1047 a1 5 = v3 := (g1050.cell ta1 (by decide +kernel)).trans c1039
          have w1056 : RdI a0 I0 I1047 := w1040.rd w1053
          have gd1057 := Gd.go gd1041 w1053.stick
          have b1058 : 1 ≤ v1051.toInt ∧ v1051.toInt ≤ 60 := by omega
          clear p1052
          refine tr_istore dX12_readCall_114 (by decide) (by decide) ?_
          refine tr_aload_n dX12_readCall_116 rfl ?_
          refine tr_ldcwS dX12_readCall_117 ld12_356 ?_
          refine q_iconst dX12_readCall_120 (by decide) ?_
          intro v1059 h1060
          refine q_bipush dX12_readCall_121 (by decide +kernel) ?_
          intro v1061 h1062
          refine q_callVi hE (M' := mX12_readPart) (as := [_, _, _]) dX12_readCall_123 lk12_249 inX12_readPart seX12_readPart myX12_readPart (by decide) ⟨by decide, by decide⟩ rfl (kR15 hS1054.1 ta0) (Nat.le_of_ble_eq_true rfl) rfl rfl (by decide) (by decide) (k_X12_readPart hS1054.1 ta0 (by decide)) ?_
          rintro v1067 cn' K' N' I1063 R1064 L1065 ⟨rfl, rfl, rfl, rfl, g1066, p1068, w1069, -⟩
          have hS1070 := hS1054.tr g1066 (by decide +kernel) (by decide +kernel)
          have c1071 : I1063 a1 5 = v3 := (g1066.cell ta1 (by decide +kernel)).trans c1055
          have w1072 : RdI a0 I0 I1063 := w1056.rd w1069
          have gd1073 := Gd.go gd1057 w1069.stick
          have b1074 : 0 ≤ v1067.toInt ∧ v1067.toInt ≤ 99 := by omega
          clear p1068
          refine tr_istore dX12_readCall_126 (by decide) (by decide) ?_
          refine tr_aload_n dX12_readCall_128 rfl ?_
          obtain ⟨v1075, c1076⟩ : ∃ v, I1063 a0 9 = v := ⟨_, rfl⟩
          have b1077 := iv15_9 hS1070.1 ta0 c1076
          refine q_getI dX12_readCall_129 fl12_99 (kR15 hS1070.1 ta0) c1076 ?_
          refine q_iconst dX12_readCall_132 (by decide) ?_
          intro v1078 h1079
          refine q_icmp_ne 137 dX12_readCall_133 (by decide) (fun h1080 => ?_) (fun h1080 => ?_)
          · skip
            have p1081 := gd1073 (by rw [c1076]; omega)
            refine tr_aload_n dX12_readCall_137 rfl ?_
            refine tr_getR dX12_readCall_138 fl12_188 (kR15 hS1070.1 ta0) d2 ?_
            obtain ⟨a1082, d1083, ta1082⟩ := rf14_26 hW0 ta1
            refine tr_getR dX12_readCall_141 fl12_358 (kR14 hS1070.1 ta1) d1083 ?_
            refine tr_aload_n dX12_readCall_144 rfl ?_
            refine tr_getR dX12_readCall_145 fl12_188 (kR15 hS1070.1 ta0) d2 ?_
            refine q_getI dX12_readCall_148 fl12_349 (kR14 hS1070.1 ta1) c1071 ?_
            refine tr_iload_n dX12_readCall_151 rfl ?_
            refine q_iast dX12_readCall_152 (kR69 hS1070.1 ta1082) (ti_in (nR69 hS1070.1 ta1082) (by omega) (by omega)) hS1070 ta1082 (iokF rfl) rfl (by rfl) ?_
            intro I1084 hS1085 e1087 f1086
            have c1088 : I1084 a1 5 = v3 := (f1086 _ _ (fun q => by have z := ta1; rw [q.1, ta1082] at z; exact absurd z (by decide))).trans c1071
            have c1089 : I1084 a0 9 = v1075 := (f1086 _ _ (fun q => by have z := ta0; rw [q.1, ta1082] at z; exact absurd z (by decide))).trans c1076
            have w1090 : RdI a0 I0 I1084 := w1072.keep (f1086 _ _ (fun q => by have z := ta0; rw [q.1, ta1082] at z; exact absurd z (by decide))) (f1086 _ _ (fun q => by have z := ta0; rw [q.1, ta1082] at z; exact absurd z (by decide))) (f1086 _ _ (fun q => by have z := ta0; rw [q.1, ta1082] at z; exact absurd z (by decide))) (f1086 _ _ (fun q => by have z := ta0; rw [q.1, ta1082] at z; exact absurd z (by decide)))
            have gd1091 := Gd.keep gd1073 (f1086 _ _ (fun q => by have z := ta0; rw [q.1, ta1082] at z; exact absurd z (by decide)))
            refine tr_aload_n dX12_readCall_153 rfl ?_
            refine tr_getR dX12_readCall_154 fl12_188 (kR15 hS1085.1 ta0) d2 ?_
            obtain ⟨a1092, d1093, ta1092⟩ := rf14_27 hW0 ta1
            refine tr_getR dX12_readCall_157 fl12_361 (kR14 hS1085.1 ta1) d1093 ?_
            refine tr_aload_n dX12_readCall_160 rfl ?_
            refine tr_getR dX12_readCall_161 fl12_188 (kR15 hS1085.1 ta0) d2 ?_
            refine q_getI dX12_readCall_164 fl12_349 (kR14 hS1085.1 ta1) c1088 ?_
            refine tr_iload_n dX12_readCall_167 rfl ?_
            refine q_iast dX12_readCall_168 (kR70 hS1085.1 ta1092) (ti_in (nR70 hS1085.1 ta1092) (by omega) (by omega)) hS1085 ta1092 (iokF rfl) rfl (by rfl) ?_
            intro I1094 hS1095 e1097 f1096
            have c1098 : I1094 a1 5 = v3 := (f1096 _ _ (fun q => by have z := ta1; rw [q.1, ta1092] at z; exact absurd z (by decide))).trans c1088
            have c1099 : I1094 a0 9 = v1075 := (f1096 _ _ (fun q => by have z := ta0; rw [q.1, ta1092] at z; exact absurd z (by decide))).trans c1089
            have w1100 : RdI a0 I0 I1094 := w1090.keep (f1096 _ _ (fun q => by have z := ta0; rw [q.1, ta1092] at z; exact absurd z (by decide))) (f1096 _ _ (fun q => by have z := ta0; rw [q.1, ta1092] at z; exact absurd z (by decide))) (f1096 _ _ (fun q => by have z := ta0; rw [q.1, ta1092] at z; exact absurd z (by decide))) (f1096 _ _ (fun q => by have z := ta0; rw [q.1, ta1092] at z; exact absurd z (by decide)))
            have gd1101 := Gd.keep gd1091 (f1096 _ _ (fun q => by have z := ta0; rw [q.1, ta1092] at z; exact absurd z (by decide)))
            refine tr_aload_n dX12_readCall_169 rfl ?_
            refine tr_getR dX12_readCall_170 fl12_188 (kR15 hS1095.1 ta0) d2 ?_
            obtain ⟨a1102, d1103, ta1102⟩ := rf14_28 hW0 ta1
            refine tr_getR dX12_readCall_173 fl12_364 (kR14 hS1095.1 ta1) d1103 ?_
            refine tr_aload_n dX12_readCall_176 rfl ?_
            refine tr_getR dX12_readCall_177 fl12_188 (kR15 hS1095.1 ta0) d2 ?_
            refine q_getI dX12_readCall_180 fl12_349 (kR14 hS1095.1 ta1) c1098 ?_
            refine tr_iload dX12_readCall_183 rfl ?_
            refine q_iast dX12_readCall_185 (kR71 hS1095.1 ta1102) (ti_in (nR71 hS1095.1 ta1102) (by omega) (by omega)) hS1095 ta1102 (iokF rfl) rfl (by rfl) ?_
            intro I1104 hS1105 e1107 f1106
            have c1108 : I1104 a1 5 = v3 := (f1106 _ _ (fun q => by have z := ta1; rw [q.1, ta1102] at z; exact absurd z (by decide))).trans c1098
            have c1109 : I1104 a0 9 = v1075 := (f1106 _ _ (fun q => by have z := ta0; rw [q.1, ta1102] at z; exact absurd z (by decide))).trans c1099
            have w1110 : RdI a0 I0 I1104 := w1100.keep (f1106 _ _ (fun q => by have z := ta0; rw [q.1, ta1102] at z; exact absurd z (by decide))) (f1106 _ _ (fun q => by have z := ta0; rw [q.1, ta1102] at z; exact absurd z (by decide))) (f1106 _ _ (fun q => by have z := ta0; rw [q.1, ta1102] at z; exact absurd z (by decide))) (f1106 _ _ (fun q => by have z := ta0; rw [q.1, ta1102] at z; exact absurd z (by decide)))
            have gd1111 := Gd.keep gd1101 (f1106 _ _ (fun q => by have z := ta0; rw [q.1, ta1102] at z; exact absurd z (by decide)))
            refine tr_aload_n dX12_readCall_186 rfl ?_
            refine tr_getR dX12_readCall_187 fl12_188 (kR15 hS1105.1 ta0) d2 ?_
            obtain ⟨a1112, d1113, ta1112⟩ := rf14_29 hW0 ta1
            refine tr_getR dX12_readCall_190 fl12_367 (kR14 hS1105.1 ta1) d1113 ?_
            refine tr_aload_n dX12_readCall_193 rfl ?_
            refine tr_getR dX12_readCall_194 fl12_188 (kR15 hS1105.1 ta0) d2 ?_
            refine q_getI dX12_readCall_197 fl12_349 (kR14 hS1105.1 ta1) c1108 ?_
            refine tr_iload dX12_readCall_200 rfl ?_
            refine q_iast dX12_readCall_202 (kR72 hS1105.1 ta1112) (ti_in (nR72 hS1105.1 ta1112) (by omega) (by omega)) hS1105 ta1112 (iokF rfl) rfl (by rfl) ?_
            intro I1114 hS1115 e1117 f1116
            have c1118 : I1114 a1 5 = v3 := (f1116 _ _ (fun q => by have z := ta1; rw [q.1, ta1112] at z; exact absurd z (by decide))).trans c1108
            have c1119 : I1114 a0 9 = v1075 := (f1116 _ _ (fun q => by have z := ta0; rw [q.1, ta1112] at z; exact absurd z (by decide))).trans c1109
            have w1120 : RdI a0 I0 I1114 := w1110.keep (f1116 _ _ (fun q => by have z := ta0; rw [q.1, ta1112] at z; exact absurd z (by decide))) (f1116 _ _ (fun q => by have z := ta0; rw [q.1, ta1112] at z; exact absurd z (by decide))) (f1116 _ _ (fun q => by have z := ta0; rw [q.1, ta1112] at z; exact absurd z (by decide))) (f1116 _ _ (fun q => by have z := ta0; rw [q.1, ta1112] at z; exact absurd z (by decide)))
            have gd1121 := Gd.keep gd1111 (f1116 _ _ (fun q => by have z := ta0; rw [q.1, ta1112] at z; exact absurd z (by decide)))
            refine tr_aload_n dX12_readCall_203 rfl ?_
            refine tr_getR dX12_readCall_204 fl12_188 (kR15 hS1115.1 ta0) d2 ?_
            refine tr_dup dX12_readCall_207 rfl ?_
            refine q_getI dX12_readCall_208 fl12_349 (kR14 hS1115.1 ta1) c1118 ?_
            refine q_iconst dX12_readCall_211 (by decide) ?_
            intro v1122 h1123
            refine q_iaddE dX12_readCall_212 (by intros; omega) ?_
            intro v1124 h1125
            refine q_putI dX12_readCall_213 fl12_349 (kR14 hS1115.1 ta1) (Or.inl rfl) hS1115 ta1 (by show (0 : Int) ≤ v1124.toInt ∧ v1124.toInt ≤ (6 : Int); omega) rfl (by decide +kernel) ?_
            intro I1126 hS1127 e1128 f1129
            have c1130 : I1126 a0 9 = v1075 := (f1129 _ _ (fun q => absurd q.2 (by decide))).trans c1119
            have w1131 : RdI a0 I0 I1126 := w1120.keep (f1129 _ _ (fun q => absurd q.2 (by decide))) (f1129 _ _ (fun q => absurd q.2 (by decide))) (f1129 _ _ (fun q => absurd q.2 (by decide))) (f1129 _ _ (fun q => absurd q.2 (by decide)))
            have gd1132 := Gd.keep gd1121 (f1129 _ _ (fun q => absurd q.2 (by decide)))
            exact tr_vret hZ dX12_readCall_216 rfl (by decide) (by decide) ⟨rfl, rfl, rfl, rfl, rfl, hS1127, w1131, trivial⟩
          · skip
            exact tr_vret hZ dX12_readCall_136 rfl (by decide) (by decide) ⟨rfl, rfl, rfl, rfl, rfl, hS1070, w1072, trivial⟩
def wi_X12_readFresh : List Nat := [968, 969, 970, 971, 972, 973, 974]
def wr_X12_readFresh : List Nat := []
set_option maxHeartbeats 4000000 in
theorem k_X12_readFresh {l : Launch} {T : Nat → Nat} {cn : Nat} {K N : Nat → Nat} {I0 : cz_I} {R0 : cz_R} {L0 : cz_L} {d : Int} (hW0 : Wf T cn K N I0 R0 d) {a0 : Nat} (ta0 : T a0 = 15) (nn4 : ∃ b, R0 a0 4 = some b) : ConE l mX12_readFresh [.ref a0] cn K N I0 R0 L0 (ca_l (fun v cn' K' N' I' R' L' => cn = cn' ∧ K = K' ∧ N = N' ∧ R0 = R' ∧ St T cn K N d wi_X12_readFresh wr_X12_readFresh I0 R0 I' R0 ∧ RdI a0 I0 I' ∧ True)) := by
  refine ConE.of (by decide +kernel) rfl (Nat.le_of_ble_eq_true rfl) rfl (fun X hX hZ hE => ?_)
  subst hX
  have hS0 : St T cn K N d wi_X12_readFresh wr_X12_readFresh I0 R0 I0 R0 := St.rf0 hW0
  obtain ⟨a1, d2⟩ := nn4
  have ta1 : T a1 = 14 := hW0.rsN ta0 rfl d2
  refine tr_aload_n dX12_readFresh_0 rfl ?_
  refine q_callVi hE (M' := mX12_isName) (as := []) dX12_readFresh_1 lk12_197 inX12_isName seX12_isName myX12_isName (by decide) ⟨by decide, by decide⟩ rfl (kR15 hS0.1 ta0) (Nat.le_of_ble_eq_true rfl) rfl rfl (by decide) (by decide) (k_X12_isName hS0.1 ta0) ?_
  rintro v7 cn' K' N' I3 R4 L5 ⟨rfl, rfl, rfl, rfl, rfl, rfl, h8, -⟩
  refine q_if_ne 12 dX12_readFresh_4 (by decide) (fun h9 => ?_) (fun h9 => ?_)
  · skip
    refine tr_aload_n dX12_readFresh_12 rfl ?_
    refine tr_getR dX12_readFresh_13 fl12_188 (kR15 hS0.1 ta0) d2 ?_
    refine tr_aload_n dX12_readFresh_16 rfl ?_
    refine q_getL dX12_readFresh_17 fl12_118 (kR15 hS0.1 ta0) ?_
    intro y10
    refine q_callVi hE (M' := mX11_find) (as := [_]) dX12_readFresh_20 lk12_201 inX11_find seX11_find myX11_find (by decide) ⟨by decide, by decide⟩ rfl (kR14 hS0.1 ta1) (Nat.le_of_ble_eq_true rfl) rfl rfl (by decide) (by decide) (k_X11_find hS0.1 ta1) ?_
    rintro v15 cn' K' N' I11 R12 L13 ⟨rfl, rfl, rfl, rfl, rfl, rfl, h16, -⟩
    refine q_iconst dX12_readFresh_23 (by decide) ?_
    intro v17 h18
    refine q_icmp_eq 32 dX12_readFresh_24 (by decide) (fun h19 => ?_) (fun h19 => ?_)
    · skip
      refine tr_aload_n dX12_readFresh_32 rfl ?_
      refine q_getL dX12_readFresh_33 fl12_118 (kR15 hS0.1 ta0) ?_
      intro y20
      refine tr_lstore_n dX12_readFresh_36 (by decide) (by decide) (by decide) ?_
      refine tr_aload_n dX12_readFresh_37 rfl ?_
      obtain ⟨v21, c22⟩ : ∃ v, I0 a0 9 = v := ⟨_, rfl⟩
      have b23 := iv15_9 hS0.1 ta0 c22
      obtain ⟨v24, c25⟩ : ∃ v, I0 a0 8 = v := ⟨_, rfl⟩
      have b26 := iv15_8 hS0.1 ta0 c25
      obtain ⟨v27, c28⟩ : ∃ v, I0 a0 13 = v := ⟨_, rfl⟩
      refine q_callVv hE (M' := mX12_goesOn) (as := []) dX12_readFresh_38 lk12_142 inX12_goesOn seX12_goesOn myX12_goesOn (by decide) ⟨by decide, by decide⟩ rfl (kR15 hS0.1 ta0) (Nat.le_of_ble_eq_true rfl) rfl rfl (by decide) (by decide) (k_X12_goesOn hS0.1 ta0) ?_
      rintro cn' K' N' I29 R30 L31 ⟨rfl, rfl, rfl, rfl, g32, p34, p35, p36, w37, -⟩
      have hS38 := hS0.tr g32 (by decide +kernel) (by decide +kernel)
      have c39 : I29 a0 13 = v27 := (g32.cell ta0 (by decide +kernel)).trans c28
      have w40 : RdI a0 I0 I29 := (EwI.rf a0 I0).rd w37
      obtain ⟨v41, c42⟩ : ∃ v, I29 a0 9 = v := ⟨_, rfl⟩
      have b43 := iv15_9 hS38.1 ta0 c42
      rw [c22] at p34
      rw [c42] at p34
      rw [c22] at p35
      rw [c42] at p35
      obtain ⟨v44, c45⟩ : ∃ v, I29 a0 8 = v := ⟨_, rfl⟩
      have b46 := iv15_8 hS38.1 ta0 c45
      rw [c45] at p36
      rw [c25] at p36
      rw [c39] at p36
      rw [c28] at p36
      refine tr_lload_n dX12_readFresh_41 rfl ?_
      exact tr_lret hZ dX12_readFresh_42 rfl (by decide) (by decide) ⟨y20, rfl, rfl, rfl, rfl, rfl, hS38, w40, trivial⟩
    · skip
      refine tr_aload_n dX12_readFresh_27 rfl ?_
      refine q_iconst dX12_readFresh_28 (by decide) ?_
      intro v47 h48
      obtain ⟨v49, c50⟩ : ∃ v, I0 a0 8 = v := ⟨_, rfl⟩
      have b51 := iv15_8 hS0.1 ta0 c50
      refine q_callVv hE (M' := mX12_flaw) (as := [_]) dX12_readFresh_29 lk12_145 inX12_flaw seX12_flaw myX12_flaw (by decide) ⟨by decide, by decide⟩ rfl (kR15 hS0.1 ta0) (Nat.le_of_ble_eq_true rfl) rfl rfl (by decide) (by decide) (k_X12_flaw hS0.1 ta0 (by omega)) ?_
      rintro cn' K' N' I52 R53 L54 ⟨rfl, rfl, rfl, rfl, rfl, g55, p57, p58, w59, -⟩
      have hS60 := hS0.tr g55 (by decide +kernel) (by decide +kernel)
      have c61 : I52 a0 8 = v49 := (g55.cell ta0 (by decide +kernel)).trans c50
      have w62 : RdI a0 I0 I52 := (EwI.rf a0 I0).rd w59
      obtain ⟨v63, c64⟩ : ∃ v, I52 a0 9 = v := ⟨_, rfl⟩
      have b65 := iv15_9 hS60.1 ta0 c64
      rw [c64] at p57
      rw [c61] at p58
      rw [c50] at p58
      refine tr_aload_n dX12_readFresh_32 rfl ?_
      refine q_getL dX12_readFresh_33 fl12_118 (kR15 hS60.1 ta0) ?_
      intro y66
      refine tr_lstore_n dX12_readFresh_36 (by decide) (by decide) (by decide) ?_
      refine tr_aload_n dX12_readFresh_37 rfl ?_
      obtain ⟨v67, c68⟩ : ∃ v, I52 a0 13 = v := ⟨_, rfl⟩
      refine q_callVv hE (M' := mX12_goesOn) (as := []) dX12_readFresh_38 lk12_142 inX12_goesOn seX12_goesOn myX12_goesOn (by decide) ⟨by decide, by decide⟩ rfl (kR15 hS60.1 ta0) (Nat.le_of_ble_eq_true rfl) rfl rfl (by decide) (by decide) (k_X12_goesOn hS60.1 ta0) ?_
      rintro cn' K' N' I69 R70 L71 ⟨rfl, rfl, rfl, rfl, g72, p74, p75, p76, w77, -⟩
      have hS78 := hS60.tr g72 (by decide +kernel) (by decide +kernel)
      have c79 : I69 a0 13 = v67 := (g72.cell ta0 (by decide +kernel)).trans c68
      have w80 : RdI a0 I0 I69 := w62.rd w77
      obtain ⟨v81, c82⟩ : ∃ v, I69 a0 9 = v := ⟨_, rfl⟩
      have b83 := iv15_9 hS78.1 ta0 c82
      rw [c64] at p74
      rw [c82] at p74
      rw [c64] at p75
      rw [c82] at p75
      obtain ⟨v84, c85⟩ : ∃ v, I69 a0 8 = v := ⟨_, rfl⟩
      have b86 := iv15_8 hS78.1 ta0 c85
      rw [c85] at p76
      rw [c61] at p76
      rw [c79] at p76
      rw [c68] at p76
      refine tr_lload_n dX12_readFresh_41 rfl ?_
      exact tr_lret hZ dX12_readFresh_42 rfl (by decide) (by decide) ⟨y66, rfl, rfl, rfl, rfl, rfl, hS78, w80, trivial⟩
  · skip
    refine tr_aload_n dX12_readFresh_7 rfl ?_
    refine q_iconst dX12_readFresh_8 (by decide) ?_
    intro v87 h88
    obtain ⟨v89, c90⟩ : ∃ v, I0 a0 8 = v := ⟨_, rfl⟩
    have b91 := iv15_8 hS0.1 ta0 c90
    refine q_callVv hE (M' := mX12_flaw) (as := [_]) dX12_readFresh_9 lk12_145 inX12_flaw seX12_flaw myX12_flaw (by decide) ⟨by decide, by decide⟩ rfl (kR15 hS0.1 ta0) (Nat.le_of_ble_eq_true rfl) rfl rfl (by decide) (by decide) (k_X12_flaw hS0.1 ta0 (by omega)) ?_
    rintro cn' K' N' I92 R93 L94 ⟨rfl, rfl, rfl, rfl, rfl, g95, p97, p98, w99, -⟩
    have hS100 := hS0.tr g95 (by decide +kernel) (by decide +kernel)
    have c101 : I92 a0 8 = v89 := (g95.cell ta0 (by decide +kernel)).trans c90
    have w102 : RdI a0 I0 I92 := (EwI.rf a0 I0).rd w99
    obtain ⟨v103, c104⟩ : ∃ v, I92 a0 9 = v := ⟨_, rfl⟩
    have b105 := iv15_9 hS100.1 ta0 c104
    rw [c104] at p97
    rw [c101] at p98
    rw [c90] at p98
    refine tr_aload_n dX12_readFresh_12 rfl ?_
    refine tr_getR dX12_readFresh_13 fl12_188 (kR15 hS100.1 ta0) d2 ?_
    refine tr_aload_n dX12_readFresh_16 rfl ?_
    refine q_getL dX12_readFresh_17 fl12_118 (kR15 hS100.1 ta0) ?_
    intro y106
    refine q_callVi hE (M' := mX11_find) (as := [_]) dX12_readFresh_20 lk12_201 inX11_find seX11_find myX11_find (by decide) ⟨by decide, by decide⟩ rfl (kR14 hS100.1 ta1) (Nat.le_of_ble_eq_true rfl) rfl rfl (by decide) (by decide) (k_X11_find hS100.1 ta1) ?_
    rintro v111 cn' K' N' I107 R108 L109 ⟨rfl, rfl, rfl, rfl, rfl, rfl, h112, -⟩
    refine q_iconst dX12_readFresh_23 (by decide) ?_
    intro v113 h114
    refine q_icmp_eq 32 dX12_readFresh_24 (by decide) (fun h115 => ?_) (fun h115 => ?_)
    · skip
      refine tr_aload_n dX12_readFresh_32 rfl ?_
      refine q_getL dX12_readFresh_33 fl12_118 (kR15 hS100.1 ta0) ?_
      intro y116
      refine tr_lstore_n dX12_readFresh_36 (by decide) (by decide) (by decide) ?_
      refine tr_aload_n dX12_readFresh_37 rfl ?_
      obtain ⟨v117, c118⟩ : ∃ v, I92 a0 13 = v := ⟨_, rfl⟩
      refine q_callVv hE (M' := mX12_goesOn) (as := []) dX12_readFresh_38 lk12_142 inX12_goesOn seX12_goesOn myX12_goesOn (by decide) ⟨by decide, by decide⟩ rfl (kR15 hS100.1 ta0) (Nat.le_of_ble_eq_true rfl) rfl rfl (by decide) (by decide) (k_X12_goesOn hS100.1 ta0) ?_
      rintro cn' K' N' I119 R120 L121 ⟨rfl, rfl, rfl, rfl, g122, p124, p125, p126, w127, -⟩
      have hS128 := hS100.tr g122 (by decide +kernel) (by decide +kernel)
      have c129 : I119 a0 13 = v117 := (g122.cell ta0 (by decide +kernel)).trans c118
      have w130 : RdI a0 I0 I119 := w102.rd w127
      obtain ⟨v131, c132⟩ : ∃ v, I119 a0 9 = v := ⟨_, rfl⟩
      have b133 := iv15_9 hS128.1 ta0 c132
      rw [c104] at p124
      rw [c132] at p124
      rw [c104] at p125
      rw [c132] at p125
      obtain ⟨v134, c135⟩ : ∃ v, I119 a0 8 = v := ⟨_, rfl⟩
      have b136 := iv15_8 hS128.1 ta0 c135
      rw [c135] at p126
      rw [c101] at p126
      rw [c129] at p126
      rw [c118] at p126
      refine tr_lload_n dX12_readFresh_41 rfl ?_
      exact tr_lret hZ dX12_readFresh_42 rfl (by decide) (by decide) ⟨y116, rfl, rfl, rfl, rfl, rfl, hS128, w130, trivial⟩
    · skip
      refine tr_aload_n dX12_readFresh_27 rfl ?_
      refine q_iconst dX12_readFresh_28 (by decide) ?_
      intro v137 h138
      refine q_callVv hE (M' := mX12_flaw) (as := [_]) dX12_readFresh_29 lk12_145 inX12_flaw seX12_flaw myX12_flaw (by decide) ⟨by decide, by decide⟩ rfl (kR15 hS100.1 ta0) (Nat.le_of_ble_eq_true rfl) rfl rfl (by decide) (by decide) (k_X12_flaw hS100.1 ta0 (by omega)) ?_
      rintro cn' K' N' I139 R140 L141 ⟨rfl, rfl, rfl, rfl, rfl, g142, p144, p145, w146, -⟩
      have hS147 := hS100.tr g142 (by decide +kernel) (by decide +kernel)
      have c148 : I139 a0 8 = v89 := (g142.cell ta0 (by decide +kernel)).trans c101
      have w149 : RdI a0 I0 I139 := w102.rd w146
      obtain ⟨v150, c151⟩ : ∃ v, I139 a0 9 = v := ⟨_, rfl⟩
      have b152 := iv15_9 hS147.1 ta0 c151
      rw [c151] at p144
      rw [c148] at p145
      rw [c101] at p145
      refine tr_aload_n dX12_readFresh_32 rfl ?_
      refine q_getL dX12_readFresh_33 fl12_118 (kR15 hS147.1 ta0) ?_
      intro y153
      refine tr_lstore_n dX12_readFresh_36 (by decide) (by decide) (by decide) ?_
      refine tr_aload_n dX12_readFresh_37 rfl ?_
      obtain ⟨v154, c155⟩ : ∃ v, I139 a0 13 = v := ⟨_, rfl⟩
      refine q_callVv hE (M' := mX12_goesOn) (as := []) dX12_readFresh_38 lk12_142 inX12_goesOn seX12_goesOn myX12_goesOn (by decide) ⟨by decide, by decide⟩ rfl (kR15 hS147.1 ta0) (Nat.le_of_ble_eq_true rfl) rfl rfl (by decide) (by decide) (k_X12_goesOn hS147.1 ta0) ?_
      rintro cn' K' N' I156 R157 L158 ⟨rfl, rfl, rfl, rfl, g159, p161, p162, p163, w164, -⟩
      have hS165 := hS147.tr g159 (by decide +kernel) (by decide +kernel)
      have c166 : I156 a0 13 = v154 := (g159.cell ta0 (by decide +kernel)).trans c155
      have w167 : RdI a0 I0 I156 := w149.rd w164
      obtain ⟨v168, c169⟩ : ∃ v, I156 a0 9 = v := ⟨_, rfl⟩
      have b170 := iv15_9 hS165.1 ta0 c169
      rw [c151] at p161
      rw [c169] at p161
      rw [c151] at p162
      rw [c169] at p162
      obtain ⟨v171, c172⟩ : ∃ v, I156 a0 8 = v := ⟨_, rfl⟩
      have b173 := iv15_8 hS165.1 ta0 c172
      rw [c172] at p163
      rw [c148] at p163
      rw [c166] at p163
      rw [c155] at p163
      refine tr_lload_n dX12_readFresh_41 rfl ?_
      exact tr_lret hZ dX12_readFresh_42 rfl (by decide) (by decide) ⟨y153, rfl, rfl, rfl, rfl, rfl, hS165, w167, trivial⟩
def wi_X12_eatsWord : List Nat := [968, 969, 970, 971, 972]
def wr_X12_eatsWord : List Nat := []
set_option maxHeartbeats 4000000 in
theorem k_X12_eatsWord {l : Launch} {T : Nat → Nat} {cn : Nat} {K N : Nat → Nat} {I0 : cz_I} {R0 : cz_R} {L0 : cz_L} {d : Int} (hW0 : Wf T cn K N I0 R0 d) {a0 : Nat} (ta0 : T a0 = 15) {u1 : UInt32} (hu1 : u1.toNat < cz_NS) : ConE l mX12_eatsWord [.ref a0, .float u1] cn K N I0 R0 L0 (ca_i (fun v cn' K' N' I' R' L' => cn = cn' ∧ K = K' ∧ N = N' ∧ R0 = R' ∧ St T cn K N d wi_X12_eatsWord wr_X12_eatsWord I0 R0 I' R0 ∧ (0 ≤ v.toInt ∧ v.toInt ≤ 1) ∧ EwI a0 I0 I' ∧ True)) := by
  refine ConE.of (by decide +kernel) rfl (Nat.le_of_ble_eq_true rfl) rfl (fun X hX hZ hE => ?_)
  subst hX
  have hS0 : St T cn K N d wi_X12_eatsWord wr_X12_eatsWord I0 R0 I0 R0 := St.rf0 hW0
  refine tr_aload_n dX12_eatsWord_0 rfl ?_
  refine tr_aload_nS dX12_eatsWord_1 rfl ?_
  obtain ⟨v1, c2⟩ : ∃ v, I0 a0 9 = v := ⟨_, rfl⟩
  have b3 := iv15_9 hS0.1 ta0 c2
  refine q_callVi hE (M' := mX12_isWord) (as := [_]) dX12_eatsWord_2 lk12_138 inX12_isWord seX12_isWord myX12_isWord (by decide) ⟨by decide, by decide⟩ rfl (kR15 hS0.1 ta0) (Nat.le_of_ble_eq_true rfl) rfl rfl (by decide) (by decide) (k_X12_isWord hS0.1 ta0 hu1) ?_
  rintro v8 cn' K' N' I4 R5 L6 ⟨rfl, rfl, rfl, rfl, rfl, rfl, h9, p10, -⟩
  rw [c2] at p10
  refine tr_istore_n dX12_eatsWord_5 (by decide) (by decide) ?_
  refine tr_iload_n dX12_eatsWord_6 rfl ?_
  refine q_if_eq 14 dX12_eatsWord_7 (by decide) (fun h11 => ?_) (fun h11 => ?_)
  · skip
    refine tr_iload_n dX12_eatsWord_14 rfl ?_
    exact tr_zret hZ dX12_eatsWord_15 rfl (ti_b01 (by omega) (by omega)) (by decide) (by decide) ⟨v8, rfl, rfl, rfl, rfl, rfl, hS0, (by omega), (EwI.rf a0 I0), trivial⟩
  · skip
    refine tr_aload_n dX12_eatsWord_10 rfl ?_
    obtain ⟨v12, c13⟩ : ∃ v, I0 a0 8 = v := ⟨_, rfl⟩
    have b14 := iv15_8 hS0.1 ta0 c13
    obtain ⟨v15, c16⟩ : ∃ v, I0 a0 13 = v := ⟨_, rfl⟩
    refine q_callVv hE (M' := mX12_goesOn) (as := []) dX12_eatsWord_11 lk12_142 inX12_goesOn seX12_goesOn myX12_goesOn (by decide) ⟨by decide, by decide⟩ rfl (kR15 hS0.1 ta0) (Nat.le_of_ble_eq_true rfl) rfl rfl (by decide) (by decide) (k_X12_goesOn hS0.1 ta0) ?_
    rintro cn' K' N' I17 R18 L19 ⟨rfl, rfl, rfl, rfl, g20, p22, p23, p24, w25, -⟩
    have hS26 := hS0.tr g20 (by decide +kernel) (by decide +kernel)
    have w27 : RdI a0 I0 I17 := (EwI.rf a0 I0).rd w25
    obtain ⟨v28, c29⟩ : ∃ v, I17 a0 9 = v := ⟨_, rfl⟩
    have b30 := iv15_9 hS26.1 ta0 c29
    rw [c2] at p22
    rw [c29] at p22
    rw [c2] at p23
    rw [c29] at p23
    obtain ⟨v31, c32⟩ : ∃ v, I17 a0 8 = v := ⟨_, rfl⟩
    have b33 := iv15_8 hS26.1 ta0 c32
    rw [c32] at p24
    rw [c13] at p24
    rw [((hS26.cell ta0 (by decide +kernel)).trans c16)] at p24
    rw [c16] at p24
    refine tr_iload_n dX12_eatsWord_14 rfl ?_
    exact tr_zret hZ dX12_eatsWord_15 rfl (ti_b01 (by omega) (by omega)) (by decide) (by decide) ⟨v8, rfl, rfl, rfl, rfl, rfl, hS26, (by omega), (Or.inr w27), trivial⟩
def wi_X12_names : List Nat := [903, 4799, 4863]
def wr_X12_names : List Nat := []
set_option maxHeartbeats 4000000 in
theorem k_X12_names {l : Launch} {T : Nat → Nat} {cn : Nat} {K N : Nat → Nat} {I0 : cz_I} {R0 : cz_R} {L0 : cz_L} (hW0 : Wf T cn K N I0 R0 0) {a0 : Nat} (ta0 : T a0 = 15) {y1 : Int64} {x2 : Int32} {x3 : Int32} (pre0 : ∀ b1, R0 a0 4 = some b1 → (I0 b1 7).toInt ≤ 12) (nn4 : ∃ b, R0 a0 4 = some b) : ConE l mX12_names [.ref a0, .long y1, .int x2, .int x3] cn K N I0 R0 L0 (ca_v (fun cn' K' N' I' R' L' => cn = cn' ∧ K = K' ∧ N = N' ∧ R0 = R' ∧ St T cn K N 1 wi_X12_names wr_X12_names I0 R0 I' R0 ∧ True)) := by
  refine ConE.of (by decide +kernel) rfl (Nat.le_of_ble_eq_true rfl) rfl (fun X hX hZ hE => ?_)
  subst hX
  have hS0 : St T cn K N 0 wi_X12_names wr_X12_names I0 R0 I0 R0 := St.rf0 hW0
  obtain ⟨a1, d2⟩ := nn4
  have ta1 : T a1 = 14 := hW0.rsN ta0 rfl d2
  obtain ⟨v3, c4⟩ : ∃ v, I0 a1 7 = v := ⟨_, rfl⟩
  have b5 := iv14_7 hS0.1 ta1 c4
  have p6 := pre0 _ d2
  rw [c4] at p6
  refine tr_aload_n dX12_names_0 rfl ?_
  refine tr_getR dX12_names_1 fl12_188 (kR15 hS0.1 ta0) d2 ?_
  obtain ⟨a7, d8, ta7⟩ := rf14_30 hW0 ta1
  refine tr_getR dX12_names_4 fl12_205 (kR14 hS0.1 ta1) d8 ?_
  refine tr_aload_n dX12_names_7 rfl ?_
  refine tr_getR dX12_names_8 fl12_188 (kR15 hS0.1 ta0) d2 ?_
  refine q_getI dX12_names_11 fl12_209 (kR14 hS0.1 ta1) c4 ?_
  refine tr_lload_n dX12_names_14 rfl ?_
  refine q_last dX12_names_15 (kR73 hS0.1 ta7) (ti_in (nR73 hS0.1 ta7) (by omega) (by omega)) ?_
  intro L9
  refine tr_aload_n dX12_names_16 rfl ?_
  refine tr_getR dX12_names_17 fl12_188 (kR15 hS0.1 ta0) d2 ?_
  obtain ⟨a10, d11, ta10⟩ := rf14_31 hW0 ta1
  refine tr_getR dX12_names_20 fl12_212 (kR14 hS0.1 ta1) d11 ?_
  refine tr_aload_n dX12_names_23 rfl ?_
  refine tr_getR dX12_names_24 fl12_188 (kR15 hS0.1 ta0) d2 ?_
  refine q_getI dX12_names_27 fl12_209 (kR14 hS0.1 ta1) c4 ?_
  refine tr_iload_n dX12_names_30 rfl ?_
  refine q_iast dX12_names_31 (kR74 hS0.1 ta10) (ti_in (nR74 hS0.1 ta10) (by omega) (by omega)) hS0 ta10 (iokF rfl) rfl (by rfl) ?_
  intro I12 hS13 e15 f14
  have c16 : I12 a1 7 = v3 := (f14 _ _ (fun q => by have z := ta1; rw [q.1, ta10] at z; exact absurd z (by decide))).trans c4
  refine tr_aload_n dX12_names_32 rfl ?_
  refine tr_getR dX12_names_33 fl12_188 (kR15 hS13.1 ta0) d2 ?_
  obtain ⟨a17, d18, ta17⟩ := rf14_32 hW0 ta1
  refine tr_getR dX12_names_36 fl12_215 (kR14 hS13.1 ta1) d18 ?_
  refine tr_aload_n dX12_names_39 rfl ?_
  refine tr_getR dX12_names_40 fl12_188 (kR15 hS13.1 ta0) d2 ?_
  refine q_getI dX12_names_43 fl12_209 (kR14 hS13.1 ta1) c16 ?_
  refine tr_iload dX12_names_46 rfl ?_
  refine q_iast dX12_names_48 (kR75 hS13.1 ta17) (ti_in (nR75 hS13.1 ta17) (by omega) (by omega)) hS13 ta17 (iokF rfl) rfl (by rfl) ?_
  intro I19 hS20 e22 f21
  have c23 : I19 a1 7 = v3 := (f21 _ _ (fun q => by have z := ta1; rw [q.1, ta17] at z; exact absurd z (by decide))).trans c16
  refine tr_aload_n dX12_names_49 rfl ?_
  refine tr_getR dX12_names_50 fl12_188 (kR15 hS20.1 ta0) d2 ?_
  refine tr_dup dX12_names_53 rfl ?_
  refine q_getI dX12_names_54 fl12_209 (kR14 hS20.1 ta1) c23 ?_
  refine q_iconst dX12_names_57 (by decide) ?_
  intro v24 h25
  refine q_iaddE dX12_names_58 (by intros; omega) ?_
  intro v26 h27
  refine q_putX dX12_names_59 fl12_209 (kR14 hS20.1 ta1) (Or.inl rfl) hS20 ta1 (by decide +kernel) (hS20.1.putN (d' := 1) ta0 d2 (Or.inl rfl) (by rw [c23]; omega) (by decide) (by show (0 : Int) ≤ v26.toInt ∧ v26.toInt ≤ (13 : Int); omega)) ?_
  intro I28 hS29 e30 f31
  exact tr_vret hZ dX12_names_62 rfl (by decide) (by decide) ⟨rfl, rfl, rfl, rfl, rfl, hS29, trivial⟩
def wi_X12_readTurner : List Nat := [900, 903, 968, 969, 970, 971, 972, 973, 974, 4095, 4159, 4223, 4287, 4351, 4415, 4799, 4863]
def wr_X12_readTurner : List Nat := []
set_option maxHeartbeats 4000000 in
theorem k_X12_readTurner {l : Launch} {T : Nat → Nat} {cn : Nat} {K N : Nat → Nat} {I0 : cz_I} {R0 : cz_R} {L0 : cz_L} (hW0 : Wf T cn K N I0 R0 0) {a0 : Nat} (ta0 : T a0 = 15) (nn4 : ∃ b, R0 a0 4 = some b) : ConE l mX12_readTurner [.ref a0] cn K N I0 R0 L0 (ca_v (fun cn' K' N' I' R' L' => cn = cn' ∧ K = K' ∧ N = N' ∧ R0 = R' ∧ St T cn K N 0 wi_X12_readTurner wr_X12_readTurner I0 R0 I' R0 ∧ RdI a0 I0 I' ∧ True)) := by
  refine ConE.of (by decide +kernel) rfl (Nat.le_of_ble_eq_true rfl) rfl (fun X hX hZ hE => ?_)
  subst hX
  have hS0 : St T cn K N 0 wi_X12_readTurner wr_X12_readTurner I0 R0 I0 R0 := St.rf0 hW0
  obtain ⟨a1, d2⟩ := nn4
  have ta1 : T a1 = 14 := hW0.rsN ta0 rfl d2
  obtain ⟨v3, c4⟩ : ∃ v, I0 a1 4 = v := ⟨_, rfl⟩
  have b5 := iv14_4 hS0.1 ta1 c4
  refine tr_aload_n dX12_readTurner_0 rfl ?_
  refine tr_aload_n dX12_readTurner_1 rfl ?_
  refine tr_getR dX12_readTurner_2 fl12_188 (kR15 hS0.1 ta0) d2 ?_
  refine q_getI dX12_readTurner_5 fl12_315 (kR14 hS0.1 ta1) c4 ?_
  refine q_iconst dX12_readTurner_8 (by decide) ?_
  intro v6 h7
  refine q_callVv hE (M' := mX12_begins) (as := [_, _]) dX12_readTurner_9 lk12_268 inX12_begins seX12_begins myX12_begins (by decide) ⟨by decide, by decide⟩ rfl (kR15 hS0.1 ta0) (Nat.le_of_ble_eq_true rfl) rfl rfl (by decide) (by decide) (k_X12_begins hS0.1 ta0 ⟨_, d2⟩) ?_
  rintro cn' K' N' I8 R9 L10 ⟨rfl, rfl, rfl, rfl, g11, p13, w14, -⟩
  have hS15 := hS0.tr g11 (by decide +kernel) (by decide +kernel)
  have c16 : I8 a1 4 = v3 := (g11.cell ta1 (by decide +kernel)).trans c4
  have w17 : RdI a0 I0 I8 := (EwI.rf a0 I0).rd w14
  obtain ⟨v18, c19⟩ : ∃ v, I8 a0 9 = v := ⟨_, rfl⟩
  have b20 := iv15_9 hS15.1 ta0 c19
  have gd21 : Gd (I8 a0 9) (v3.toInt ≠ v6.toInt) := p13
  clear p13
  refine tr_aload_n dX12_readTurner_12 rfl ?_
  refine q_callVl hE (M' := mX12_readFresh) (as := []) dX12_readTurner_13 lk12_285 inX12_readFresh seX12_readFresh myX12_readFresh (by decide) ⟨by decide, by decide⟩ rfl (kR15 hS15.1 ta0) (Nat.le_of_ble_eq_true rfl) rfl rfl (by decide) (by decide) (k_X12_readFresh hS15.1 ta0 ⟨_, d2⟩) ?_
  rintro y26 cn' K' N' I22 R23 L24 ⟨rfl, rfl, rfl, rfl, g25, w27, -⟩
  have hS28 := hS15.tr g25 (by decide +kernel) (by decide +kernel)
  have c29 : I22 a1 4 = v3 := (g25.cell ta1 (by decide +kernel)).trans c16
  have w30 : RdI a0 I0 I22 := w17.rd w27
  have gd31 := Gd.go gd21 w27.stick
  refine tr_lstore_n dX12_readTurner_16 (by decide) (by decide) (by decide) ?_
  refine tr_aload_n dX12_readTurner_17 rfl ?_
  refine tr_ldcwS dX12_readTurner_18 ld12_318 ?_
  refine q_callVi hE (M' := mX12_eatsWord) (as := [_]) dX12_readTurner_21 lk12_290 inX12_eatsWord seX12_eatsWord myX12_eatsWord (by decide) ⟨by decide, by decide⟩ rfl (kR15 hS28.1 ta0) (Nat.le_of_ble_eq_true rfl) rfl rfl (by decide) (by decide) (k_X12_eatsWord hS28.1 ta0 (by decide)) ?_
  rintro v36 cn' K' N' I32 R33 L34 ⟨rfl, rfl, rfl, rfl, g35, h37, w38, -⟩
  have hS39 := hS28.tr g35 (by decide +kernel) (by decide +kernel)
  have c40 : I32 a1 4 = v3 := (g35.cell ta1 (by decide +kernel)).trans c29
  have w41 : RdI a0 I0 I32 := w30.ew w38
  have gd42 := Gd.go gd31 w38.stick
  refine q_if_eq 31 dX12_readTurner_24 (by decide) (fun h43 => ?_) (fun h43 => ?_)
  · skip
    refine tr_aload_n dX12_readTurner_31 rfl ?_
    refine tr_ldcwS dX12_readTurner_32 ld12_320 ?_
    refine q_callVi hE (M' := mX12_eatsWord) (as := [_]) dX12_readTurner_35 lk12_290 inX12_eatsWord seX12_eatsWord myX12_eatsWord (by decide) ⟨by decide, by decide⟩ rfl (kR15 hS39.1 ta0) (Nat.le_of_ble_eq_true rfl) rfl rfl (by decide) (by decide) (k_X12_eatsWord hS39.1 ta0 (by decide)) ?_
    rintro v48 cn' K' N' I44 R45 L46 ⟨rfl, rfl, rfl, rfl, g47, h49, w50, -⟩
    have hS51 := hS39.tr g47 (by decide +kernel) (by decide +kernel)
    have c52 : I44 a1 4 = v3 := (g47.cell ta1 (by decide +kernel)).trans c40
    have w53 : RdI a0 I0 I44 := w41.ew w50
    have gd54 := Gd.go gd42 w50.stick
    refine q_if_eq 45 dX12_readTurner_38 (by decide) (fun h55 => ?_) (fun h55 => ?_)
    · skip
      refine tr_aload_n dX12_readTurner_45 rfl ?_
      refine tr_ldcwS dX12_readTurner_46 ld12_322 ?_
      refine q_callVi hE (M' := mX12_eatsWord) (as := [_]) dX12_readTurner_49 lk12_290 inX12_eatsWord seX12_eatsWord myX12_eatsWord (by decide) ⟨by decide, by decide⟩ rfl (kR15 hS51.1 ta0) (Nat.le_of_ble_eq_true rfl) rfl rfl (by decide) (by decide) (k_X12_eatsWord hS51.1 ta0 (by decide)) ?_
      rintro v60 cn' K' N' I56 R57 L58 ⟨rfl, rfl, rfl, rfl, g59, h61, w62, -⟩
      have hS63 := hS51.tr g59 (by decide +kernel) (by decide +kernel)
      have c64 : I56 a1 4 = v3 := (g59.cell ta1 (by decide +kernel)).trans c52
      have w65 : RdI a0 I0 I56 := w53.ew w62
      have gd66 := Gd.go gd54 w62.stick
      refine q_if_eq 59 dX12_readTurner_52 (by decide) (fun h67 => ?_) (fun h67 => ?_)
      · skip
        refine tr_aload_n dX12_readTurner_59 rfl ?_
        refine tr_ldcS dX12_readTurner_60 ld12_178 ?_
        refine q_callVi hE (M' := mX12_eatsWord) (as := [_]) dX12_readTurner_62 lk12_290 inX12_eatsWord seX12_eatsWord myX12_eatsWord (by decide) ⟨by decide, by decide⟩ rfl (kR15 hS63.1 ta0) (Nat.le_of_ble_eq_true rfl) rfl rfl (by decide) (by decide) (k_X12_eatsWord hS63.1 ta0 (by decide)) ?_
        rintro v72 cn' K' N' I68 R69 L70 ⟨rfl, rfl, rfl, rfl, g71, h73, w74, -⟩
        have hS75 := hS63.tr g71 (by decide +kernel) (by decide +kernel)
        have c76 : I68 a1 4 = v3 := (g71.cell ta1 (by decide +kernel)).trans c64
        have w77 : RdI a0 I0 I68 := w65.ew w74
        have gd78 := Gd.go gd66 w74.stick
        refine q_if_eq 72 dX12_readTurner_65 (by decide) (fun h79 => ?_) (fun h79 => ?_)
        · skip
          refine q_iconst dX12_readTurner_72 (by decide) ?_
          intro v80 h81
          refine tr_istore_n dX12_readTurner_73 (by decide) (by decide) ?_
          refine tr_iload_n dX12_readTurner_74 rfl ?_
          refine q_iconst dX12_readTurner_75 (by decide) ?_
          intro v82 h83
          refine q_icmp_ne 84 dX12_readTurner_76 (by decide) (fun h84 => ?_) (fun h84 => ?_)
          · skip
            exfalso; omega
          · skip
            refine tr_aload_n dX12_readTurner_79 rfl ?_
            refine q_iconst dX12_readTurner_80 (by decide) ?_
            intro v85 h86
            obtain ⟨v87, c88⟩ : ∃ v, I68 a0 8 = v := ⟨_, rfl⟩
            have b89 := iv15_8 hS75.1 ta0 c88
            refine q_callVv hE (M' := mX12_flaw) (as := [_]) dX12_readTurner_81 lk12_145 inX12_flaw seX12_flaw myX12_flaw (by decide) ⟨by decide, by decide⟩ rfl (kR15 hS75.1 ta0) (Nat.le_of_ble_eq_true rfl) rfl rfl (by decide) (by decide) (k_X12_flaw hS75.1 ta0 (by omega)) ?_
            rintro cn' K' N' I90 R91 L92 ⟨rfl, rfl, rfl, rfl, rfl, g93, p95, p96, w97, -⟩
            have hS98 := hS75.tr g93 (by decide +kernel) (by decide +kernel)
            have c99 : I90 a1 4 = v3 := (g93.cell ta1 (by decide +kernel)).trans c76
            have c100 : I90 a0 8 = v87 := (g93.cell ta0 (by decide +kernel)).trans c88
            have w101 : RdI a0 I0 I90 := w77.rd w97
            have gd102 := Gd.go gd78 w97.stick
            obtain ⟨v103, c104⟩ : ∃ v, I90 a0 9 = v := ⟨_, rfl⟩
            have b105 := iv15_9 hS98.1 ta0 c104
            rw [c104] at p95
            rw [c100] at p96
            rw [c88] at p96
            refine tr_aload_n dX12_readTurner_84 rfl ?_
            refine tr_ldcwS dX12_readTurner_85 ld12_324 ?_
            refine q_iconst dX12_readTurner_88 (by decide) ?_
            intro v106 h107
            refine tr_aload_n dX12_readTurner_89 rfl ?_
            refine tr_getR dX12_readTurner_90 fl12_188 (kR15 hS98.1 ta0) d2 ?_
            obtain ⟨v108, c109⟩ : ∃ v, I0 a1 0 = v := ⟨_, rfl⟩
            have b110 := iv14_0 hW0 ta1 c109
            refine q_getI dX12_readTurner_93 fl12_192 (kR14 hS98.1 ta1) ((hS98.cell ta1 (by decide +kernel)).trans c109) ?_
            refine q_iconst dX12_readTurner_96 (by decide) ?_
            intro v111 h112
            refine q_isubE dX12_readTurner_97 (by intros; omega) ?_
            intro v113 h114
            refine q_callVi hE (M' := mX12_readPart) (as := [_, _, _]) dX12_readTurner_98 lk12_249 inX12_readPart seX12_readPart myX12_readPart (by decide) ⟨by decide, by decide⟩ rfl (kR15 hS98.1 ta0) (Nat.le_of_ble_eq_true rfl) rfl rfl (by decide) (by decide) (k_X12_readPart hS98.1 ta0 (by decide)) ?_
            rintro v119 cn' K' N' I115 R116 L117 ⟨rfl, rfl, rfl, rfl, g118, p120, w121, -⟩
            have hS122 := hS98.tr g118 (by decide +kernel) (by decide +kernel)
            have c123 : I115 a1 4 = v3 := (g118.cell ta1 (by decide +kernel)).trans c99
            have w124 : RdI a0 I0 I115 := w101.rd w121
            have gd125 := Gd.go gd102 w121.stick
            have b126 : 0 ≤ v119.toInt ∧ v119.toInt ≤ 239 := by omega
            clear p120
            refine tr_istore dX12_readTurner_101 (by decide) (by decide) ?_
            refine tr_aload_n dX12_readTurner_103 rfl ?_
            refine tr_ldcwS dX12_readTurner_104 ld12_272 ?_
            refine tr_iload dX12_readTurner_107 rfl ?_
            refine q_iconst dX12_readTurner_109 (by decide) ?_
            intro v127 h128
            refine q_iaddE dX12_readTurner_110 (by intros; omega) ?_
            intro v129 h130
            refine tr_aload_n dX12_readTurner_111 rfl ?_
            refine tr_getR dX12_readTurner_112 fl12_188 (kR15 hS122.1 ta0) d2 ?_
            refine q_getI dX12_readTurner_115 fl12_192 (kR14 hS122.1 ta1) ((hS122.cell ta1 (by decide +kernel)).trans c109) ?_
            refine q_callVi hE (M' := mX12_readPart) (as := [_, _, _]) dX12_readTurner_118 lk12_249 inX12_readPart seX12_readPart myX12_readPart (by decide) ⟨by decide, by decide⟩ rfl (kR15 hS122.1 ta0) (Nat.le_of_ble_eq_true rfl) rfl rfl (by decide) (by decide) (k_X12_readPart hS122.1 ta0 (by decide)) ?_
            rintro v135 cn' K' N' I131 R132 L133 ⟨rfl, rfl, rfl, rfl, g134, p136, w137, -⟩
            have hS138 := hS122.tr g134 (by decide +kernel) (by decide +kernel)
            have c139 : I131 a1 4 = v3 := (g134.cell ta1 (by decide +kernel)).trans c123
            have w140 : RdI a0 I0 I131 := w124.rd w137
            have gd141 := Gd.go gd125 w137.stick
            have b142 : 1 ≤ v135.toInt ∧ v135.toInt ≤ 240 := by omega
            clear p136
            refine tr_istore dX12_readTurner_121 (by decide) (by decide) ?_
            refine tr_aload_n dX12_readTurner_123 rfl ?_
            refine tr_ldcwS dX12_readTurner_124 ld12_325 ?_
            refine q_iconst dX12_readTurner_127 (by decide) ?_
            intro v143 h144
            refine q_bipush dX12_readTurner_128 (by decide +kernel) ?_
            intro v145 h146
            refine q_callVi hE (M' := mX12_readPart) (as := [_, _, _]) dX12_readTurner_130 lk12_249 inX12_readPart seX12_readPart myX12_readPart (by decide) ⟨by decide, by decide⟩ rfl (kR15 hS138.1 ta0) (Nat.le_of_ble_eq_true rfl) rfl rfl (by decide) (by decide) (k_X12_readPart hS138.1 ta0 (by decide)) ?_
            rintro v151 cn' K' N' I147 R148 L149 ⟨rfl, rfl, rfl, rfl, g150, p152, w153, -⟩
            have hS154 := hS138.tr g150 (by decide +kernel) (by decide +kernel)
            have c155 : I147 a1 4 = v3 := (g150.cell ta1 (by decide +kernel)).trans c139
            have w156 : RdI a0 I0 I147 := w140.rd w153
            have gd157 := Gd.go gd141 w153.stick
            have b158 : 1 ≤ v151.toInt ∧ v151.toInt ≤ 8 := by omega
            clear p152
            refine tr_istore dX12_readTurner_133 (by decide) (by decide) ?_
            refine tr_aload_n dX12_readTurner_135 rfl ?_
            refine tr_ldcwS dX12_readTurner_136 ld12_327 ?_
            refine q_iconst dX12_readTurner_139 (by decide) ?_
            intro v159 h160
            refine q_bipush dX12_readTurner_140 (by decide +kernel) ?_
            intro v161 h162
            refine q_callVi hE (M' := mX12_readPart) (as := [_, _, _]) dX12_readTurner_142 lk12_249 inX12_readPart seX12_readPart myX12_readPart (by decide) ⟨by decide, by decide⟩ rfl (kR15 hS154.1 ta0) (Nat.le_of_ble_eq_true rfl) rfl rfl (by decide) (by decide) (k_X12_readPart hS154.1 ta0 (by decide)) ?_
            rintro v167 cn' K' N' I163 R164 L165 ⟨rfl, rfl, rfl, rfl, g166, p168, w169, -⟩
            have hS170 := hS154.tr g166 (by decide +kernel) (by decide +kernel)
            have c171 : I163 a1 4 = v3 := (g166.cell ta1 (by decide +kernel)).trans c155
            have w172 : RdI a0 I0 I163 := w156.rd w169
            have gd173 := Gd.go gd157 w169.stick
            have b174 : 1 ≤ v167.toInt ∧ v167.toInt ≤ 20 := by omega
            clear p168
            refine tr_istore dX12_readTurner_145 (by decide) (by decide) ?_
            refine tr_aload_n dX12_readTurner_147 rfl ?_
            refine tr_ldcS dX12_readTurner_148 ld12_253 ?_
            refine q_callVv hE (M' := mX12_needs) (as := [_]) dX12_readTurner_150 lk12_157 inX12_needs seX12_needs myX12_needs (by decide) ⟨by decide, by decide⟩ rfl (kR15 hS170.1 ta0) (Nat.le_of_ble_eq_true rfl) rfl rfl (by decide) (by decide) (k_X12_needs hS170.1 ta0 (by decide)) ?_
            rintro cn' K' N' I175 R176 L177 ⟨rfl, rfl, rfl, rfl, g178, w180, -⟩
            have hS181 := hS170.tr g178 (by decide +kernel) (by decide +kernel)
            have c182 : I175 a1 4 = v3 := (g178.cell ta1 (by decide +kernel)).trans c171
            have w183 : RdI a0 I0 I175 := w172.rd w180
            have gd184 := Gd.go gd173 w180.stick
            refine q_iconst dX12_readTurner_153 (by decide) ?_
            intro v185 h186
            refine tr_istore dX12_readTurner_154 (by decide) (by decide) ?_
            refine q_iconst dX12_readTurner_156 (by decide) ?_
            intro v187 h188
            refine tr_istore dX12_readTurner_157 (by decide) (by decide) ?_
            obtain ⟨v209, c210⟩ : ∃ v, I175 a0 8 = v := ⟨_, rfl⟩
            have b211 := iv15_8 hS181.1 ta0 c210
            have lp215 : ∀ (fu : Nat) (ls : Nat → Option Value) (v189 : Int32) (v190 : Int32) (I200 : cz_I) (L201 : cz_L) (v203 : Int32) (v205 : Int32), ls 0 = some (.ref a0) → ls 1 = some (.long y26) → ls 3 = some (.int v80) → ls 4 = some (.int v119) → ls 5 = some (.int v135) → ls 6 = some (.int v151) → ls 7 = some (.int v167) → ls 8 = some (.int v189) → ls 9 = some (.int v190) → St T cn K N 0 wi_X12_readTurner wr_X12_readTurner I0 R0 I200 R0 → I200 a0 8 = v203 → I200 a1 4 = v205 → RdI a0 I0 I200 → Gd (I200 a0 9) (v3.toInt ≠ v6.toInt) → 0 ≤ v190.toInt → v190.toInt ≤ 1 → v205.toInt = v3.toInt → (-v203.toInt + v190.toInt + 900).toNat < fu → Tr X mX12_readTurner 159 ls [] cn K N I200 R0 L201 0 0 := by
              intro fu
              induction fu with
              | zero => intros; rename_i hz; exact absurd hz (Nat.not_lt_zero _)
              | succ fu ih215 =>
                intro ls v189 v190 I200 L201 v203 v205 hl191 hl192 hl193 hl194 hl195 hl196 hl197 hl198 hl199 hS202 c204 c206 w207 gd208 g212 g213 g214 hm215
                have b217 := iv15_8 hS202.1 ta0 c204
                have b218 := iv14_4 hS202.1 ta1 c206
                refine tr_iload dX12_readTurner_159 hl199 ?_
                refine q_if_eq 227 dX12_readTurner_161 (by decide) (fun h219 => ?_) (fun h219 => ?_)
                · skip
                  refine tr_aload_n dX12_readTurner_227 hl191 ?_
                  obtain ⟨v220, c221⟩ : ∃ v, I200 a0 9 = v := ⟨_, rfl⟩
                  have b222 := iv15_9 hS202.1 ta0 c221
                  refine q_getI dX12_readTurner_228 fl12_99 (kR15 hS202.1 ta0) c221 ?_
                  refine q_iconst dX12_readTurner_231 (by decide) ?_
                  intro v223 h224
                  refine q_icmp_ne 236 dX12_readTurner_232 (by decide) (fun h225 => ?_) (fun h225 => ?_)
                  · skip
                    have p226 := gd208 (by rw [c221]; omega)
                    refine tr_aload_n dX12_readTurner_236 hl191 ?_
                    refine tr_getR dX12_readTurner_237 fl12_188 (kR15 hS202.1 ta0) d2 ?_
                    refine q_getI dX12_readTurner_240 fl12_315 (kR14 hS202.1 ta1) c206 ?_
                    refine tr_istore dX12_readTurner_243 (by decide) (by decide) ?_
                    refine tr_aload_n dX12_readTurner_245 hl191 ?_
                    refine tr_lload_n dX12_readTurner_246 hl192 ?_
                    refine q_iconst dX12_readTurner_247 (by decide) ?_
                    intro v227 h228
                    refine tr_iload dX12_readTurner_248 rfl ?_
                    obtain ⟨v230, c231⟩ : ∃ v, I200 a1 7 = v := ⟨_, rfl⟩
                    have b232 := iv14_7 hS202.1 ta1 c231
                    obtain ⟨v233, c234⟩ : ∃ v, I0 a1 3 = v := ⟨_, rfl⟩
                    have b235 := iv14_3 hW0 ta1 c234
                    have p229 := hS202.1.2.2.2.2.1 a0 ta0 _ d2
                    rw [c231, ((hS202.cell ta1 (by decide +kernel)).trans c234), c206] at p229
                    refine q_callVv hE (M' := mX12_names) (as := [_, _, _]) dX12_readTurner_250 lk12_293 inX12_names seX12_names myX12_names (by decide) ⟨by decide, by decide⟩ rfl (kR15 hS202.1 ta0) (Nat.le_of_ble_eq_true rfl) rfl rfl (by decide) (by decide) (k_X12_names hS202.1 ta0 (fun q0 z0 => by obtain rfl := Option.some.inj ((d2).symm.trans z0); (try rw [c231]); (try omega)) ⟨_, d2⟩) ?_
                    rintro cn' K' N' I236 R237 L238 ⟨rfl, rfl, rfl, rfl, g239, -⟩
                    have hS241 := hS202.tr g239 (by decide +kernel) (by decide +kernel)
                    have c242 : I236 a0 8 = v203 := (g239.cell ta0 (by decide +kernel)).trans c204
                    have c243 : I236 a1 4 = v205 := (g239.cell ta1 (by decide +kernel)).trans c206
                    have c244 : I236 a0 9 = v220 := (g239.cell ta0 (by decide +kernel)).trans c221
                    have w245 : RdI a0 I0 I236 := w207.keep (g239.cell ta0 (by decide +kernel)) (g239.cell ta0 (by decide +kernel)) (g239.cell ta0 (by decide +kernel)) (g239.cell ta0 (by decide +kernel))
                    have w246 : EwI a0 I200 I236 := (EwI.rf a0 I200).keep (g239.cell ta0 (by decide +kernel)) (g239.cell ta0 (by decide +kernel)) (g239.cell ta0 (by decide +kernel)) (g239.cell ta0 (by decide +kernel))
                    have gd247 := Gd.keep gd208 (g239.cell ta0 (by decide +kernel))
                    refine tr_aload_n dX12_readTurner_253 hl191 ?_
                    refine tr_getR dX12_readTurner_254 fl12_188 (kR15 hS241.1 ta0) d2 ?_
                    obtain ⟨a248, d249, ta248⟩ := rf14_20 hW0 ta1
                    refine tr_getR dX12_readTurner_257 fl12_333 (kR14 hS241.1 ta1) d249 ?_
                    refine tr_iload dX12_readTurner_260 rfl ?_
                    refine tr_iload_n dX12_readTurner_262 hl193 ?_
                    refine q_iast dX12_readTurner_263 (kR63 hS241.1 ta248) (ti_in (nR63 hS241.1 ta248) (by omega) (by omega)) hS241 ta248 (iokF rfl) rfl (by rfl) ?_
                    intro I250 hS251 e253 f252
                    have c254 : I250 a0 8 = v203 := (f252 _ _ (fun q => by have z := ta0; rw [q.1, ta248] at z; exact absurd z (by decide))).trans c242
                    have c255 : I250 a1 4 = v205 := (f252 _ _ (fun q => by have z := ta1; rw [q.1, ta248] at z; exact absurd z (by decide))).trans c243
                    have c256 : I250 a0 9 = v220 := (f252 _ _ (fun q => by have z := ta0; rw [q.1, ta248] at z; exact absurd z (by decide))).trans c244
                    have w257 : RdI a0 I0 I250 := w245.keep (f252 _ _ (fun q => by have z := ta0; rw [q.1, ta248] at z; exact absurd z (by decide))) (f252 _ _ (fun q => by have z := ta0; rw [q.1, ta248] at z; exact absurd z (by decide))) (f252 _ _ (fun q => by have z := ta0; rw [q.1, ta248] at z; exact absurd z (by decide))) (f252 _ _ (fun q => by have z := ta0; rw [q.1, ta248] at z; exact absurd z (by decide)))
                    have w258 : EwI a0 I200 I250 := w246.keep (f252 _ _ (fun q => by have z := ta0; rw [q.1, ta248] at z; exact absurd z (by decide))) (f252 _ _ (fun q => by have z := ta0; rw [q.1, ta248] at z; exact absurd z (by decide))) (f252 _ _ (fun q => by have z := ta0; rw [q.1, ta248] at z; exact absurd z (by decide))) (f252 _ _ (fun q => by have z := ta0; rw [q.1, ta248] at z; exact absurd z (by decide)))
                    have gd259 := Gd.keep gd247 (f252 _ _ (fun q => by have z := ta0; rw [q.1, ta248] at z; exact absurd z (by decide)))
                    refine tr_aload_n dX12_readTurner_264 hl191 ?_
                    refine tr_getR dX12_readTurner_265 fl12_188 (kR15 hS251.1 ta0) d2 ?_
                    obtain ⟨a260, d261, ta260⟩ := rf14_21 hW0 ta1
                    refine tr_getR dX12_readTurner_268 fl12_336 (kR14 hS251.1 ta1) d261 ?_
                    refine tr_iload dX12_readTurner_271 rfl ?_
                    refine tr_iload dX12_readTurner_273 hl194 ?_
                    refine q_iast dX12_readTurner_275 (kR64 hS251.1 ta260) (ti_in (nR64 hS251.1 ta260) (by omega) (by omega)) hS251 ta260 (iokF rfl) rfl (by rfl) ?_
                    intro I262 hS263 e265 f264
                    have c266 : I262 a0 8 = v203 := (f264 _ _ (fun q => by have z := ta0; rw [q.1, ta260] at z; exact absurd z (by decide))).trans c254
                    have c267 : I262 a1 4 = v205 := (f264 _ _ (fun q => by have z := ta1; rw [q.1, ta260] at z; exact absurd z (by decide))).trans c255
                    have c268 : I262 a0 9 = v220 := (f264 _ _ (fun q => by have z := ta0; rw [q.1, ta260] at z; exact absurd z (by decide))).trans c256
                    have w269 : RdI a0 I0 I262 := w257.keep (f264 _ _ (fun q => by have z := ta0; rw [q.1, ta260] at z; exact absurd z (by decide))) (f264 _ _ (fun q => by have z := ta0; rw [q.1, ta260] at z; exact absurd z (by decide))) (f264 _ _ (fun q => by have z := ta0; rw [q.1, ta260] at z; exact absurd z (by decide))) (f264 _ _ (fun q => by have z := ta0; rw [q.1, ta260] at z; exact absurd z (by decide)))
                    have w270 : EwI a0 I200 I262 := w258.keep (f264 _ _ (fun q => by have z := ta0; rw [q.1, ta260] at z; exact absurd z (by decide))) (f264 _ _ (fun q => by have z := ta0; rw [q.1, ta260] at z; exact absurd z (by decide))) (f264 _ _ (fun q => by have z := ta0; rw [q.1, ta260] at z; exact absurd z (by decide))) (f264 _ _ (fun q => by have z := ta0; rw [q.1, ta260] at z; exact absurd z (by decide)))
                    have gd271 := Gd.keep gd259 (f264 _ _ (fun q => by have z := ta0; rw [q.1, ta260] at z; exact absurd z (by decide)))
                    refine tr_aload_n dX12_readTurner_276 hl191 ?_
                    refine tr_getR dX12_readTurner_277 fl12_188 (kR15 hS263.1 ta0) d2 ?_
                    obtain ⟨a272, d273, ta272⟩ := rf14_22 hW0 ta1
                    refine tr_getR dX12_readTurner_280 fl12_339 (kR14 hS263.1 ta1) d273 ?_
                    refine tr_iload dX12_readTurner_283 rfl ?_
                    refine tr_iload dX12_readTurner_285 hl195 ?_
                    refine q_iast dX12_readTurner_287 (kR65 hS263.1 ta272) (ti_in (nR65 hS263.1 ta272) (by omega) (by omega)) hS263 ta272 (iokF rfl) rfl (by rfl) ?_
                    intro I274 hS275 e277 f276
                    have c278 : I274 a0 8 = v203 := (f276 _ _ (fun q => by have z := ta0; rw [q.1, ta272] at z; exact absurd z (by decide))).trans c266
                    have c279 : I274 a1 4 = v205 := (f276 _ _ (fun q => by have z := ta1; rw [q.1, ta272] at z; exact absurd z (by decide))).trans c267
                    have c280 : I274 a0 9 = v220 := (f276 _ _ (fun q => by have z := ta0; rw [q.1, ta272] at z; exact absurd z (by decide))).trans c268
                    have w281 : RdI a0 I0 I274 := w269.keep (f276 _ _ (fun q => by have z := ta0; rw [q.1, ta272] at z; exact absurd z (by decide))) (f276 _ _ (fun q => by have z := ta0; rw [q.1, ta272] at z; exact absurd z (by decide))) (f276 _ _ (fun q => by have z := ta0; rw [q.1, ta272] at z; exact absurd z (by decide))) (f276 _ _ (fun q => by have z := ta0; rw [q.1, ta272] at z; exact absurd z (by decide)))
                    have w282 : EwI a0 I200 I274 := w270.keep (f276 _ _ (fun q => by have z := ta0; rw [q.1, ta272] at z; exact absurd z (by decide))) (f276 _ _ (fun q => by have z := ta0; rw [q.1, ta272] at z; exact absurd z (by decide))) (f276 _ _ (fun q => by have z := ta0; rw [q.1, ta272] at z; exact absurd z (by decide))) (f276 _ _ (fun q => by have z := ta0; rw [q.1, ta272] at z; exact absurd z (by decide)))
                    have gd283 := Gd.keep gd271 (f276 _ _ (fun q => by have z := ta0; rw [q.1, ta272] at z; exact absurd z (by decide)))
                    refine tr_aload_n dX12_readTurner_288 hl191 ?_
                    refine tr_getR dX12_readTurner_289 fl12_188 (kR15 hS275.1 ta0) d2 ?_
                    obtain ⟨a284, d285, ta284⟩ := rf14_23 hW0 ta1
                    refine tr_getR dX12_readTurner_292 fl12_342 (kR14 hS275.1 ta1) d285 ?_
                    refine tr_iload dX12_readTurner_295 rfl ?_
                    refine tr_iload dX12_readTurner_297 hl196 ?_
                    refine q_iast dX12_readTurner_299 (kR66 hS275.1 ta284) (ti_in (nR66 hS275.1 ta284) (by omega) (by omega)) hS275 ta284 (iokF rfl) rfl (by rfl) ?_
                    intro I286 hS287 e289 f288
                    have c290 : I286 a0 8 = v203 := (f288 _ _ (fun q => by have z := ta0; rw [q.1, ta284] at z; exact absurd z (by decide))).trans c278
                    have c291 : I286 a1 4 = v205 := (f288 _ _ (fun q => by have z := ta1; rw [q.1, ta284] at z; exact absurd z (by decide))).trans c279
                    have c292 : I286 a0 9 = v220 := (f288 _ _ (fun q => by have z := ta0; rw [q.1, ta284] at z; exact absurd z (by decide))).trans c280
                    have w293 : RdI a0 I0 I286 := w281.keep (f288 _ _ (fun q => by have z := ta0; rw [q.1, ta284] at z; exact absurd z (by decide))) (f288 _ _ (fun q => by have z := ta0; rw [q.1, ta284] at z; exact absurd z (by decide))) (f288 _ _ (fun q => by have z := ta0; rw [q.1, ta284] at z; exact absurd z (by decide))) (f288 _ _ (fun q => by have z := ta0; rw [q.1, ta284] at z; exact absurd z (by decide)))
                    have w294 : EwI a0 I200 I286 := w282.keep (f288 _ _ (fun q => by have z := ta0; rw [q.1, ta284] at z; exact absurd z (by decide))) (f288 _ _ (fun q => by have z := ta0; rw [q.1, ta284] at z; exact absurd z (by decide))) (f288 _ _ (fun q => by have z := ta0; rw [q.1, ta284] at z; exact absurd z (by decide))) (f288 _ _ (fun q => by have z := ta0; rw [q.1, ta284] at z; exact absurd z (by decide)))
                    have gd295 := Gd.keep gd283 (f288 _ _ (fun q => by have z := ta0; rw [q.1, ta284] at z; exact absurd z (by decide)))
                    refine tr_aload_n dX12_readTurner_300 hl191 ?_
                    refine tr_getR dX12_readTurner_301 fl12_188 (kR15 hS287.1 ta0) d2 ?_
                    obtain ⟨a296, d297, ta296⟩ := rf14_24 hW0 ta1
                    refine tr_getR dX12_readTurner_304 fl12_344 (kR14 hS287.1 ta1) d297 ?_
                    refine tr_iload dX12_readTurner_307 rfl ?_
                    refine tr_iload dX12_readTurner_309 hl197 ?_
                    refine q_iast dX12_readTurner_311 (kR67 hS287.1 ta296) (ti_in (nR67 hS287.1 ta296) (by omega) (by omega)) hS287 ta296 (iokF rfl) rfl (by rfl) ?_
                    intro I298 hS299 e301 f300
                    have c302 : I298 a0 8 = v203 := (f300 _ _ (fun q => by have z := ta0; rw [q.1, ta296] at z; exact absurd z (by decide))).trans c290
                    have c303 : I298 a1 4 = v205 := (f300 _ _ (fun q => by have z := ta1; rw [q.1, ta296] at z; exact absurd z (by decide))).trans c291
                    have c304 : I298 a0 9 = v220 := (f300 _ _ (fun q => by have z := ta0; rw [q.1, ta296] at z; exact absurd z (by decide))).trans c292
                    have w305 : RdI a0 I0 I298 := w293.keep (f300 _ _ (fun q => by have z := ta0; rw [q.1, ta296] at z; exact absurd z (by decide))) (f300 _ _ (fun q => by have z := ta0; rw [q.1, ta296] at z; exact absurd z (by decide))) (f300 _ _ (fun q => by have z := ta0; rw [q.1, ta296] at z; exact absurd z (by decide))) (f300 _ _ (fun q => by have z := ta0; rw [q.1, ta296] at z; exact absurd z (by decide)))
                    have w306 : EwI a0 I200 I298 := w294.keep (f300 _ _ (fun q => by have z := ta0; rw [q.1, ta296] at z; exact absurd z (by decide))) (f300 _ _ (fun q => by have z := ta0; rw [q.1, ta296] at z; exact absurd z (by decide))) (f300 _ _ (fun q => by have z := ta0; rw [q.1, ta296] at z; exact absurd z (by decide))) (f300 _ _ (fun q => by have z := ta0; rw [q.1, ta296] at z; exact absurd z (by decide)))
                    have gd307 := Gd.keep gd295 (f300 _ _ (fun q => by have z := ta0; rw [q.1, ta296] at z; exact absurd z (by decide)))
                    refine tr_aload_n dX12_readTurner_312 hl191 ?_
                    refine tr_getR dX12_readTurner_313 fl12_188 (kR15 hS299.1 ta0) d2 ?_
                    obtain ⟨a308, d309, ta308⟩ := rf14_25 hW0 ta1
                    refine tr_getR dX12_readTurner_316 fl12_346 (kR14 hS299.1 ta1) d309 ?_
                    refine tr_iload dX12_readTurner_319 rfl ?_
                    refine tr_iload dX12_readTurner_321 hl198 ?_
                    refine q_iast dX12_readTurner_323 (kR68 hS299.1 ta308) (ti_in (nR68 hS299.1 ta308) (by omega) (by omega)) hS299 ta308 (iokF rfl) rfl (by rfl) ?_
                    intro I310 hS311 e313 f312
                    have c314 : I310 a0 8 = v203 := (f312 _ _ (fun q => by have z := ta0; rw [q.1, ta308] at z; exact absurd z (by decide))).trans c302
                    have c315 : I310 a1 4 = v205 := (f312 _ _ (fun q => by have z := ta1; rw [q.1, ta308] at z; exact absurd z (by decide))).trans c303
                    have c316 : I310 a0 9 = v220 := (f312 _ _ (fun q => by have z := ta0; rw [q.1, ta308] at z; exact absurd z (by decide))).trans c304
                    have w317 : RdI a0 I0 I310 := w305.keep (f312 _ _ (fun q => by have z := ta0; rw [q.1, ta308] at z; exact absurd z (by decide))) (f312 _ _ (fun q => by have z := ta0; rw [q.1, ta308] at z; exact absurd z (by decide))) (f312 _ _ (fun q => by have z := ta0; rw [q.1, ta308] at z; exact absurd z (by decide))) (f312 _ _ (fun q => by have z := ta0; rw [q.1, ta308] at z; exact absurd z (by decide)))
                    have w318 : EwI a0 I200 I310 := w306.keep (f312 _ _ (fun q => by have z := ta0; rw [q.1, ta308] at z; exact absurd z (by decide))) (f312 _ _ (fun q => by have z := ta0; rw [q.1, ta308] at z; exact absurd z (by decide))) (f312 _ _ (fun q => by have z := ta0; rw [q.1, ta308] at z; exact absurd z (by decide))) (f312 _ _ (fun q => by have z := ta0; rw [q.1, ta308] at z; exact absurd z (by decide)))
                    have gd319 := Gd.keep gd307 (f312 _ _ (fun q => by have z := ta0; rw [q.1, ta308] at z; exact absurd z (by decide)))
                    refine tr_aload_n dX12_readTurner_324 hl191 ?_
                    refine tr_getR dX12_readTurner_325 fl12_188 (kR15 hS311.1 ta0) d2 ?_
                    refine tr_dup dX12_readTurner_328 rfl ?_
                    refine q_getI dX12_readTurner_329 fl12_315 (kR14 hS311.1 ta1) c315 ?_
                    refine q_iconst dX12_readTurner_332 (by decide) ?_
                    intro v320 h321
                    refine q_iaddE dX12_readTurner_333 (by intros; omega) ?_
                    intro v322 h323
                    refine q_putX dX12_readTurner_334 fl12_315 (kR14 hS311.1 ta1) (Or.inl rfl) hS311 ta1 (by decide +kernel) (hS311.1.putN (d' := 0) ta0 d2 (Or.inr (Or.inr rfl)) (by rw [c315]; omega) (by decide) (by show (0 : Int) ≤ v322.toInt ∧ v322.toInt ≤ (5 : Int); omega)) ?_
                    intro I324 hS325 e326 f327
                    have c328 : I324 a0 8 = v203 := (f327 _ _ (fun q => absurd q.2 (by decide))).trans c314
                    have c329 : I324 a0 9 = v220 := (f327 _ _ (fun q => absurd q.2 (by decide))).trans c316
                    have w330 : RdI a0 I0 I324 := w317.keep (f327 _ _ (fun q => absurd q.2 (by decide))) (f327 _ _ (fun q => absurd q.2 (by decide))) (f327 _ _ (fun q => absurd q.2 (by decide))) (f327 _ _ (fun q => absurd q.2 (by decide)))
                    have w331 : EwI a0 I200 I324 := w318.keep (f327 _ _ (fun q => absurd q.2 (by decide))) (f327 _ _ (fun q => absurd q.2 (by decide))) (f327 _ _ (fun q => absurd q.2 (by decide))) (f327 _ _ (fun q => absurd q.2 (by decide)))
                    have gd332 := Gd.keep gd319 (f327 _ _ (fun q => absurd q.2 (by decide)))
                    exact tr_vret hZ dX12_readTurner_337 rfl (by decide) (by decide) ⟨rfl, rfl, rfl, rfl, rfl, hS325, w330, trivial⟩
                  · skip
                    exact tr_vret hZ dX12_readTurner_235 rfl (by decide) (by decide) ⟨rfl, rfl, rfl, rfl, rfl, hS202, w207, trivial⟩
                · skip
                  refine tr_aload_n dX12_readTurner_164 hl191 ?_
                  obtain ⟨v333, c334⟩ : ∃ v, I200 a0 9 = v := ⟨_, rfl⟩
                  have b335 := iv15_9 hS202.1 ta0 c334
                  refine q_getI dX12_readTurner_165 fl12_99 (kR15 hS202.1 ta0) c334 ?_
                  refine q_iconst dX12_readTurner_168 (by decide) ?_
                  intro v336 h337
                  refine q_icmp_eq 227 dX12_readTurner_169 (by decide) (fun h338 => ?_) (fun h338 => ?_)
                  · skip
                    refine tr_aload_n dX12_readTurner_227 hl191 ?_
                    refine q_getI dX12_readTurner_228 fl12_99 (kR15 hS202.1 ta0) c334 ?_
                    refine q_iconst dX12_readTurner_231 (by decide) ?_
                    intro v339 h340
                    refine q_icmp_ne 236 dX12_readTurner_232 (by decide) (fun h341 => ?_) (fun h341 => ?_)
                    · skip
                      exfalso; omega
                    · skip
                      exact tr_vret hZ dX12_readTurner_235 rfl (by decide) (by decide) ⟨rfl, rfl, rfl, rfl, rfl, hS202, w207, trivial⟩
                  · skip
                    have p342 := gd208 (by rw [c334]; omega)
                    refine tr_aload_n dX12_readTurner_172 hl191 ?_
                    refine q_iconst dX12_readTurner_173 (by decide) ?_
                    intro v343 h344
                    refine tr_aload_n dX12_readTurner_174 hl191 ?_
                    refine tr_getR dX12_readTurner_175 fl12_188 (kR15 hS202.1 ta0) d2 ?_
                    obtain ⟨v345, c346⟩ : ∃ v, I0 a1 1 = v := ⟨_, rfl⟩
                    have b347 := iv14_1 hW0 ta1 c346
                    refine q_getI dX12_readTurner_178 fl12_263 (kR14 hS202.1 ta1) ((hS202.cell ta1 (by decide +kernel)).trans c346) ?_
                    refine q_iconst dX12_readTurner_181 (by decide) ?_
                    intro v348 h349
                    refine q_isubE dX12_readTurner_182 (by intros; omega) ?_
                    intro v350 h351
                    refine q_callVi hE (M' := mX12_bounded) (as := [_, _]) dX12_readTurner_183 lk12_153 inX12_bounded seX12_bounded myX12_bounded (by decide) ⟨by decide, by decide⟩ rfl (kR15 hS202.1 ta0) (Nat.le_of_ble_eq_true rfl) rfl rfl (by decide) (by decide) (k_X12_bounded hS202.1 ta0) ?_
                    rintro v356 cn' K' N' I352 R353 L354 ⟨rfl, rfl, rfl, rfl, rfl, g355, p357, p358, w359, -⟩
                    have hS360 := hS202.tr g355 (by decide +kernel) (by decide +kernel)
                    have c361 : I352 a0 8 = v203 := (g355.cell ta0 (by decide +kernel)).trans c204
                    have c362 : I352 a1 4 = v205 := (g355.cell ta1 (by decide +kernel)).trans c206
                    have w363 : RdI a0 I0 I352 := w207.ew w359
                    have w364 : EwI a0 I200 I352 := (EwI.rf a0 I200).ew w359
                    have gd365 := Gd.go gd208 w359.stick
                    have b366 : 0 ≤ v356.toInt ∧ v356.toInt ≤ 3 := by omega
                    clear p357
                    obtain ⟨v367, c368⟩ : ∃ v, I352 a0 9 = v := ⟨_, rfl⟩
                    have b369 := iv15_9 hS360.1 ta0 c368
                    have gd370 : Gd (I352 a0 9) ((v343.toInt ≤ v356.toInt ∧ v356.toInt ≤ v350.toInt)) := p358
                    clear p358
                    refine tr_istore dX12_readTurner_186 (by decide) (by decide) ?_
                    refine tr_iload dX12_readTurner_188 hl198 ?_
                    refine tr_iload dX12_readTurner_190 rfl ?_
                    refine q_callSi hE (M' := mX12_has) (as := [_, _]) dX12_readTurner_192 lk12_329 inX12_has myX12_has ⟨by decide, by decide⟩ rfl (Nat.le_of_ble_eq_true rfl) rfl rfl (by decide) (by decide) (k_X12_has hS360.1 ) ?_
                    rintro v375 cn' K' N' I371 R372 L373 ⟨rfl, rfl, rfl, rfl, rfl, rfl, h376, -⟩
                    refine q_if_eq 203 dX12_readTurner_195 (by decide) (fun h377 => ?_) (fun h377 => ?_)
                    · skip
                      refine tr_aload_n dX12_readTurner_203 hl191 ?_
                      obtain ⟨v378, c379⟩ : ∃ v, I352 a0 13 = v := ⟨_, rfl⟩
                      refine q_callVv hE (M' := mX12_goesOn) (as := []) dX12_readTurner_204 lk12_142 inX12_goesOn seX12_goesOn myX12_goesOn (by decide) ⟨by decide, by decide⟩ rfl (kR15 hS360.1 ta0) (Nat.le_of_ble_eq_true rfl) rfl rfl (by decide) (by decide) (k_X12_goesOn hS360.1 ta0) ?_
                      rintro cn' K' N' I380 R381 L382 ⟨rfl, rfl, rfl, rfl, g383, p385, p386, p387, w388, -⟩
                      have hS389 := hS360.tr g383 (by decide +kernel) (by decide +kernel)
                      have c390 : I380 a1 4 = v205 := (g383.cell ta1 (by decide +kernel)).trans c362
                      have c391 : I380 a0 13 = v378 := (g383.cell ta0 (by decide +kernel)).trans c379
                      have w392 : RdI a0 I0 I380 := w363.rd w388
                      have w393 : RdI a0 I200 I380 := w364.rd w388
                      have gd394 := Gd.go gd365 w388.stick
                      have gd395 := Gd.go gd370 w388.stick
                      obtain ⟨v396, c397⟩ : ∃ v, I380 a0 9 = v := ⟨_, rfl⟩
                      have b398 := iv15_9 hS389.1 ta0 c397
                      rw [c368] at p385
                      rw [c397] at p385
                      rw [c368] at p386
                      rw [c397] at p386
                      obtain ⟨v399, c400⟩ : ∃ v, I380 a0 8 = v := ⟨_, rfl⟩
                      have b401 := iv15_8 hS389.1 ta0 c400
                      rw [c400] at p387
                      rw [c361] at p387
                      rw [c391] at p387
                      rw [c379] at p387
                      refine tr_iload dX12_readTurner_207 hl198 ?_
                      refine q_iconst dX12_readTurner_209 (by decide) ?_
                      intro v402 h403
                      refine tr_iload dX12_readTurner_210 rfl ?_
                      refine q_ishlE dX12_readTurner_212 (by omega) (by omega) ?_
                      intro v404 h405
                      refine q_ior dX12_readTurner_213 ?_
                      intro v406
                      refine tr_istore dX12_readTurner_214 (by decide) (by decide) ?_
                      refine tr_aload_n dX12_readTurner_216 hl191 ?_
                      refine q_bipush dX12_readTurner_217 (by decide +kernel) ?_
                      intro v407 h408
                      have z409 := w393.2.2.1
                      (try rw [c204] at z409)
                      (try rw [c400] at z409)
                      (try rw [c397] at z409)
                      have z410 := w393.2.1
                      (try rw [c204] at z410)
                      (try rw [c400] at z410)
                      refine q_callVi hE (M' := mX12_eatsSign) (as := [_]) dX12_readTurner_219 lk12_221 inX12_eatsSign seX12_eatsSign myX12_eatsSign (by decide) ⟨by decide, by decide⟩ rfl (kR15 hS389.1 ta0) (Nat.le_of_ble_eq_true rfl) rfl rfl (by decide) (by decide) (k_X12_eatsSign hS389.1 ta0) ?_
                      rintro v415 cn' K' N' I411 R412 L413 ⟨rfl, rfl, rfl, rfl, g414, h416, p417, p418, w419, -⟩
                      have hS420 := hS389.tr g414 (by decide +kernel) (by decide +kernel)
                      have c421 : I411 a1 4 = v205 := (g414.cell ta1 (by decide +kernel)).trans c390
                      have c422 : I411 a0 13 = v378 := (g414.cell ta0 (by decide +kernel)).trans c391
                      have w423 : RdI a0 I0 I411 := w392.ew w419
                      have w424 : RdI a0 I200 I411 := w393.ew w419
                      have gd425 := Gd.go gd394 w419.stick
                      have gd426 := Gd.go gd395 w419.stick
                      rw [c397] at p417
                      obtain ⟨v427, c428⟩ : ∃ v, I411 a0 8 = v := ⟨_, rfl⟩
                      have b429 := iv15_8 hS420.1 ta0 c428
                      rw [c428] at p418
                      rw [c400] at p418
                      refine tr_istore dX12_readTurner_222 (by decide) (by decide) ?_
                      refine tr_goto 159 dX12_readTurner_224 (by decide) ?_
                      exact ih215 _ v406 v415 I411 L413 v427 v205 hl191 hl192 hl193 hl194 hl195 hl196 hl197 rfl rfl hS420 c428 c421 w423 gd425 (by omega) (by omega) (by omega) (by omega)
                    · skip
                      refine tr_aload_n dX12_readTurner_198 hl191 ?_
                      refine q_iconst dX12_readTurner_199 (by decide) ?_
                      intro v430 h431
                      refine q_callVv hE (M' := mX12_flaw) (as := [_]) dX12_readTurner_200 lk12_145 inX12_flaw seX12_flaw myX12_flaw (by decide) ⟨by decide, by decide⟩ rfl (kR15 hS360.1 ta0) (Nat.le_of_ble_eq_true rfl) rfl rfl (by decide) (by decide) (k_X12_flaw hS360.1 ta0 (by omega)) ?_
                      rintro cn' K' N' I432 R433 L434 ⟨rfl, rfl, rfl, rfl, rfl, g435, p437, p438, w439, -⟩
                      have hS440 := hS360.tr g435 (by decide +kernel) (by decide +kernel)
                      have c441 : I432 a0 8 = v203 := (g435.cell ta0 (by decide +kernel)).trans c361
                      have c442 : I432 a1 4 = v205 := (g435.cell ta1 (by decide +kernel)).trans c362
                      have w443 : RdI a0 I0 I432 := w363.rd w439
                      have w444 : RdI a0 I200 I432 := w364.rd w439
                      have gd445 := Gd.go gd365 w439.stick
                      have gd446 := Gd.go gd370 w439.stick
                      obtain ⟨v447, c448⟩ : ∃ v, I432 a0 9 = v := ⟨_, rfl⟩
                      have b449 := iv15_9 hS440.1 ta0 c448
                      rw [c448] at p437
                      rw [c441] at p438
                      rw [c361] at p438
                      refine tr_aload_n dX12_readTurner_203 hl191 ?_
                      obtain ⟨v450, c451⟩ : ∃ v, I432 a0 13 = v := ⟨_, rfl⟩
                      refine q_callVv hE (M' := mX12_goesOn) (as := []) dX12_readTurner_204 lk12_142 inX12_goesOn seX12_goesOn myX12_goesOn (by decide) ⟨by decide, by decide⟩ rfl (kR15 hS440.1 ta0) (Nat.le_of_ble_eq_true rfl) rfl rfl (by decide) (by decide) (k_X12_goesOn hS440.1 ta0) ?_
                      rintro cn' K' N' I452 R453 L454 ⟨rfl, rfl, rfl, rfl, g455, p457, p458, p459, w460, -⟩
                      have hS461 := hS440.tr g455 (by decide +kernel) (by decide +kernel)
                      have c462 : I452 a1 4 = v205 := (g455.cell ta1 (by decide +kernel)).trans c442
                      have c463 : I452 a0 13 = v450 := (g455.cell ta0 (by decide +kernel)).trans c451
                      have w464 : RdI a0 I0 I452 := w443.rd w460
                      have w465 : RdI a0 I200 I452 := w444.rd w460
                      have gd466 := Gd.go gd445 w460.stick
                      have gd467 := Gd.go gd446 w460.stick
                      obtain ⟨v468, c469⟩ : ∃ v, I452 a0 9 = v := ⟨_, rfl⟩
                      have b470 := iv15_9 hS461.1 ta0 c469
                      rw [c448] at p457
                      rw [c469] at p457
                      rw [c448] at p458
                      rw [c469] at p458
                      obtain ⟨v471, c472⟩ : ∃ v, I452 a0 8 = v := ⟨_, rfl⟩
                      have b473 := iv15_8 hS461.1 ta0 c472
                      rw [c472] at p459
                      rw [c441] at p459
                      rw [c463] at p459
                      rw [c451] at p459
                      refine tr_iload dX12_readTurner_207 hl198 ?_
                      refine q_iconst dX12_readTurner_209 (by decide) ?_
                      intro v474 h475
                      refine tr_iload dX12_readTurner_210 rfl ?_
                      refine q_ishlE dX12_readTurner_212 (by omega) (by omega) ?_
                      intro v476 h477
                      refine q_ior dX12_readTurner_213 ?_
                      intro v478
                      refine tr_istore dX12_readTurner_214 (by decide) (by decide) ?_
                      refine tr_aload_n dX12_readTurner_216 hl191 ?_
                      refine q_bipush dX12_readTurner_217 (by decide +kernel) ?_
                      intro v479 h480
                      have z481 := w465.2.2.1
                      (try rw [c204] at z481)
                      (try rw [c472] at z481)
                      (try rw [c469] at z481)
                      have z482 := w465.2.1
                      (try rw [c204] at z482)
                      (try rw [c472] at z482)
                      refine q_callVi hE (M' := mX12_eatsSign) (as := [_]) dX12_readTurner_219 lk12_221 inX12_eatsSign seX12_eatsSign myX12_eatsSign (by decide) ⟨by decide, by decide⟩ rfl (kR15 hS461.1 ta0) (Nat.le_of_ble_eq_true rfl) rfl rfl (by decide) (by decide) (k_X12_eatsSign hS461.1 ta0) ?_
                      rintro v487 cn' K' N' I483 R484 L485 ⟨rfl, rfl, rfl, rfl, g486, h488, p489, p490, w491, -⟩
                      have hS492 := hS461.tr g486 (by decide +kernel) (by decide +kernel)
                      have c493 : I483 a1 4 = v205 := (g486.cell ta1 (by decide +kernel)).trans c462
                      have c494 : I483 a0 13 = v450 := (g486.cell ta0 (by decide +kernel)).trans c463
                      have w495 : RdI a0 I0 I483 := w464.ew w491
                      have w496 : RdI a0 I200 I483 := w465.ew w491
                      have gd497 := Gd.go gd466 w491.stick
                      have gd498 := Gd.go gd467 w491.stick
                      rw [c469] at p489
                      obtain ⟨v499, c500⟩ : ∃ v, I483 a0 8 = v := ⟨_, rfl⟩
                      have b501 := iv15_8 hS492.1 ta0 c500
                      rw [c500] at p490
                      rw [c472] at p490
                      refine tr_istore dX12_readTurner_222 (by decide) (by decide) ?_
                      refine tr_goto 159 dX12_readTurner_224 (by decide) ?_
                      exact ih215 _ v478 v487 I483 L485 v499 v205 hl191 hl192 hl193 hl194 hl195 hl196 hl197 rfl rfl hS492 c500 c493 w495 gd497 (by omega) (by omega) (by omega) (by omega)
            exact lp215 _ _ v185 v187 I175 L177 v209 v3 rfl rfl rfl rfl rfl rfl rfl rfl rfl hS181 c210 c182 w183 gd184 (by omega) (by omega) (by omega) (Nat.lt_succ_self _)
        · skip
          refine q_iconst dX12_readTurner_68 (by decide) ?_
          intro v502 h503
          refine tr_goto 73 dX12_readTurner_69 (by decide) ?_
          refine tr_istore_n dX12_readTurner_73 (by decide) (by decide) ?_
          refine tr_iload_n dX12_readTurner_74 rfl ?_
          refine q_iconst dX12_readTurner_75 (by decide) ?_
          intro v504 h505
          refine q_icmp_ne 84 dX12_readTurner_76 (by decide) (fun h506 => ?_) (fun h506 => ?_)
          · skip
            refine tr_aload_n dX12_readTurner_84 rfl ?_
            refine tr_ldcwS dX12_readTurner_85 ld12_324 ?_
            refine q_iconst dX12_readTurner_88 (by decide) ?_
            intro v507 h508
            refine tr_aload_n dX12_readTurner_89 rfl ?_
            refine tr_getR dX12_readTurner_90 fl12_188 (kR15 hS75.1 ta0) d2 ?_
            obtain ⟨v509, c510⟩ : ∃ v, I0 a1 0 = v := ⟨_, rfl⟩
            have b511 := iv14_0 hW0 ta1 c510
            refine q_getI dX12_readTurner_93 fl12_192 (kR14 hS75.1 ta1) ((hS75.cell ta1 (by decide +kernel)).trans c510) ?_
            refine q_iconst dX12_readTurner_96 (by decide) ?_
            intro v512 h513
            refine q_isubE dX12_readTurner_97 (by intros; omega) ?_
            intro v514 h515
            refine q_callVi hE (M' := mX12_readPart) (as := [_, _, _]) dX12_readTurner_98 lk12_249 inX12_readPart seX12_readPart myX12_readPart (by decide) ⟨by decide, by decide⟩ rfl (kR15 hS75.1 ta0) (Nat.le_of_ble_eq_true rfl) rfl rfl (by decide) (by decide) (k_X12_readPart hS75.1 ta0 (by decide)) ?_
            rintro v520 cn' K' N' I516 R517 L518 ⟨rfl, rfl, rfl, rfl, g519, p521, w522, -⟩
            have hS523 := hS75.tr g519 (by decide +kernel) (by decide +kernel)
            have c524 : I516 a1 4 = v3 := (g519.cell ta1 (by decide +kernel)).trans c76
            have w525 : RdI a0 I0 I516 := w77.rd w522
            have gd526 := Gd.go gd78 w522.stick
            have b527 : 0 ≤ v520.toInt ∧ v520.toInt ≤ 239 := by omega
            clear p521
            refine tr_istore dX12_readTurner_101 (by decide) (by decide) ?_
            refine tr_aload_n dX12_readTurner_103 rfl ?_
            refine tr_ldcwS dX12_readTurner_104 ld12_272 ?_
            refine tr_iload dX12_readTurner_107 rfl ?_
            refine q_iconst dX12_readTurner_109 (by decide) ?_
            intro v528 h529
            refine q_iaddE dX12_readTurner_110 (by intros; omega) ?_
            intro v530 h531
            refine tr_aload_n dX12_readTurner_111 rfl ?_
            refine tr_getR dX12_readTurner_112 fl12_188 (kR15 hS523.1 ta0) d2 ?_
            refine q_getI dX12_readTurner_115 fl12_192 (kR14 hS523.1 ta1) ((hS523.cell ta1 (by decide +kernel)).trans c510) ?_
            refine q_callVi hE (M' := mX12_readPart) (as := [_, _, _]) dX12_readTurner_118 lk12_249 inX12_readPart seX12_readPart myX12_readPart (by decide) ⟨by decide, by decide⟩ rfl (kR15 hS523.1 ta0) (Nat.le_of_ble_eq_true rfl) rfl rfl (by decide) (by decide) (k_X12_readPart hS523.1 ta0 (by decide)) ?_
            rintro v536 cn' K' N' I532 R533 L534 ⟨rfl, rfl, rfl, rfl, g535, p537, w538, -⟩
            have hS539 := hS523.tr g535 (by decide +kernel) (by decide +kernel)
            have c540 : I532 a1 4 = v3 := (g535.cell ta1 (by decide +kernel)).trans c524
            have w541 : RdI a0 I0 I532 := w525.rd w538
            have gd542 := Gd.go gd526 w538.stick
            have b543 : 1 ≤ v536.toInt ∧ v536.toInt ≤ 240 := by omega
            clear p537
            refine tr_istore dX12_readTurner_121 (by decide) (by decide) ?_
            refine tr_aload_n dX12_readTurner_123 rfl ?_
            refine tr_ldcwS dX12_readTurner_124 ld12_325 ?_
            refine q_iconst dX12_readTurner_127 (by decide) ?_
            intro v544 h545
            refine q_bipush dX12_readTurner_128 (by decide +kernel) ?_
            intro v546 h547
            refine q_callVi hE (M' := mX12_readPart) (as := [_, _, _]) dX12_readTurner_130 lk12_249 inX12_readPart seX12_readPart myX12_readPart (by decide) ⟨by decide, by decide⟩ rfl (kR15 hS539.1 ta0) (Nat.le_of_ble_eq_true rfl) rfl rfl (by decide) (by decide) (k_X12_readPart hS539.1 ta0 (by decide)) ?_
            rintro v552 cn' K' N' I548 R549 L550 ⟨rfl, rfl, rfl, rfl, g551, p553, w554, -⟩
            have hS555 := hS539.tr g551 (by decide +kernel) (by decide +kernel)
            have c556 : I548 a1 4 = v3 := (g551.cell ta1 (by decide +kernel)).trans c540
            have w557 : RdI a0 I0 I548 := w541.rd w554
            have gd558 := Gd.go gd542 w554.stick
            have b559 : 1 ≤ v552.toInt ∧ v552.toInt ≤ 8 := by omega
            clear p553
            refine tr_istore dX12_readTurner_133 (by decide) (by decide) ?_
            refine tr_aload_n dX12_readTurner_135 rfl ?_
            refine tr_ldcwS dX12_readTurner_136 ld12_327 ?_
            refine q_iconst dX12_readTurner_139 (by decide) ?_
            intro v560 h561
            refine q_bipush dX12_readTurner_140 (by decide +kernel) ?_
            intro v562 h563
            refine q_callVi hE (M' := mX12_readPart) (as := [_, _, _]) dX12_readTurner_142 lk12_249 inX12_readPart seX12_readPart myX12_readPart (by decide) ⟨by decide, by decide⟩ rfl (kR15 hS555.1 ta0) (Nat.le_of_ble_eq_true rfl) rfl rfl (by decide) (by decide) (k_X12_readPart hS555.1 ta0 (by decide)) ?_
            rintro v568 cn' K' N' I564 R565 L566 ⟨rfl, rfl, rfl, rfl, g567, p569, w570, -⟩
            have hS571 := hS555.tr g567 (by decide +kernel) (by decide +kernel)
            have c572 : I564 a1 4 = v3 := (g567.cell ta1 (by decide +kernel)).trans c556
            have w573 : RdI a0 I0 I564 := w557.rd w570
            have gd574 := Gd.go gd558 w570.stick
            have b575 : 1 ≤ v568.toInt ∧ v568.toInt ≤ 20 := by omega
            clear p569
            refine tr_istore dX12_readTurner_145 (by decide) (by decide) ?_
            refine tr_aload_n dX12_readTurner_147 rfl ?_
            refine tr_ldcS dX12_readTurner_148 ld12_253 ?_
            refine q_callVv hE (M' := mX12_needs) (as := [_]) dX12_readTurner_150 lk12_157 inX12_needs seX12_needs myX12_needs (by decide) ⟨by decide, by decide⟩ rfl (kR15 hS571.1 ta0) (Nat.le_of_ble_eq_true rfl) rfl rfl (by decide) (by decide) (k_X12_needs hS571.1 ta0 (by decide)) ?_
            rintro cn' K' N' I576 R577 L578 ⟨rfl, rfl, rfl, rfl, g579, w581, -⟩
            have hS582 := hS571.tr g579 (by decide +kernel) (by decide +kernel)
            have c583 : I576 a1 4 = v3 := (g579.cell ta1 (by decide +kernel)).trans c572
            have w584 : RdI a0 I0 I576 := w573.rd w581
            have gd585 := Gd.go gd574 w581.stick
            refine q_iconst dX12_readTurner_153 (by decide) ?_
            intro v586 h587
            refine tr_istore dX12_readTurner_154 (by decide) (by decide) ?_
            refine q_iconst dX12_readTurner_156 (by decide) ?_
            intro v588 h589
            refine tr_istore dX12_readTurner_157 (by decide) (by decide) ?_
            obtain ⟨v610, c611⟩ : ∃ v, I576 a0 8 = v := ⟨_, rfl⟩
            have b612 := iv15_8 hS582.1 ta0 c611
            have lp616 : ∀ (fu : Nat) (ls : Nat → Option Value) (v590 : Int32) (v591 : Int32) (I601 : cz_I) (L602 : cz_L) (v604 : Int32) (v606 : Int32), ls 0 = some (.ref a0) → ls 1 = some (.long y26) → ls 3 = some (.int v502) → ls 4 = some (.int v520) → ls 5 = some (.int v536) → ls 6 = some (.int v552) → ls 7 = some (.int v568) → ls 8 = some (.int v590) → ls 9 = some (.int v591) → St T cn K N 0 wi_X12_readTurner wr_X12_readTurner I0 R0 I601 R0 → I601 a0 8 = v604 → I601 a1 4 = v606 → RdI a0 I0 I601 → Gd (I601 a0 9) (v3.toInt ≠ v6.toInt) → 0 ≤ v591.toInt → v591.toInt ≤ 1 → v606.toInt = v3.toInt → (-v604.toInt + v591.toInt + 900).toNat < fu → Tr X mX12_readTurner 159 ls [] cn K N I601 R0 L602 0 0 := by
              intro fu
              induction fu with
              | zero => intros; rename_i hz; exact absurd hz (Nat.not_lt_zero _)
              | succ fu ih616 =>
                intro ls v590 v591 I601 L602 v604 v606 hl592 hl593 hl594 hl595 hl596 hl597 hl598 hl599 hl600 hS603 c605 c607 w608 gd609 g613 g614 g615 hm616
                have b618 := iv15_8 hS603.1 ta0 c605
                have b619 := iv14_4 hS603.1 ta1 c607
                refine tr_iload dX12_readTurner_159 hl600 ?_
                refine q_if_eq 227 dX12_readTurner_161 (by decide) (fun h620 => ?_) (fun h620 => ?_)
                · skip
                  refine tr_aload_n dX12_readTurner_227 hl592 ?_
                  obtain ⟨v621, c622⟩ : ∃ v, I601 a0 9 = v := ⟨_, rfl⟩
                  have b623 := iv15_9 hS603.1 ta0 c622
                  refine q_getI dX12_readTurner_228 fl12_99 (kR15 hS603.1 ta0) c622 ?_
                  refine q_iconst dX12_readTurner_231 (by decide) ?_
                  intro v624 h625
                  refine q_icmp_ne 236 dX12_readTurner_232 (by decide) (fun h626 => ?_) (fun h626 => ?_)
                  · skip
                    have p627 := gd609 (by rw [c622]; omega)
                    refine tr_aload_n dX12_readTurner_236 hl592 ?_
                    refine tr_getR dX12_readTurner_237 fl12_188 (kR15 hS603.1 ta0) d2 ?_
                    refine q_getI dX12_readTurner_240 fl12_315 (kR14 hS603.1 ta1) c607 ?_
                    refine tr_istore dX12_readTurner_243 (by decide) (by decide) ?_
                    refine tr_aload_n dX12_readTurner_245 hl592 ?_
                    refine tr_lload_n dX12_readTurner_246 hl593 ?_
                    refine q_iconst dX12_readTurner_247 (by decide) ?_
                    intro v628 h629
                    refine tr_iload dX12_readTurner_248 rfl ?_
                    obtain ⟨v631, c632⟩ : ∃ v, I601 a1 7 = v := ⟨_, rfl⟩
                    have b633 := iv14_7 hS603.1 ta1 c632
                    obtain ⟨v634, c635⟩ : ∃ v, I0 a1 3 = v := ⟨_, rfl⟩
                    have b636 := iv14_3 hW0 ta1 c635
                    have p630 := hS603.1.2.2.2.2.1 a0 ta0 _ d2
                    rw [c632, ((hS603.cell ta1 (by decide +kernel)).trans c635), c607] at p630
                    refine q_callVv hE (M' := mX12_names) (as := [_, _, _]) dX12_readTurner_250 lk12_293 inX12_names seX12_names myX12_names (by decide) ⟨by decide, by decide⟩ rfl (kR15 hS603.1 ta0) (Nat.le_of_ble_eq_true rfl) rfl rfl (by decide) (by decide) (k_X12_names hS603.1 ta0 (fun q0 z0 => by obtain rfl := Option.some.inj ((d2).symm.trans z0); (try rw [c632]); (try omega)) ⟨_, d2⟩) ?_
                    rintro cn' K' N' I637 R638 L639 ⟨rfl, rfl, rfl, rfl, g640, -⟩
                    have hS642 := hS603.tr g640 (by decide +kernel) (by decide +kernel)
                    have c643 : I637 a0 8 = v604 := (g640.cell ta0 (by decide +kernel)).trans c605
                    have c644 : I637 a1 4 = v606 := (g640.cell ta1 (by decide +kernel)).trans c607
                    have c645 : I637 a0 9 = v621 := (g640.cell ta0 (by decide +kernel)).trans c622
                    have w646 : RdI a0 I0 I637 := w608.keep (g640.cell ta0 (by decide +kernel)) (g640.cell ta0 (by decide +kernel)) (g640.cell ta0 (by decide +kernel)) (g640.cell ta0 (by decide +kernel))
                    have w647 : EwI a0 I601 I637 := (EwI.rf a0 I601).keep (g640.cell ta0 (by decide +kernel)) (g640.cell ta0 (by decide +kernel)) (g640.cell ta0 (by decide +kernel)) (g640.cell ta0 (by decide +kernel))
                    have gd648 := Gd.keep gd609 (g640.cell ta0 (by decide +kernel))
                    refine tr_aload_n dX12_readTurner_253 hl592 ?_
                    refine tr_getR dX12_readTurner_254 fl12_188 (kR15 hS642.1 ta0) d2 ?_
                    obtain ⟨a649, d650, ta649⟩ := rf14_20 hW0 ta1
                    refine tr_getR dX12_readTurner_257 fl12_333 (kR14 hS642.1 ta1) d650 ?_
                    refine tr_iload dX12_readTurner_260 rfl ?_
                    refine tr_iload_n dX12_readTurner_262 hl594 ?_
                    refine q_iast dX12_readTurner_263 (kR63 hS642.1 ta649) (ti_in (nR63 hS642.1 ta649) (by omega) (by omega)) hS642 ta649 (iokF rfl) rfl (by rfl) ?_
                    intro I651 hS652 e654 f653
                    have c655 : I651 a0 8 = v604 := (f653 _ _ (fun q => by have z := ta0; rw [q.1, ta649] at z; exact absurd z (by decide))).trans c643
                    have c656 : I651 a1 4 = v606 := (f653 _ _ (fun q => by have z := ta1; rw [q.1, ta649] at z; exact absurd z (by decide))).trans c644
                    have c657 : I651 a0 9 = v621 := (f653 _ _ (fun q => by have z := ta0; rw [q.1, ta649] at z; exact absurd z (by decide))).trans c645
                    have w658 : RdI a0 I0 I651 := w646.keep (f653 _ _ (fun q => by have z := ta0; rw [q.1, ta649] at z; exact absurd z (by decide))) (f653 _ _ (fun q => by have z := ta0; rw [q.1, ta649] at z; exact absurd z (by decide))) (f653 _ _ (fun q => by have z := ta0; rw [q.1, ta649] at z; exact absurd z (by decide))) (f653 _ _ (fun q => by have z := ta0; rw [q.1, ta649] at z; exact absurd z (by decide)))
                    have w659 : EwI a0 I601 I651 := w647.keep (f653 _ _ (fun q => by have z := ta0; rw [q.1, ta649] at z; exact absurd z (by decide))) (f653 _ _ (fun q => by have z := ta0; rw [q.1, ta649] at z; exact absurd z (by decide))) (f653 _ _ (fun q => by have z := ta0; rw [q.1, ta649] at z; exact absurd z (by decide))) (f653 _ _ (fun q => by have z := ta0; rw [q.1, ta649] at z; exact absurd z (by decide)))
                    have gd660 := Gd.keep gd648 (f653 _ _ (fun q => by have z := ta0; rw [q.1, ta649] at z; exact absurd z (by decide)))
                    refine tr_aload_n dX12_readTurner_264 hl592 ?_
                    refine tr_getR dX12_readTurner_265 fl12_188 (kR15 hS652.1 ta0) d2 ?_
                    obtain ⟨a661, d662, ta661⟩ := rf14_21 hW0 ta1
                    refine tr_getR dX12_readTurner_268 fl12_336 (kR14 hS652.1 ta1) d662 ?_
                    refine tr_iload dX12_readTurner_271 rfl ?_
                    refine tr_iload dX12_readTurner_273 hl595 ?_
                    refine q_iast dX12_readTurner_275 (kR64 hS652.1 ta661) (ti_in (nR64 hS652.1 ta661) (by omega) (by omega)) hS652 ta661 (iokF rfl) rfl (by rfl) ?_
                    intro I663 hS664 e666 f665
                    have c667 : I663 a0 8 = v604 := (f665 _ _ (fun q => by have z := ta0; rw [q.1, ta661] at z; exact absurd z (by decide))).trans c655
                    have c668 : I663 a1 4 = v606 := (f665 _ _ (fun q => by have z := ta1; rw [q.1, ta661] at z; exact absurd z (by decide))).trans c656
                    have c669 : I663 a0 9 = v621 := (f665 _ _ (fun q => by have z := ta0; rw [q.1, ta661] at z; exact absurd z (by decide))).trans c657
                    have w670 : RdI a0 I0 I663 := w658.keep (f665 _ _ (fun q => by have z := ta0; rw [q.1, ta661] at z; exact absurd z (by decide))) (f665 _ _ (fun q => by have z := ta0; rw [q.1, ta661] at z; exact absurd z (by decide))) (f665 _ _ (fun q => by have z := ta0; rw [q.1, ta661] at z; exact absurd z (by decide))) (f665 _ _ (fun q => by have z := ta0; rw [q.1, ta661] at z; exact absurd z (by decide)))
                    have w671 : EwI a0 I601 I663 := w659.keep (f665 _ _ (fun q => by have z := ta0; rw [q.1, ta661] at z; exact absurd z (by decide))) (f665 _ _ (fun q => by have z := ta0; rw [q.1, ta661] at z; exact absurd z (by decide))) (f665 _ _ (fun q => by have z := ta0; rw [q.1, ta661] at z; exact absurd z (by decide))) (f665 _ _ (fun q => by have z := ta0; rw [q.1, ta661] at z; exact absurd z (by decide)))
                    have gd672 := Gd.keep gd660 (f665 _ _ (fun q => by have z := ta0; rw [q.1, ta661] at z; exact absurd z (by decide)))
                    refine tr_aload_n dX12_readTurner_276 hl592 ?_
                    refine tr_getR dX12_readTurner_277 fl12_188 (kR15 hS664.1 ta0) d2 ?_
                    obtain ⟨a673, d674, ta673⟩ := rf14_22 hW0 ta1
                    refine tr_getR dX12_readTurner_280 fl12_339 (kR14 hS664.1 ta1) d674 ?_
                    refine tr_iload dX12_readTurner_283 rfl ?_
                    refine tr_iload dX12_readTurner_285 hl596 ?_
                    refine q_iast dX12_readTurner_287 (kR65 hS664.1 ta673) (ti_in (nR65 hS664.1 ta673) (by omega) (by omega)) hS664 ta673 (iokF rfl) rfl (by rfl) ?_
                    intro I675 hS676 e678 f677
                    have c679 : I675 a0 8 = v604 := (f677 _ _ (fun q => by have z := ta0; rw [q.1, ta673] at z; exact absurd z (by decide))).trans c667
                    have c680 : I675 a1 4 = v606 := (f677 _ _ (fun q => by have z := ta1; rw [q.1, ta673] at z; exact absurd z (by decide))).trans c668
                    have c681 : I675 a0 9 = v621 := (f677 _ _ (fun q => by have z := ta0; rw [q.1, ta673] at z; exact absurd z (by decide))).trans c669
                    have w682 : RdI a0 I0 I675 := w670.keep (f677 _ _ (fun q => by have z := ta0; rw [q.1, ta673] at z; exact absurd z (by decide))) (f677 _ _ (fun q => by have z := ta0; rw [q.1, ta673] at z; exact absurd z (by decide))) (f677 _ _ (fun q => by have z := ta0; rw [q.1, ta673] at z; exact absurd z (by decide))) (f677 _ _ (fun q => by have z := ta0; rw [q.1, ta673] at z; exact absurd z (by decide)))
                    have w683 : EwI a0 I601 I675 := w671.keep (f677 _ _ (fun q => by have z := ta0; rw [q.1, ta673] at z; exact absurd z (by decide))) (f677 _ _ (fun q => by have z := ta0; rw [q.1, ta673] at z; exact absurd z (by decide))) (f677 _ _ (fun q => by have z := ta0; rw [q.1, ta673] at z; exact absurd z (by decide))) (f677 _ _ (fun q => by have z := ta0; rw [q.1, ta673] at z; exact absurd z (by decide)))
                    have gd684 := Gd.keep gd672 (f677 _ _ (fun q => by have z := ta0; rw [q.1, ta673] at z; exact absurd z (by decide)))
                    refine tr_aload_n dX12_readTurner_288 hl592 ?_
                    refine tr_getR dX12_readTurner_289 fl12_188 (kR15 hS676.1 ta0) d2 ?_
                    obtain ⟨a685, d686, ta685⟩ := rf14_23 hW0 ta1
                    refine tr_getR dX12_readTurner_292 fl12_342 (kR14 hS676.1 ta1) d686 ?_
                    refine tr_iload dX12_readTurner_295 rfl ?_
                    refine tr_iload dX12_readTurner_297 hl597 ?_
                    refine q_iast dX12_readTurner_299 (kR66 hS676.1 ta685) (ti_in (nR66 hS676.1 ta685) (by omega) (by omega)) hS676 ta685 (iokF rfl) rfl (by rfl) ?_
                    intro I687 hS688 e690 f689
                    have c691 : I687 a0 8 = v604 := (f689 _ _ (fun q => by have z := ta0; rw [q.1, ta685] at z; exact absurd z (by decide))).trans c679
                    have c692 : I687 a1 4 = v606 := (f689 _ _ (fun q => by have z := ta1; rw [q.1, ta685] at z; exact absurd z (by decide))).trans c680
                    have c693 : I687 a0 9 = v621 := (f689 _ _ (fun q => by have z := ta0; rw [q.1, ta685] at z; exact absurd z (by decide))).trans c681
                    have w694 : RdI a0 I0 I687 := w682.keep (f689 _ _ (fun q => by have z := ta0; rw [q.1, ta685] at z; exact absurd z (by decide))) (f689 _ _ (fun q => by have z := ta0; rw [q.1, ta685] at z; exact absurd z (by decide))) (f689 _ _ (fun q => by have z := ta0; rw [q.1, ta685] at z; exact absurd z (by decide))) (f689 _ _ (fun q => by have z := ta0; rw [q.1, ta685] at z; exact absurd z (by decide)))
                    have w695 : EwI a0 I601 I687 := w683.keep (f689 _ _ (fun q => by have z := ta0; rw [q.1, ta685] at z; exact absurd z (by decide))) (f689 _ _ (fun q => by have z := ta0; rw [q.1, ta685] at z; exact absurd z (by decide))) (f689 _ _ (fun q => by have z := ta0; rw [q.1, ta685] at z; exact absurd z (by decide))) (f689 _ _ (fun q => by have z := ta0; rw [q.1, ta685] at z; exact absurd z (by decide)))
                    have gd696 := Gd.keep gd684 (f689 _ _ (fun q => by have z := ta0; rw [q.1, ta685] at z; exact absurd z (by decide)))
                    refine tr_aload_n dX12_readTurner_300 hl592 ?_
                    refine tr_getR dX12_readTurner_301 fl12_188 (kR15 hS688.1 ta0) d2 ?_
                    obtain ⟨a697, d698, ta697⟩ := rf14_24 hW0 ta1
                    refine tr_getR dX12_readTurner_304 fl12_344 (kR14 hS688.1 ta1) d698 ?_
                    refine tr_iload dX12_readTurner_307 rfl ?_
                    refine tr_iload dX12_readTurner_309 hl598 ?_
                    refine q_iast dX12_readTurner_311 (kR67 hS688.1 ta697) (ti_in (nR67 hS688.1 ta697) (by omega) (by omega)) hS688 ta697 (iokF rfl) rfl (by rfl) ?_
                    intro I699 hS700 e702 f701
                    have c703 : I699 a0 8 = v604 := (f701 _ _ (fun q => by have z := ta0; rw [q.1, ta697] at z; exact absurd z (by decide))).trans c691
                    have c704 : I699 a1 4 = v606 := (f701 _ _ (fun q => by have z := ta1; rw [q.1, ta697] at z; exact absurd z (by decide))).trans c692
                    have c705 : I699 a0 9 = v621 := (f701 _ _ (fun q => by have z := ta0; rw [q.1, ta697] at z; exact absurd z (by decide))).trans c693
                    have w706 : RdI a0 I0 I699 := w694.keep (f701 _ _ (fun q => by have z := ta0; rw [q.1, ta697] at z; exact absurd z (by decide))) (f701 _ _ (fun q => by have z := ta0; rw [q.1, ta697] at z; exact absurd z (by decide))) (f701 _ _ (fun q => by have z := ta0; rw [q.1, ta697] at z; exact absurd z (by decide))) (f701 _ _ (fun q => by have z := ta0; rw [q.1, ta697] at z; exact absurd z (by decide)))
                    have w707 : EwI a0 I601 I699 := w695.keep (f701 _ _ (fun q => by have z := ta0; rw [q.1, ta697] at z; exact absurd z (by decide))) (f701 _ _ (fun q => by have z := ta0; rw [q.1, ta697] at z; exact absurd z (by decide))) (f701 _ _ (fun q => by have z := ta0; rw [q.1, ta697] at z; exact absurd z (by decide))) (f701 _ _ (fun q => by have z := ta0; rw [q.1, ta697] at z; exact absurd z (by decide)))
                    have gd708 := Gd.keep gd696 (f701 _ _ (fun q => by have z := ta0; rw [q.1, ta697] at z; exact absurd z (by decide)))
                    refine tr_aload_n dX12_readTurner_312 hl592 ?_
                    refine tr_getR dX12_readTurner_313 fl12_188 (kR15 hS700.1 ta0) d2 ?_
                    obtain ⟨a709, d710, ta709⟩ := rf14_25 hW0 ta1
                    refine tr_getR dX12_readTurner_316 fl12_346 (kR14 hS700.1 ta1) d710 ?_
                    refine tr_iload dX12_readTurner_319 rfl ?_
                    refine tr_iload dX12_readTurner_321 hl599 ?_
                    refine q_iast dX12_readTurner_323 (kR68 hS700.1 ta709) (ti_in (nR68 hS700.1 ta709) (by omega) (by omega)) hS700 ta709 (iokF rfl) rfl (by rfl) ?_
                    intro I711 hS712 e714 f713
                    have c715 : I711 a0 8 = v604 := (f713 _ _ (fun q => by have z := ta0; rw [q.1, ta709] at z; exact absurd z (by decide))).trans c703
                    have c716 : I711 a1 4 = v606 := (f713 _ _ (fun q => by have z := ta1; rw [q.1, ta709] at z; exact absurd z (by decide))).trans c704
                    have c717 : I711 a0 9 = v621 := (f713 _ _ (fun q => by have z := ta0; rw [q.1, ta709] at z; exact absurd z (by decide))).trans c705
                    have w718 : RdI a0 I0 I711 := w706.keep (f713 _ _ (fun q => by have z := ta0; rw [q.1, ta709] at z; exact absurd z (by decide))) (f713 _ _ (fun q => by have z := ta0; rw [q.1, ta709] at z; exact absurd z (by decide))) (f713 _ _ (fun q => by have z := ta0; rw [q.1, ta709] at z; exact absurd z (by decide))) (f713 _ _ (fun q => by have z := ta0; rw [q.1, ta709] at z; exact absurd z (by decide)))
                    have w719 : EwI a0 I601 I711 := w707.keep (f713 _ _ (fun q => by have z := ta0; rw [q.1, ta709] at z; exact absurd z (by decide))) (f713 _ _ (fun q => by have z := ta0; rw [q.1, ta709] at z; exact absurd z (by decide))) (f713 _ _ (fun q => by have z := ta0; rw [q.1, ta709] at z; exact absurd z (by decide))) (f713 _ _ (fun q => by have z := ta0; rw [q.1, ta709] at z; exact absurd z (by decide)))
                    have gd720 := Gd.keep gd708 (f713 _ _ (fun q => by have z := ta0; rw [q.1, ta709] at z; exact absurd z (by decide)))
                    refine tr_aload_n dX12_readTurner_324 hl592 ?_
                    refine tr_getR dX12_readTurner_325 fl12_188 (kR15 hS712.1 ta0) d2 ?_
                    refine tr_dup dX12_readTurner_328 rfl ?_
                    refine q_getI dX12_readTurner_329 fl12_315 (kR14 hS712.1 ta1) c716 ?_
                    refine q_iconst dX12_readTurner_332 (by decide) ?_
                    intro v721 h722
                    refine q_iaddE dX12_readTurner_333 (by intros; omega) ?_
                    intro v723 h724
                    refine q_putX dX12_readTurner_334 fl12_315 (kR14 hS712.1 ta1) (Or.inl rfl) hS712 ta1 (by decide +kernel) (hS712.1.putN (d' := 0) ta0 d2 (Or.inr (Or.inr rfl)) (by rw [c716]; omega) (by decide) (by show (0 : Int) ≤ v723.toInt ∧ v723.toInt ≤ (5 : Int); omega)) ?_
                    intro I725 hS726 e727 f728
                    have c729 : I725 a0 8 = v604 := (f728 _ _ (fun q => absurd q.2 (by decide))).trans c715
                    have c730 : I725 a0 9 = v621 := (f728 _ _ (fun q => absurd q.2 (by decide))).trans c717
                    have w731 : RdI a0 I0 I725 := w718.keep (f728 _ _ (fun q => absurd q.2 (by decide))) (f728 _ _ (fun q => absurd q.2 (by decide))) (f728 _ _ (fun q => absurd q.2 (by decide))) (f728 _ _ (fun q => absurd q.2 (by decide)))
                    have w732 : EwI a0 I601 I725 := w719.keep (f728 _ _ (fun q => absurd q.2 (by decide))) (f728 _ _ (fun q => absurd q.2 (by decide))) (f728 _ _ (fun q => absurd q.2 (by decide))) (f728 _ _ (fun q => absurd q.2 (by decide)))
                    have gd733 := Gd.keep gd720 (f728 _ _ (fun q => absurd q.2 (by decide)))
                    exact tr_vret hZ dX12_readTurner_337 rfl (by decide) (by decide) ⟨rfl, rfl, rfl, rfl, rfl, hS726, w731, trivial⟩
                  · skip
                    exact tr_vret hZ dX12_readTurner_235 rfl (by decide) (by decide) ⟨rfl, rfl, rfl, rfl, rfl, hS603, w608, trivial⟩
                · skip
                  refine tr_aload_n dX12_readTurner_164 hl592 ?_
                  obtain ⟨v734, c735⟩ : ∃ v, I601 a0 9 = v := ⟨_, rfl⟩
                  have b736 := iv15_9 hS603.1 ta0 c735
                  refine q_getI dX12_readTurner_165 fl12_99 (kR15 hS603.1 ta0) c735 ?_
                  refine q_iconst dX12_readTurner_168 (by decide) ?_
                  intro v737 h738
                  refine q_icmp_eq 227 dX12_readTurner_169 (by decide) (fun h739 => ?_) (fun h739 => ?_)
                  · skip
                    refine tr_aload_n dX12_readTurner_227 hl592 ?_
                    refine q_getI dX12_readTurner_228 fl12_99 (kR15 hS603.1 ta0) c735 ?_
                    refine q_iconst dX12_readTurner_231 (by decide) ?_
                    intro v740 h741
                    refine q_icmp_ne 236 dX12_readTurner_232 (by decide) (fun h742 => ?_) (fun h742 => ?_)
                    · skip
                      exfalso; omega
                    · skip
                      exact tr_vret hZ dX12_readTurner_235 rfl (by decide) (by decide) ⟨rfl, rfl, rfl, rfl, rfl, hS603, w608, trivial⟩
                  · skip
                    have p743 := gd609 (by rw [c735]; omega)
                    refine tr_aload_n dX12_readTurner_172 hl592 ?_
                    refine q_iconst dX12_readTurner_173 (by decide) ?_
                    intro v744 h745
                    refine tr_aload_n dX12_readTurner_174 hl592 ?_
                    refine tr_getR dX12_readTurner_175 fl12_188 (kR15 hS603.1 ta0) d2 ?_
                    obtain ⟨v746, c747⟩ : ∃ v, I0 a1 1 = v := ⟨_, rfl⟩
                    have b748 := iv14_1 hW0 ta1 c747
                    refine q_getI dX12_readTurner_178 fl12_263 (kR14 hS603.1 ta1) ((hS603.cell ta1 (by decide +kernel)).trans c747) ?_
                    refine q_iconst dX12_readTurner_181 (by decide) ?_
                    intro v749 h750
                    refine q_isubE dX12_readTurner_182 (by intros; omega) ?_
                    intro v751 h752
                    refine q_callVi hE (M' := mX12_bounded) (as := [_, _]) dX12_readTurner_183 lk12_153 inX12_bounded seX12_bounded myX12_bounded (by decide) ⟨by decide, by decide⟩ rfl (kR15 hS603.1 ta0) (Nat.le_of_ble_eq_true rfl) rfl rfl (by decide) (by decide) (k_X12_bounded hS603.1 ta0) ?_
                    rintro v757 cn' K' N' I753 R754 L755 ⟨rfl, rfl, rfl, rfl, rfl, g756, p758, p759, w760, -⟩
                    have hS761 := hS603.tr g756 (by decide +kernel) (by decide +kernel)
                    have c762 : I753 a0 8 = v604 := (g756.cell ta0 (by decide +kernel)).trans c605
                    have c763 : I753 a1 4 = v606 := (g756.cell ta1 (by decide +kernel)).trans c607
                    have w764 : RdI a0 I0 I753 := w608.ew w760
                    have w765 : EwI a0 I601 I753 := (EwI.rf a0 I601).ew w760
                    have gd766 := Gd.go gd609 w760.stick
                    have b767 : 0 ≤ v757.toInt ∧ v757.toInt ≤ 3 := by omega
                    clear p758
                    obtain ⟨v768, c769⟩ : ∃ v, I753 a0 9 = v := ⟨_, rfl⟩
                    have b770 := iv15_9 hS761.1 ta0 c769
                    have gd771 : Gd (I753 a0 9) ((v744.toInt ≤ v757.toInt ∧ v757.toInt ≤ v751.toInt)) := p759
                    clear p759
                    refine tr_istore dX12_readTurner_186 (by decide) (by decide) ?_
                    refine tr_iload dX12_readTurner_188 hl599 ?_
                    refine tr_iload dX12_readTurner_190 rfl ?_
                    refine q_callSi hE (M' := mX12_has) (as := [_, _]) dX12_readTurner_192 lk12_329 inX12_has myX12_has ⟨by decide, by decide⟩ rfl (Nat.le_of_ble_eq_true rfl) rfl rfl (by decide) (by decide) (k_X12_has hS761.1 ) ?_
                    rintro v776 cn' K' N' I772 R773 L774 ⟨rfl, rfl, rfl, rfl, rfl, rfl, h777, -⟩
                    refine q_if_eq 203 dX12_readTurner_195 (by decide) (fun h778 => ?_) (fun h778 => ?_)
                    · skip
                      refine tr_aload_n dX12_readTurner_203 hl592 ?_
                      obtain ⟨v779, c780⟩ : ∃ v, I753 a0 13 = v := ⟨_, rfl⟩
                      refine q_callVv hE (M' := mX12_goesOn) (as := []) dX12_readTurner_204 lk12_142 inX12_goesOn seX12_goesOn myX12_goesOn (by decide) ⟨by decide, by decide⟩ rfl (kR15 hS761.1 ta0) (Nat.le_of_ble_eq_true rfl) rfl rfl (by decide) (by decide) (k_X12_goesOn hS761.1 ta0) ?_
                      rintro cn' K' N' I781 R782 L783 ⟨rfl, rfl, rfl, rfl, g784, p786, p787, p788, w789, -⟩
                      have hS790 := hS761.tr g784 (by decide +kernel) (by decide +kernel)
                      have c791 : I781 a1 4 = v606 := (g784.cell ta1 (by decide +kernel)).trans c763
                      have c792 : I781 a0 13 = v779 := (g784.cell ta0 (by decide +kernel)).trans c780
                      have w793 : RdI a0 I0 I781 := w764.rd w789
                      have w794 : RdI a0 I601 I781 := w765.rd w789
                      have gd795 := Gd.go gd766 w789.stick
                      have gd796 := Gd.go gd771 w789.stick
                      obtain ⟨v797, c798⟩ : ∃ v, I781 a0 9 = v := ⟨_, rfl⟩
                      have b799 := iv15_9 hS790.1 ta0 c798
                      rw [c769] at p786
                      rw [c798] at p786
                      rw [c769] at p787
                      rw [c798] at p787
                      obtain ⟨v800, c801⟩ : ∃ v, I781 a0 8 = v := ⟨_, rfl⟩
                      have b802 := iv15_8 hS790.1 ta0 c801
                      rw [c801] at p788
                      rw [c762] at p788
                      rw [c792] at p788
                      rw [c780] at p788
                      refine tr_iload dX12_readTurner_207 hl599 ?_
                      refine q_iconst dX12_readTurner_209 (by decide) ?_
                      intro v803 h804
                      refine tr_iload dX12_readTurner_210 rfl ?_
                      refine q_ishlE dX12_readTurner_212 (by omega) (by omega) ?_
                      intro v805 h806
                      refine q_ior dX12_readTurner_213 ?_
                      intro v807
                      refine tr_istore dX12_readTurner_214 (by decide) (by decide) ?_
                      refine tr_aload_n dX12_readTurner_216 hl592 ?_
                      refine q_bipush dX12_readTurner_217 (by decide +kernel) ?_
                      intro v808 h809
                      have z810 := w794.2.2.1
                      (try rw [c605] at z810)
                      (try rw [c801] at z810)
                      (try rw [c798] at z810)
                      have z811 := w794.2.1
                      (try rw [c605] at z811)
                      (try rw [c801] at z811)
                      refine q_callVi hE (M' := mX12_eatsSign) (as := [_]) dX12_readTurner_219 lk12_221 inX12_eatsSign seX12_eatsSign myX12_eatsSign (by decide) ⟨by decide, by decide⟩ rfl (kR15 hS790.1 ta0) (Nat.le_of_ble_eq_true rfl) rfl rfl (by decide) (by decide) (k_X12_eatsSign hS790.1 ta0) ?_
                      rintro v816 cn' K' N' I812 R813 L814 ⟨rfl, rfl, rfl, rfl, g815, h817, p818, p819, w820, -⟩
                      have hS821 := hS790.tr g815 (by decide +kernel) (by decide +kernel)
                      have c822 : I812 a1 4 = v606 := (g815.cell ta1 (by decide +kernel)).trans c791
                      have c823 : I812 a0 13 = v779 := (g815.cell ta0 (by decide +kernel)).trans c792
                      have w824 : RdI a0 I0 I812 := w793.ew w820
                      have w825 : RdI a0 I601 I812 := w794.ew w820
                      have gd826 := Gd.go gd795 w820.stick
                      have gd827 := Gd.go gd796 w820.stick
                      rw [c798] at p818
                      obtain ⟨v828, c829⟩ : ∃ v, I812 a0 8 = v := ⟨_, rfl⟩
                      have b830 := iv15_8 hS821.1 ta0 c829
                      rw [c829] at p819
                      rw [c801] at p819
                      refine tr_istore dX12_readTurner_222 (by decide) (by decide) ?_
                      refine tr_goto 159 dX12_readTurner_224 (by decide) ?_
                      exact ih616 _ v807 v816 I812 L814 v828 v606 hl592 hl593 hl594 hl595 hl596 hl597 hl598 rfl rfl hS821 c829 c822 w824 gd826 (by omega) (by omega) (by omega) (by omega)
                    · skip
                      refine tr_aload_n dX12_readTurner_198 hl592 ?_
                      refine q_iconst dX12_readTurner_199 (by decide) ?_
                      intro v831 h832
                      refine q_callVv hE (M' := mX12_flaw) (as := [_]) dX12_readTurner_200 lk12_145 inX12_flaw seX12_flaw myX12_flaw (by decide) ⟨by decide, by decide⟩ rfl (kR15 hS761.1 ta0) (Nat.le_of_ble_eq_true rfl) rfl rfl (by decide) (by decide) (k_X12_flaw hS761.1 ta0 (by omega)) ?_
                      rintro cn' K' N' I833 R834 L835 ⟨rfl, rfl, rfl, rfl, rfl, g836, p838, p839, w840, -⟩
                      have hS841 := hS761.tr g836 (by decide +kernel) (by decide +kernel)
                      have c842 : I833 a0 8 = v604 := (g836.cell ta0 (by decide +kernel)).trans c762
                      have c843 : I833 a1 4 = v606 := (g836.cell ta1 (by decide +kernel)).trans c763
                      have w844 : RdI a0 I0 I833 := w764.rd w840
                      have w845 : RdI a0 I601 I833 := w765.rd w840
                      have gd846 := Gd.go gd766 w840.stick
                      have gd847 := Gd.go gd771 w840.stick
                      obtain ⟨v848, c849⟩ : ∃ v, I833 a0 9 = v := ⟨_, rfl⟩
                      have b850 := iv15_9 hS841.1 ta0 c849
                      rw [c849] at p838
                      rw [c842] at p839
                      rw [c762] at p839
                      refine tr_aload_n dX12_readTurner_203 hl592 ?_
                      obtain ⟨v851, c852⟩ : ∃ v, I833 a0 13 = v := ⟨_, rfl⟩
                      refine q_callVv hE (M' := mX12_goesOn) (as := []) dX12_readTurner_204 lk12_142 inX12_goesOn seX12_goesOn myX12_goesOn (by decide) ⟨by decide, by decide⟩ rfl (kR15 hS841.1 ta0) (Nat.le_of_ble_eq_true rfl) rfl rfl (by decide) (by decide) (k_X12_goesOn hS841.1 ta0) ?_
                      rintro cn' K' N' I853 R854 L855 ⟨rfl, rfl, rfl, rfl, g856, p858, p859, p860, w861, -⟩
                      have hS862 := hS841.tr g856 (by decide +kernel) (by decide +kernel)
                      have c863 : I853 a1 4 = v606 := (g856.cell ta1 (by decide +kernel)).trans c843
                      have c864 : I853 a0 13 = v851 := (g856.cell ta0 (by decide +kernel)).trans c852
                      have w865 : RdI a0 I0 I853 := w844.rd w861
                      have w866 : RdI a0 I601 I853 := w845.rd w861
                      have gd867 := Gd.go gd846 w861.stick
                      have gd868 := Gd.go gd847 w861.stick
                      obtain ⟨v869, c870⟩ : ∃ v, I853 a0 9 = v := ⟨_, rfl⟩
                      have b871 := iv15_9 hS862.1 ta0 c870
                      rw [c849] at p858
                      rw [c870] at p858
                      rw [c849] at p859
                      rw [c870] at p859
                      obtain ⟨v872, c873⟩ : ∃ v, I853 a0 8 = v := ⟨_, rfl⟩
                      have b874 := iv15_8 hS862.1 ta0 c873
                      rw [c873] at p860
                      rw [c842] at p860
                      rw [c864] at p860
                      rw [c852] at p860
                      refine tr_iload dX12_readTurner_207 hl599 ?_
                      refine q_iconst dX12_readTurner_209 (by decide) ?_
                      intro v875 h876
                      refine tr_iload dX12_readTurner_210 rfl ?_
                      refine q_ishlE dX12_readTurner_212 (by omega) (by omega) ?_
                      intro v877 h878
                      refine q_ior dX12_readTurner_213 ?_
                      intro v879
                      refine tr_istore dX12_readTurner_214 (by decide) (by decide) ?_
                      refine tr_aload_n dX12_readTurner_216 hl592 ?_
                      refine q_bipush dX12_readTurner_217 (by decide +kernel) ?_
                      intro v880 h881
                      have z882 := w866.2.2.1
                      (try rw [c605] at z882)
                      (try rw [c873] at z882)
                      (try rw [c870] at z882)
                      have z883 := w866.2.1
                      (try rw [c605] at z883)
                      (try rw [c873] at z883)
                      refine q_callVi hE (M' := mX12_eatsSign) (as := [_]) dX12_readTurner_219 lk12_221 inX12_eatsSign seX12_eatsSign myX12_eatsSign (by decide) ⟨by decide, by decide⟩ rfl (kR15 hS862.1 ta0) (Nat.le_of_ble_eq_true rfl) rfl rfl (by decide) (by decide) (k_X12_eatsSign hS862.1 ta0) ?_
                      rintro v888 cn' K' N' I884 R885 L886 ⟨rfl, rfl, rfl, rfl, g887, h889, p890, p891, w892, -⟩
                      have hS893 := hS862.tr g887 (by decide +kernel) (by decide +kernel)
                      have c894 : I884 a1 4 = v606 := (g887.cell ta1 (by decide +kernel)).trans c863
                      have c895 : I884 a0 13 = v851 := (g887.cell ta0 (by decide +kernel)).trans c864
                      have w896 : RdI a0 I0 I884 := w865.ew w892
                      have w897 : RdI a0 I601 I884 := w866.ew w892
                      have gd898 := Gd.go gd867 w892.stick
                      have gd899 := Gd.go gd868 w892.stick
                      rw [c870] at p890
                      obtain ⟨v900, c901⟩ : ∃ v, I884 a0 8 = v := ⟨_, rfl⟩
                      have b902 := iv15_8 hS893.1 ta0 c901
                      rw [c901] at p891
                      rw [c873] at p891
                      refine tr_istore dX12_readTurner_222 (by decide) (by decide) ?_
                      refine tr_goto 159 dX12_readTurner_224 (by decide) ?_
                      exact ih616 _ v879 v888 I884 L886 v900 v606 hl592 hl593 hl594 hl595 hl596 hl597 hl598 rfl rfl hS893 c901 c894 w896 gd898 (by omega) (by omega) (by omega) (by omega)
            exact lp616 _ _ v586 v588 I576 L578 v610 v3 rfl rfl rfl rfl rfl rfl rfl rfl rfl hS582 c611 c583 w584 gd585 (by omega) (by omega) (by omega) (Nat.lt_succ_self _)
          · skip
            exfalso; omega
      · skip
        refine q_iconst dX12_readTurner_55 (by decide) ?_
        intro v903 h904
        refine tr_goto 73 dX12_readTurner_56 (by decide) ?_
        refine tr_istore_n dX12_readTurner_73 (by decide) (by decide) ?_
        refine tr_iload_n dX12_readTurner_74 rfl ?_
        refine q_iconst dX12_readTurner_75 (by decide) ?_
        intro v905 h906
        refine q_icmp_ne 84 dX12_readTurner_76 (by decide) (fun h907 => ?_) (fun h907 => ?_)
        · skip
          refine tr_aload_n dX12_readTurner_84 rfl ?_
          refine tr_ldcwS dX12_readTurner_85 ld12_324 ?_
          refine q_iconst dX12_readTurner_88 (by decide) ?_
          intro v908 h909
          refine tr_aload_n dX12_readTurner_89 rfl ?_
          refine tr_getR dX12_readTurner_90 fl12_188 (kR15 hS63.1 ta0) d2 ?_
          obtain ⟨v910, c911⟩ : ∃ v, I0 a1 0 = v := ⟨_, rfl⟩
          have b912 := iv14_0 hW0 ta1 c911
          refine q_getI dX12_readTurner_93 fl12_192 (kR14 hS63.1 ta1) ((hS63.cell ta1 (by decide +kernel)).trans c911) ?_
          refine q_iconst dX12_readTurner_96 (by decide) ?_
          intro v913 h914
          refine q_isubE dX12_readTurner_97 (by intros; omega) ?_
          intro v915 h916
          refine q_callVi hE (M' := mX12_readPart) (as := [_, _, _]) dX12_readTurner_98 lk12_249 inX12_readPart seX12_readPart myX12_readPart (by decide) ⟨by decide, by decide⟩ rfl (kR15 hS63.1 ta0) (Nat.le_of_ble_eq_true rfl) rfl rfl (by decide) (by decide) (k_X12_readPart hS63.1 ta0 (by decide)) ?_
          rintro v921 cn' K' N' I917 R918 L919 ⟨rfl, rfl, rfl, rfl, g920, p922, w923, -⟩
          have hS924 := hS63.tr g920 (by decide +kernel) (by decide +kernel)
          have c925 : I917 a1 4 = v3 := (g920.cell ta1 (by decide +kernel)).trans c64
          have w926 : RdI a0 I0 I917 := w65.rd w923
          have gd927 := Gd.go gd66 w923.stick
          have b928 : 0 ≤ v921.toInt ∧ v921.toInt ≤ 239 := by omega
          clear p922
          refine tr_istore dX12_readTurner_101 (by decide) (by decide) ?_
          refine tr_aload_n dX12_readTurner_103 rfl ?_
          refine tr_ldcwS dX12_readTurner_104 ld12_272 ?_
          refine tr_iload dX12_readTurner_107 rfl ?_
          refine q_iconst dX12_readTurner_109 (by decide) ?_
          intro v929 h930
          refine q_iaddE dX12_readTurner_110 (by intros; omega) ?_
          intro v931 h932
          refine tr_aload_n dX12_readTurner_111 rfl ?_
          refine tr_getR dX12_readTurner_112 fl12_188 (kR15 hS924.1 ta0) d2 ?_
          refine q_getI dX12_readTurner_115 fl12_192 (kR14 hS924.1 ta1) ((hS924.cell ta1 (by decide +kernel)).trans c911) ?_
          refine q_callVi hE (M' := mX12_readPart) (as := [_, _, _]) dX12_readTurner_118 lk12_249 inX12_readPart seX12_readPart myX12_readPart (by decide) ⟨by decide, by decide⟩ rfl (kR15 hS924.1 ta0) (Nat.le_of_ble_eq_true rfl) rfl rfl (by decide) (by decide) (k_X12_readPart hS924.1 ta0 (by decide)) ?_
          rintro v937 cn' K' N' I933 R934 L935 ⟨rfl, rfl, rfl, rfl, g936, p938, w939, -⟩
          have hS940 := hS924.tr g936 (by decide +kernel) (by decide +kernel)
          have c941 : I933 a1 4 = v3 := (g936.cell ta1 (by decide +kernel)).trans c925
          have w942 : RdI a0 I0 I933 := w926.rd w939
          have gd943 := Gd.go gd927 w939.stick
          have b944 : 1 ≤ v937.toInt ∧ v937.toInt ≤ 240 := by omega
          clear p938
          refine tr_istore dX12_readTurner_121 (by decide) (by decide) ?_
          refine tr_aload_n dX12_readTurner_123 rfl ?_
          refine tr_ldcwS dX12_readTurner_124 ld12_325 ?_
          refine q_iconst dX12_readTurner_127 (by decide) ?_
          intro v945 h946
          refine q_bipush dX12_readTurner_128 (by decide +kernel) ?_
          intro v947 h948
          refine q_callVi hE (M' := mX12_readPart) (as := [_, _, _]) dX12_readTurner_130 lk12_249 inX12_readPart seX12_readPart myX12_readPart (by decide) ⟨by decide, by decide⟩ rfl (kR15 hS940.1 ta0) (Nat.le_of_ble_eq_true rfl) rfl rfl (by decide) (by decide) (k_X12_readPart hS940.1 ta0 (by decide)) ?_
          rintro v953 cn' K' N' I949 R950 L951 ⟨rfl, rfl, rfl, rfl, g952, p954, w955, -⟩
          have hS956 := hS940.tr g952 (by decide +kernel) (by decide +kernel)
          have c957 : I949 a1 4 = v3 := (g952.cell ta1 (by decide +kernel)).trans c941
          have w958 : RdI a0 I0 I949 := w942.rd w955
          have gd959 := Gd.go gd943 w955.stick
          have b960 : 1 ≤ v953.toInt ∧ v953.toInt ≤ 8 := by omega
          clear p954
          refine tr_istore dX12_readTurner_133 (by decide) (by decide) ?_
          refine tr_aload_n dX12_readTurner_135 rfl ?_
          refine tr_ldcwS dX12_readTurner_136 ld12_327 ?_
          refine q_iconst dX12_readTurner_139 (by decide) ?_
          intro v961 h962
          refine q_bipush dX12_readTurner_140 (by decide +kernel) ?_
          intro v963 h964
          refine q_callVi hE (M' := mX12_readPart) (as := [_, _, _]) dX12_readTurner_142 lk12_249 inX12_readPart seX12_readPart myX12_readPart (by decide) ⟨by decide, by decide⟩ rfl (kR15 hS956.1 ta0) (Nat.le_of_ble_eq_true rfl) rfl rfl (by decide) (by decide) (k_X12_readPart hS956.1 ta0 (by decide)) ?_
          rintro v969 cn' K' N' I965 R966 L967 ⟨rfl, rfl, rfl, rfl, g968, p970, w971, -⟩
          have hS972 := hS956.tr g968 (by decide +kernel) (by decide +kernel)
          have c973 : I965 a1 4 = v3 := (g968.cell ta1 (by decide +kernel)).trans c957
          have w974 : RdI a0 I0 I965 := w958.rd w971
          have gd975 := Gd.go gd959 w971.stick
          have b976 : 1 ≤ v969.toInt ∧ v969.toInt ≤ 20 := by omega
          clear p970
          refine tr_istore dX12_readTurner_145 (by decide) (by decide) ?_
          refine tr_aload_n dX12_readTurner_147 rfl ?_
          refine tr_ldcS dX12_readTurner_148 ld12_253 ?_
          refine q_callVv hE (M' := mX12_needs) (as := [_]) dX12_readTurner_150 lk12_157 inX12_needs seX12_needs myX12_needs (by decide) ⟨by decide, by decide⟩ rfl (kR15 hS972.1 ta0) (Nat.le_of_ble_eq_true rfl) rfl rfl (by decide) (by decide) (k_X12_needs hS972.1 ta0 (by decide)) ?_
          rintro cn' K' N' I977 R978 L979 ⟨rfl, rfl, rfl, rfl, g980, w982, -⟩
          have hS983 := hS972.tr g980 (by decide +kernel) (by decide +kernel)
          have c984 : I977 a1 4 = v3 := (g980.cell ta1 (by decide +kernel)).trans c973
          have w985 : RdI a0 I0 I977 := w974.rd w982
          have gd986 := Gd.go gd975 w982.stick
          refine q_iconst dX12_readTurner_153 (by decide) ?_
          intro v987 h988
          refine tr_istore dX12_readTurner_154 (by decide) (by decide) ?_
          refine q_iconst dX12_readTurner_156 (by decide) ?_
          intro v989 h990
          refine tr_istore dX12_readTurner_157 (by decide) (by decide) ?_
          obtain ⟨v1011, c1012⟩ : ∃ v, I977 a0 8 = v := ⟨_, rfl⟩
          have b1013 := iv15_8 hS983.1 ta0 c1012
          have lp1017 : ∀ (fu : Nat) (ls : Nat → Option Value) (v991 : Int32) (v992 : Int32) (I1002 : cz_I) (L1003 : cz_L) (v1005 : Int32) (v1007 : Int32), ls 0 = some (.ref a0) → ls 1 = some (.long y26) → ls 3 = some (.int v903) → ls 4 = some (.int v921) → ls 5 = some (.int v937) → ls 6 = some (.int v953) → ls 7 = some (.int v969) → ls 8 = some (.int v991) → ls 9 = some (.int v992) → St T cn K N 0 wi_X12_readTurner wr_X12_readTurner I0 R0 I1002 R0 → I1002 a0 8 = v1005 → I1002 a1 4 = v1007 → RdI a0 I0 I1002 → Gd (I1002 a0 9) (v3.toInt ≠ v6.toInt) → 0 ≤ v992.toInt → v992.toInt ≤ 1 → v1007.toInt = v3.toInt → (-v1005.toInt + v992.toInt + 900).toNat < fu → Tr X mX12_readTurner 159 ls [] cn K N I1002 R0 L1003 0 0 := by
            intro fu
            induction fu with
            | zero => intros; rename_i hz; exact absurd hz (Nat.not_lt_zero _)
            | succ fu ih1017 =>
              intro ls v991 v992 I1002 L1003 v1005 v1007 hl993 hl994 hl995 hl996 hl997 hl998 hl999 hl1000 hl1001 hS1004 c1006 c1008 w1009 gd1010 g1014 g1015 g1016 hm1017
              have b1019 := iv15_8 hS1004.1 ta0 c1006
              have b1020 := iv14_4 hS1004.1 ta1 c1008
              refine tr_iload dX12_readTurner_159 hl1001 ?_
              refine q_if_eq 227 dX12_readTurner_161 (by decide) (fun h1021 => ?_) (fun h1021 => ?_)
              · skip
                refine tr_aload_n dX12_readTurner_227 hl993 ?_
                obtain ⟨v1022, c1023⟩ : ∃ v, I1002 a0 9 = v := ⟨_, rfl⟩
                have b1024 := iv15_9 hS1004.1 ta0 c1023
                refine q_getI dX12_readTurner_228 fl12_99 (kR15 hS1004.1 ta0) c1023 ?_
                refine q_iconst dX12_readTurner_231 (by decide) ?_
                intro v1025 h1026
                refine q_icmp_ne 236 dX12_readTurner_232 (by decide) (fun h1027 => ?_) (fun h1027 => ?_)
                · skip
                  have p1028 := gd1010 (by rw [c1023]; omega)
                  refine tr_aload_n dX12_readTurner_236 hl993 ?_
                  refine tr_getR dX12_readTurner_237 fl12_188 (kR15 hS1004.1 ta0) d2 ?_
                  refine q_getI dX12_readTurner_240 fl12_315 (kR14 hS1004.1 ta1) c1008 ?_
                  refine tr_istore dX12_readTurner_243 (by decide) (by decide) ?_
                  refine tr_aload_n dX12_readTurner_245 hl993 ?_
                  refine tr_lload_n dX12_readTurner_246 hl994 ?_
                  refine q_iconst dX12_readTurner_247 (by decide) ?_
                  intro v1029 h1030
                  refine tr_iload dX12_readTurner_248 rfl ?_
                  obtain ⟨v1032, c1033⟩ : ∃ v, I1002 a1 7 = v := ⟨_, rfl⟩
                  have b1034 := iv14_7 hS1004.1 ta1 c1033
                  obtain ⟨v1035, c1036⟩ : ∃ v, I0 a1 3 = v := ⟨_, rfl⟩
                  have b1037 := iv14_3 hW0 ta1 c1036
                  have p1031 := hS1004.1.2.2.2.2.1 a0 ta0 _ d2
                  rw [c1033, ((hS1004.cell ta1 (by decide +kernel)).trans c1036), c1008] at p1031
                  refine q_callVv hE (M' := mX12_names) (as := [_, _, _]) dX12_readTurner_250 lk12_293 inX12_names seX12_names myX12_names (by decide) ⟨by decide, by decide⟩ rfl (kR15 hS1004.1 ta0) (Nat.le_of_ble_eq_true rfl) rfl rfl (by decide) (by decide) (k_X12_names hS1004.1 ta0 (fun q0 z0 => by obtain rfl := Option.some.inj ((d2).symm.trans z0); (try rw [c1033]); (try omega)) ⟨_, d2⟩) ?_
                  rintro cn' K' N' I1038 R1039 L1040 ⟨rfl, rfl, rfl, rfl, g1041, -⟩
                  have hS1043 := hS1004.tr g1041 (by decide +kernel) (by decide +kernel)
                  have c1044 : I1038 a0 8 = v1005 := (g1041.cell ta0 (by decide +kernel)).trans c1006
                  have c1045 : I1038 a1 4 = v1007 := (g1041.cell ta1 (by decide +kernel)).trans c1008
                  have c1046 : I1038 a0 9 = v1022 := (g1041.cell ta0 (by decide +kernel)).trans c1023
                  have w1047 : RdI a0 I0 I1038 := w1009.keep (g1041.cell ta0 (by decide +kernel)) (g1041.cell ta0 (by decide +kernel)) (g1041.cell ta0 (by decide +kernel)) (g1041.cell ta0 (by decide +kernel))
                  have w1048 : EwI a0 I1002 I1038 := (EwI.rf a0 I1002).keep (g1041.cell ta0 (by decide +kernel)) (g1041.cell ta0 (by decide +kernel)) (g1041.cell ta0 (by decide +kernel)) (g1041.cell ta0 (by decide +kernel))
                  have gd1049 := Gd.keep gd1010 (g1041.cell ta0 (by decide +kernel))
                  refine tr_aload_n dX12_readTurner_253 hl993 ?_
                  refine tr_getR dX12_readTurner_254 fl12_188 (kR15 hS1043.1 ta0) d2 ?_
                  obtain ⟨a1050, d1051, ta1050⟩ := rf14_20 hW0 ta1
                  refine tr_getR dX12_readTurner_257 fl12_333 (kR14 hS1043.1 ta1) d1051 ?_
                  refine tr_iload dX12_readTurner_260 rfl ?_
                  refine tr_iload_n dX12_readTurner_262 hl995 ?_
                  refine q_iast dX12_readTurner_263 (kR63 hS1043.1 ta1050) (ti_in (nR63 hS1043.1 ta1050) (by omega) (by omega)) hS1043 ta1050 (iokF rfl) rfl (by rfl) ?_
                  intro I1052 hS1053 e1055 f1054
                  have c1056 : I1052 a0 8 = v1005 := (f1054 _ _ (fun q => by have z := ta0; rw [q.1, ta1050] at z; exact absurd z (by decide))).trans c1044
                  have c1057 : I1052 a1 4 = v1007 := (f1054 _ _ (fun q => by have z := ta1; rw [q.1, ta1050] at z; exact absurd z (by decide))).trans c1045
                  have c1058 : I1052 a0 9 = v1022 := (f1054 _ _ (fun q => by have z := ta0; rw [q.1, ta1050] at z; exact absurd z (by decide))).trans c1046
                  have w1059 : RdI a0 I0 I1052 := w1047.keep (f1054 _ _ (fun q => by have z := ta0; rw [q.1, ta1050] at z; exact absurd z (by decide))) (f1054 _ _ (fun q => by have z := ta0; rw [q.1, ta1050] at z; exact absurd z (by decide))) (f1054 _ _ (fun q => by have z := ta0; rw [q.1, ta1050] at z; exact absurd z (by decide))) (f1054 _ _ (fun q => by have z := ta0; rw [q.1, ta1050] at z; exact absurd z (by decide)))
                  have w1060 : EwI a0 I1002 I1052 := w1048.keep (f1054 _ _ (fun q => by have z := ta0; rw [q.1, ta1050] at z; exact absurd z (by decide))) (f1054 _ _ (fun q => by have z := ta0; rw [q.1, ta1050] at z; exact absurd z (by decide))) (f1054 _ _ (fun q => by have z := ta0; rw [q.1, ta1050] at z; exact absurd z (by decide))) (f1054 _ _ (fun q => by have z := ta0; rw [q.1, ta1050] at z; exact absurd z (by decide)))
                  have gd1061 := Gd.keep gd1049 (f1054 _ _ (fun q => by have z := ta0; rw [q.1, ta1050] at z; exact absurd z (by decide)))
                  refine tr_aload_n dX12_readTurner_264 hl993 ?_
                  refine tr_getR dX12_readTurner_265 fl12_188 (kR15 hS1053.1 ta0) d2 ?_
                  obtain ⟨a1062, d1063, ta1062⟩ := rf14_21 hW0 ta1
                  refine tr_getR dX12_readTurner_268 fl12_336 (kR14 hS1053.1 ta1) d1063 ?_
                  refine tr_iload dX12_readTurner_271 rfl ?_
                  refine tr_iload dX12_readTurner_273 hl996 ?_
                  refine q_iast dX12_readTurner_275 (kR64 hS1053.1 ta1062) (ti_in (nR64 hS1053.1 ta1062) (by omega) (by omega)) hS1053 ta1062 (iokF rfl) rfl (by rfl) ?_
                  intro I1064 hS1065 e1067 f1066
                  have c1068 : I1064 a0 8 = v1005 := (f1066 _ _ (fun q => by have z := ta0; rw [q.1, ta1062] at z; exact absurd z (by decide))).trans c1056
                  have c1069 : I1064 a1 4 = v1007 := (f1066 _ _ (fun q => by have z := ta1; rw [q.1, ta1062] at z; exact absurd z (by decide))).trans c1057
                  have c1070 : I1064 a0 9 = v1022 := (f1066 _ _ (fun q => by have z := ta0; rw [q.1, ta1062] at z; exact absurd z (by decide))).trans c1058
                  have w1071 : RdI a0 I0 I1064 := w1059.keep (f1066 _ _ (fun q => by have z := ta0; rw [q.1, ta1062] at z; exact absurd z (by decide))) (f1066 _ _ (fun q => by have z := ta0; rw [q.1, ta1062] at z; exact absurd z (by decide))) (f1066 _ _ (fun q => by have z := ta0; rw [q.1, ta1062] at z; exact absurd z (by decide))) (f1066 _ _ (fun q => by have z := ta0; rw [q.1, ta1062] at z; exact absurd z (by decide)))
                  have w1072 : EwI a0 I1002 I1064 := w1060.keep (f1066 _ _ (fun q => by have z := ta0; rw [q.1, ta1062] at z; exact absurd z (by decide))) (f1066 _ _ (fun q => by have z := ta0; rw [q.1, ta1062] at z; exact absurd z (by decide))) (f1066 _ _ (fun q => by have z := ta0; rw [q.1, ta1062] at z; exact absurd z (by decide))) (f1066 _ _ (fun q => by have z := ta0; rw [q.1, ta1062] at z; exact absurd z (by decide)))
                  have gd1073 := Gd.keep gd1061 (f1066 _ _ (fun q => by have z := ta0; rw [q.1, ta1062] at z; exact absurd z (by decide)))
                  refine tr_aload_n dX12_readTurner_276 hl993 ?_
                  refine tr_getR dX12_readTurner_277 fl12_188 (kR15 hS1065.1 ta0) d2 ?_
                  obtain ⟨a1074, d1075, ta1074⟩ := rf14_22 hW0 ta1
                  refine tr_getR dX12_readTurner_280 fl12_339 (kR14 hS1065.1 ta1) d1075 ?_
                  refine tr_iload dX12_readTurner_283 rfl ?_
                  refine tr_iload dX12_readTurner_285 hl997 ?_
                  refine q_iast dX12_readTurner_287 (kR65 hS1065.1 ta1074) (ti_in (nR65 hS1065.1 ta1074) (by omega) (by omega)) hS1065 ta1074 (iokF rfl) rfl (by rfl) ?_
                  intro I1076 hS1077 e1079 f1078
                  have c1080 : I1076 a0 8 = v1005 := (f1078 _ _ (fun q => by have z := ta0; rw [q.1, ta1074] at z; exact absurd z (by decide))).trans c1068
                  have c1081 : I1076 a1 4 = v1007 := (f1078 _ _ (fun q => by have z := ta1; rw [q.1, ta1074] at z; exact absurd z (by decide))).trans c1069
                  have c1082 : I1076 a0 9 = v1022 := (f1078 _ _ (fun q => by have z := ta0; rw [q.1, ta1074] at z; exact absurd z (by decide))).trans c1070
                  have w1083 : RdI a0 I0 I1076 := w1071.keep (f1078 _ _ (fun q => by have z := ta0; rw [q.1, ta1074] at z; exact absurd z (by decide))) (f1078 _ _ (fun q => by have z := ta0; rw [q.1, ta1074] at z; exact absurd z (by decide))) (f1078 _ _ (fun q => by have z := ta0; rw [q.1, ta1074] at z; exact absurd z (by decide))) (f1078 _ _ (fun q => by have z := ta0; rw [q.1, ta1074] at z; exact absurd z (by decide)))
                  have w1084 : EwI a0 I1002 I1076 := w1072.keep (f1078 _ _ (fun q => by have z := ta0; rw [q.1, ta1074] at z; exact absurd z (by decide))) (f1078 _ _ (fun q => by have z := ta0; rw [q.1, ta1074] at z; exact absurd z (by decide))) (f1078 _ _ (fun q => by have z := ta0; rw [q.1, ta1074] at z; exact absurd z (by decide))) (f1078 _ _ (fun q => by have z := ta0; rw [q.1, ta1074] at z; exact absurd z (by decide)))
                  have gd1085 := Gd.keep gd1073 (f1078 _ _ (fun q => by have z := ta0; rw [q.1, ta1074] at z; exact absurd z (by decide)))
                  refine tr_aload_n dX12_readTurner_288 hl993 ?_
                  refine tr_getR dX12_readTurner_289 fl12_188 (kR15 hS1077.1 ta0) d2 ?_
                  obtain ⟨a1086, d1087, ta1086⟩ := rf14_23 hW0 ta1
                  refine tr_getR dX12_readTurner_292 fl12_342 (kR14 hS1077.1 ta1) d1087 ?_
                  refine tr_iload dX12_readTurner_295 rfl ?_
                  refine tr_iload dX12_readTurner_297 hl998 ?_
                  refine q_iast dX12_readTurner_299 (kR66 hS1077.1 ta1086) (ti_in (nR66 hS1077.1 ta1086) (by omega) (by omega)) hS1077 ta1086 (iokF rfl) rfl (by rfl) ?_
                  intro I1088 hS1089 e1091 f1090
                  have c1092 : I1088 a0 8 = v1005 := (f1090 _ _ (fun q => by have z := ta0; rw [q.1, ta1086] at z; exact absurd z (by decide))).trans c1080
                  have c1093 : I1088 a1 4 = v1007 := (f1090 _ _ (fun q => by have z := ta1; rw [q.1, ta1086] at z; exact absurd z (by decide))).trans c1081
                  have c1094 : I1088 a0 9 = v1022 := (f1090 _ _ (fun q => by have z := ta0; rw [q.1, ta1086] at z; exact absurd z (by decide))).trans c1082
                  have w1095 : RdI a0 I0 I1088 := w1083.keep (f1090 _ _ (fun q => by have z := ta0; rw [q.1, ta1086] at z; exact absurd z (by decide))) (f1090 _ _ (fun q => by have z := ta0; rw [q.1, ta1086] at z; exact absurd z (by decide))) (f1090 _ _ (fun q => by have z := ta0; rw [q.1, ta1086] at z; exact absurd z (by decide))) (f1090 _ _ (fun q => by have z := ta0; rw [q.1, ta1086] at z; exact absurd z (by decide)))
                  have w1096 : EwI a0 I1002 I1088 := w1084.keep (f1090 _ _ (fun q => by have z := ta0; rw [q.1, ta1086] at z; exact absurd z (by decide))) (f1090 _ _ (fun q => by have z := ta0; rw [q.1, ta1086] at z; exact absurd z (by decide))) (f1090 _ _ (fun q => by have z := ta0; rw [q.1, ta1086] at z; exact absurd z (by decide))) (f1090 _ _ (fun q => by have z := ta0; rw [q.1, ta1086] at z; exact absurd z (by decide)))
                  have gd1097 := Gd.keep gd1085 (f1090 _ _ (fun q => by have z := ta0; rw [q.1, ta1086] at z; exact absurd z (by decide)))
                  refine tr_aload_n dX12_readTurner_300 hl993 ?_
                  refine tr_getR dX12_readTurner_301 fl12_188 (kR15 hS1089.1 ta0) d2 ?_
                  obtain ⟨a1098, d1099, ta1098⟩ := rf14_24 hW0 ta1
                  refine tr_getR dX12_readTurner_304 fl12_344 (kR14 hS1089.1 ta1) d1099 ?_
                  refine tr_iload dX12_readTurner_307 rfl ?_
                  refine tr_iload dX12_readTurner_309 hl999 ?_
                  refine q_iast dX12_readTurner_311 (kR67 hS1089.1 ta1098) (ti_in (nR67 hS1089.1 ta1098) (by omega) (by omega)) hS1089 ta1098 (iokF rfl) rfl (by rfl) ?_
                  intro I1100 hS1101 e1103 f1102
                  have c1104 : I1100 a0 8 = v1005 := (f1102 _ _ (fun q => by have z := ta0; rw [q.1, ta1098] at z; exact absurd z (by decide))).trans c1092
                  have c1105 : I1100 a1 4 = v1007 := (f1102 _ _ (fun q => by have z := ta1; rw [q.1, ta1098] at z; exact absurd z (by decide))).trans c1093
                  have c1106 : I1100 a0 9 = v1022 := (f1102 _ _ (fun q => by have z := ta0; rw [q.1, ta1098] at z; exact absurd z (by decide))).trans c1094
                  have w1107 : RdI a0 I0 I1100 := w1095.keep (f1102 _ _ (fun q => by have z := ta0; rw [q.1, ta1098] at z; exact absurd z (by decide))) (f1102 _ _ (fun q => by have z := ta0; rw [q.1, ta1098] at z; exact absurd z (by decide))) (f1102 _ _ (fun q => by have z := ta0; rw [q.1, ta1098] at z; exact absurd z (by decide))) (f1102 _ _ (fun q => by have z := ta0; rw [q.1, ta1098] at z; exact absurd z (by decide)))
                  have w1108 : EwI a0 I1002 I1100 := w1096.keep (f1102 _ _ (fun q => by have z := ta0; rw [q.1, ta1098] at z; exact absurd z (by decide))) (f1102 _ _ (fun q => by have z := ta0; rw [q.1, ta1098] at z; exact absurd z (by decide))) (f1102 _ _ (fun q => by have z := ta0; rw [q.1, ta1098] at z; exact absurd z (by decide))) (f1102 _ _ (fun q => by have z := ta0; rw [q.1, ta1098] at z; exact absurd z (by decide)))
                  have gd1109 := Gd.keep gd1097 (f1102 _ _ (fun q => by have z := ta0; rw [q.1, ta1098] at z; exact absurd z (by decide)))
                  refine tr_aload_n dX12_readTurner_312 hl993 ?_
                  refine tr_getR dX12_readTurner_313 fl12_188 (kR15 hS1101.1 ta0) d2 ?_
                  obtain ⟨a1110, d1111, ta1110⟩ := rf14_25 hW0 ta1
                  refine tr_getR dX12_readTurner_316 fl12_346 (kR14 hS1101.1 ta1) d1111 ?_
                  refine tr_iload dX12_readTurner_319 rfl ?_
                  refine tr_iload dX12_readTurner_321 hl1000 ?_
                  refine q_iast dX12_readTurner_323 (kR68 hS1101.1 ta1110) (ti_in (nR68 hS1101.1 ta1110) (by omega) (by omega)) hS1101 ta1110 (iokF rfl) rfl (by rfl) ?_
                  intro I1112 hS1113 e1115 f1114
                  have c1116 : I1112 a0 8 = v1005 := (f1114 _ _ (fun q => by have z := ta0; rw [q.1, ta1110] at z; exact absurd z (by decide))).trans c1104
                  have c1117 : I1112 a1 4 = v1007 := (f1114 _ _ (fun q => by have z := ta1; rw [q.1, ta1110] at z; exact absurd z (by decide))).trans c1105
                  have c1118 : I1112 a0 9 = v1022 := (f1114 _ _ (fun q => by have z := ta0; rw [q.1, ta1110] at z; exact absurd z (by decide))).trans c1106
                  have w1119 : RdI a0 I0 I1112 := w1107.keep (f1114 _ _ (fun q => by have z := ta0; rw [q.1, ta1110] at z; exact absurd z (by decide))) (f1114 _ _ (fun q => by have z := ta0; rw [q.1, ta1110] at z; exact absurd z (by decide))) (f1114 _ _ (fun q => by have z := ta0; rw [q.1, ta1110] at z; exact absurd z (by decide))) (f1114 _ _ (fun q => by have z := ta0; rw [q.1, ta1110] at z; exact absurd z (by decide)))
                  have w1120 : EwI a0 I1002 I1112 := w1108.keep (f1114 _ _ (fun q => by have z := ta0; rw [q.1, ta1110] at z; exact absurd z (by decide))) (f1114 _ _ (fun q => by have z := ta0; rw [q.1, ta1110] at z; exact absurd z (by decide))) (f1114 _ _ (fun q => by have z := ta0; rw [q.1, ta1110] at z; exact absurd z (by decide))) (f1114 _ _ (fun q => by have z := ta0; rw [q.1, ta1110] at z; exact absurd z (by decide)))
                  have gd1121 := Gd.keep gd1109 (f1114 _ _ (fun q => by have z := ta0; rw [q.1, ta1110] at z; exact absurd z (by decide)))
                  refine tr_aload_n dX12_readTurner_324 hl993 ?_
                  refine tr_getR dX12_readTurner_325 fl12_188 (kR15 hS1113.1 ta0) d2 ?_
                  refine tr_dup dX12_readTurner_328 rfl ?_
                  refine q_getI dX12_readTurner_329 fl12_315 (kR14 hS1113.1 ta1) c1117 ?_
                  refine q_iconst dX12_readTurner_332 (by decide) ?_
                  intro v1122 h1123
                  refine q_iaddE dX12_readTurner_333 (by intros; omega) ?_
                  intro v1124 h1125
                  refine q_putX dX12_readTurner_334 fl12_315 (kR14 hS1113.1 ta1) (Or.inl rfl) hS1113 ta1 (by decide +kernel) (hS1113.1.putN (d' := 0) ta0 d2 (Or.inr (Or.inr rfl)) (by rw [c1117]; omega) (by decide) (by show (0 : Int) ≤ v1124.toInt ∧ v1124.toInt ≤ (5 : Int); omega)) ?_
                  intro I1126 hS1127 e1128 f1129
                  have c1130 : I1126 a0 8 = v1005 := (f1129 _ _ (fun q => absurd q.2 (by decide))).trans c1116
                  have c1131 : I1126 a0 9 = v1022 := (f1129 _ _ (fun q => absurd q.2 (by decide))).trans c1118
                  have w1132 : RdI a0 I0 I1126 := w1119.keep (f1129 _ _ (fun q => absurd q.2 (by decide))) (f1129 _ _ (fun q => absurd q.2 (by decide))) (f1129 _ _ (fun q => absurd q.2 (by decide))) (f1129 _ _ (fun q => absurd q.2 (by decide)))
                  have w1133 : EwI a0 I1002 I1126 := w1120.keep (f1129 _ _ (fun q => absurd q.2 (by decide))) (f1129 _ _ (fun q => absurd q.2 (by decide))) (f1129 _ _ (fun q => absurd q.2 (by decide))) (f1129 _ _ (fun q => absurd q.2 (by decide)))
                  have gd1134 := Gd.keep gd1121 (f1129 _ _ (fun q => absurd q.2 (by decide)))
                  exact tr_vret hZ dX12_readTurner_337 rfl (by decide) (by decide) ⟨rfl, rfl, rfl, rfl, rfl, hS1127, w1132, trivial⟩
                · skip
                  exact tr_vret hZ dX12_readTurner_235 rfl (by decide) (by decide) ⟨rfl, rfl, rfl, rfl, rfl, hS1004, w1009, trivial⟩
              · skip
                refine tr_aload_n dX12_readTurner_164 hl993 ?_
                obtain ⟨v1135, c1136⟩ : ∃ v, I1002 a0 9 = v := ⟨_, rfl⟩
                have b1137 := iv15_9 hS1004.1 ta0 c1136
                refine q_getI dX12_readTurner_165 fl12_99 (kR15 hS1004.1 ta0) c1136 ?_
                refine q_iconst dX12_readTurner_168 (by decide) ?_
                intro v1138 h1139
                refine q_icmp_eq 227 dX12_readTurner_169 (by decide) (fun h1140 => ?_) (fun h1140 => ?_)
                · skip
                  refine tr_aload_n dX12_readTurner_227 hl993 ?_
                  refine q_getI dX12_readTurner_228 fl12_99 (kR15 hS1004.1 ta0) c1136 ?_
                  refine q_iconst dX12_readTurner_231 (by decide) ?_
                  intro v1141 h1142
                  refine q_icmp_ne 236 dX12_readTurner_232 (by decide) (fun h1143 => ?_) (fun h1143 => ?_)
                  · skip
                    exfalso; omega
                  · skip
                    exact tr_vret hZ dX12_readTurner_235 rfl (by decide) (by decide) ⟨rfl, rfl, rfl, rfl, rfl, hS1004, w1009, trivial⟩
                · skip
                  have p1144 := gd1010 (by rw [c1136]; omega)
                  refine tr_aload_n dX12_readTurner_172 hl993 ?_
                  refine q_iconst dX12_readTurner_173 (by decide) ?_
                  intro v1145 h1146
                  refine tr_aload_n dX12_readTurner_174 hl993 ?_
                  refine tr_getR dX12_readTurner_175 fl12_188 (kR15 hS1004.1 ta0) d2 ?_
                  obtain ⟨v1147, c1148⟩ : ∃ v, I0 a1 1 = v := ⟨_, rfl⟩
                  have b1149 := iv14_1 hW0 ta1 c1148
                  refine q_getI dX12_readTurner_178 fl12_263 (kR14 hS1004.1 ta1) ((hS1004.cell ta1 (by decide +kernel)).trans c1148) ?_
                  refine q_iconst dX12_readTurner_181 (by decide) ?_
                  intro v1150 h1151
                  refine q_isubE dX12_readTurner_182 (by intros; omega) ?_
                  intro v1152 h1153
                  refine q_callVi hE (M' := mX12_bounded) (as := [_, _]) dX12_readTurner_183 lk12_153 inX12_bounded seX12_bounded myX12_bounded (by decide) ⟨by decide, by decide⟩ rfl (kR15 hS1004.1 ta0) (Nat.le_of_ble_eq_true rfl) rfl rfl (by decide) (by decide) (k_X12_bounded hS1004.1 ta0) ?_
                  rintro v1158 cn' K' N' I1154 R1155 L1156 ⟨rfl, rfl, rfl, rfl, rfl, g1157, p1159, p1160, w1161, -⟩
                  have hS1162 := hS1004.tr g1157 (by decide +kernel) (by decide +kernel)
                  have c1163 : I1154 a0 8 = v1005 := (g1157.cell ta0 (by decide +kernel)).trans c1006
                  have c1164 : I1154 a1 4 = v1007 := (g1157.cell ta1 (by decide +kernel)).trans c1008
                  have w1165 : RdI a0 I0 I1154 := w1009.ew w1161
                  have w1166 : EwI a0 I1002 I1154 := (EwI.rf a0 I1002).ew w1161
                  have gd1167 := Gd.go gd1010 w1161.stick
                  have b1168 : 0 ≤ v1158.toInt ∧ v1158.toInt ≤ 3 := by omega
                  clear p1159
                  obtain ⟨v1169, c1170⟩ : ∃ v, I1154 a0 9 = v := ⟨_, rfl⟩
                  have b1171 := iv15_9 hS1162.1 ta0 c1170
                  have gd1172 : Gd (I1154 a0 9) ((v1145.toInt ≤ v1158.toInt ∧ v1158.toInt ≤ v1152.toInt)) := p1160
                  clear p1160
                  refine tr_istore dX12_readTurner_186 (by decide) (by decide) ?_
                  refine tr_iload dX12_readTurner_188 hl1000 ?_
                  refine tr_iload dX12_readTurner_190 rfl ?_
                  refine q_callSi hE (M' := mX12_has) (as := [_, _]) dX12_readTurner_192 lk12_329 inX12_has myX12_has ⟨by decide, by decide⟩ rfl (Nat.le_of_ble_eq_true rfl) rfl rfl (by decide) (by decide) (k_X12_has hS1162.1 ) ?_
                  rintro v1177 cn' K' N' I1173 R1174 L1175 ⟨rfl, rfl, rfl, rfl, rfl, rfl, h1178, -⟩
                  refine q_if_eq 203 dX12_readTurner_195 (by decide) (fun h1179 => ?_) (fun h1179 => ?_)
                  · skip
                    refine tr_aload_n dX12_readTurner_203 hl993 ?_
                    obtain ⟨v1180, c1181⟩ : ∃ v, I1154 a0 13 = v := ⟨_, rfl⟩
                    refine q_callVv hE (M' := mX12_goesOn) (as := []) dX12_readTurner_204 lk12_142 inX12_goesOn seX12_goesOn myX12_goesOn (by decide) ⟨by decide, by decide⟩ rfl (kR15 hS1162.1 ta0) (Nat.le_of_ble_eq_true rfl) rfl rfl (by decide) (by decide) (k_X12_goesOn hS1162.1 ta0) ?_
                    rintro cn' K' N' I1182 R1183 L1184 ⟨rfl, rfl, rfl, rfl, g1185, p1187, p1188, p1189, w1190, -⟩
                    have hS1191 := hS1162.tr g1185 (by decide +kernel) (by decide +kernel)
                    have c1192 : I1182 a1 4 = v1007 := (g1185.cell ta1 (by decide +kernel)).trans c1164
                    have c1193 : I1182 a0 13 = v1180 := (g1185.cell ta0 (by decide +kernel)).trans c1181
                    have w1194 : RdI a0 I0 I1182 := w1165.rd w1190
                    have w1195 : RdI a0 I1002 I1182 := w1166.rd w1190
                    have gd1196 := Gd.go gd1167 w1190.stick
                    have gd1197 := Gd.go gd1172 w1190.stick
                    obtain ⟨v1198, c1199⟩ : ∃ v, I1182 a0 9 = v := ⟨_, rfl⟩
                    have b1200 := iv15_9 hS1191.1 ta0 c1199
                    rw [c1170] at p1187
                    rw [c1199] at p1187
                    rw [c1170] at p1188
                    rw [c1199] at p1188
                    obtain ⟨v1201, c1202⟩ : ∃ v, I1182 a0 8 = v := ⟨_, rfl⟩
                    have b1203 := iv15_8 hS1191.1 ta0 c1202
                    rw [c1202] at p1189
                    rw [c1163] at p1189
                    rw [c1193] at p1189
                    rw [c1181] at p1189
                    refine tr_iload dX12_readTurner_207 hl1000 ?_
                    refine q_iconst dX12_readTurner_209 (by decide) ?_
                    intro v1204 h1205
                    refine tr_iload dX12_readTurner_210 rfl ?_
                    refine q_ishlE dX12_readTurner_212 (by omega) (by omega) ?_
                    intro v1206 h1207
                    refine q_ior dX12_readTurner_213 ?_
                    intro v1208
                    refine tr_istore dX12_readTurner_214 (by decide) (by decide) ?_
                    refine tr_aload_n dX12_readTurner_216 hl993 ?_
                    refine q_bipush dX12_readTurner_217 (by decide +kernel) ?_
                    intro v1209 h1210
                    have z1211 := w1195.2.2.1
                    (try rw [c1006] at z1211)
                    (try rw [c1202] at z1211)
                    (try rw [c1199] at z1211)
                    have z1212 := w1195.2.1
                    (try rw [c1006] at z1212)
                    (try rw [c1202] at z1212)
                    refine q_callVi hE (M' := mX12_eatsSign) (as := [_]) dX12_readTurner_219 lk12_221 inX12_eatsSign seX12_eatsSign myX12_eatsSign (by decide) ⟨by decide, by decide⟩ rfl (kR15 hS1191.1 ta0) (Nat.le_of_ble_eq_true rfl) rfl rfl (by decide) (by decide) (k_X12_eatsSign hS1191.1 ta0) ?_
                    rintro v1217 cn' K' N' I1213 R1214 L1215 ⟨rfl, rfl, rfl, rfl, g1216, h1218, p1219, p1220, w1221, -⟩
                    have hS1222 := hS1191.tr g1216 (by decide +kernel) (by decide +kernel)
                    have c1223 : I1213 a1 4 = v1007 := (g1216.cell ta1 (by decide +kernel)).trans c1192
                    have c1224 : I1213 a0 13 = v1180 := (g1216.cell ta0 (by decide +kernel)).trans c1193
                    have w1225 : RdI a0 I0 I1213 := w1194.ew w1221
                    have w1226 : RdI a0 I1002 I1213 := w1195.ew w1221
                    have gd1227 := Gd.go gd1196 w1221.stick
                    have gd1228 := Gd.go gd1197 w1221.stick
                    rw [c1199] at p1219
                    obtain ⟨v1229, c1230⟩ : ∃ v, I1213 a0 8 = v := ⟨_, rfl⟩
                    have b1231 := iv15_8 hS1222.1 ta0 c1230
                    rw [c1230] at p1220
                    rw [c1202] at p1220
                    refine tr_istore dX12_readTurner_222 (by decide) (by decide) ?_
                    refine tr_goto 159 dX12_readTurner_224 (by decide) ?_
                    exact ih1017 _ v1208 v1217 I1213 L1215 v1229 v1007 hl993 hl994 hl995 hl996 hl997 hl998 hl999 rfl rfl hS1222 c1230 c1223 w1225 gd1227 (by omega) (by omega) (by omega) (by omega)
                  · skip
                    refine tr_aload_n dX12_readTurner_198 hl993 ?_
                    refine q_iconst dX12_readTurner_199 (by decide) ?_
                    intro v1232 h1233
                    refine q_callVv hE (M' := mX12_flaw) (as := [_]) dX12_readTurner_200 lk12_145 inX12_flaw seX12_flaw myX12_flaw (by decide) ⟨by decide, by decide⟩ rfl (kR15 hS1162.1 ta0) (Nat.le_of_ble_eq_true rfl) rfl rfl (by decide) (by decide) (k_X12_flaw hS1162.1 ta0 (by omega)) ?_
                    rintro cn' K' N' I1234 R1235 L1236 ⟨rfl, rfl, rfl, rfl, rfl, g1237, p1239, p1240, w1241, -⟩
                    have hS1242 := hS1162.tr g1237 (by decide +kernel) (by decide +kernel)
                    have c1243 : I1234 a0 8 = v1005 := (g1237.cell ta0 (by decide +kernel)).trans c1163
                    have c1244 : I1234 a1 4 = v1007 := (g1237.cell ta1 (by decide +kernel)).trans c1164
                    have w1245 : RdI a0 I0 I1234 := w1165.rd w1241
                    have w1246 : RdI a0 I1002 I1234 := w1166.rd w1241
                    have gd1247 := Gd.go gd1167 w1241.stick
                    have gd1248 := Gd.go gd1172 w1241.stick
                    obtain ⟨v1249, c1250⟩ : ∃ v, I1234 a0 9 = v := ⟨_, rfl⟩
                    have b1251 := iv15_9 hS1242.1 ta0 c1250
                    rw [c1250] at p1239
                    rw [c1243] at p1240
                    rw [c1163] at p1240
                    refine tr_aload_n dX12_readTurner_203 hl993 ?_
                    obtain ⟨v1252, c1253⟩ : ∃ v, I1234 a0 13 = v := ⟨_, rfl⟩
                    refine q_callVv hE (M' := mX12_goesOn) (as := []) dX12_readTurner_204 lk12_142 inX12_goesOn seX12_goesOn myX12_goesOn (by decide) ⟨by decide, by decide⟩ rfl (kR15 hS1242.1 ta0) (Nat.le_of_ble_eq_true rfl) rfl rfl (by decide) (by decide) (k_X12_goesOn hS1242.1 ta0) ?_
                    rintro cn' K' N' I1254 R1255 L1256 ⟨rfl, rfl, rfl, rfl, g1257, p1259, p1260, p1261, w1262, -⟩
                    have hS1263 := hS1242.tr g1257 (by decide +kernel) (by decide +kernel)
                    have c1264 : I1254 a1 4 = v1007 := (g1257.cell ta1 (by decide +kernel)).trans c1244
                    have c1265 : I1254 a0 13 = v1252 := (g1257.cell ta0 (by decide +kernel)).trans c1253
                    have w1266 : RdI a0 I0 I1254 := w1245.rd w1262
                    have w1267 : RdI a0 I1002 I1254 := w1246.rd w1262
                    have gd1268 := Gd.go gd1247 w1262.stick
                    have gd1269 := Gd.go gd1248 w1262.stick
                    obtain ⟨v1270, c1271⟩ : ∃ v, I1254 a0 9 = v := ⟨_, rfl⟩
                    have b1272 := iv15_9 hS1263.1 ta0 c1271
                    rw [c1250] at p1259
                    rw [c1271] at p1259
                    rw [c1250] at p1260
                    rw [c1271] at p1260
                    obtain ⟨v1273, c1274⟩ : ∃ v, I1254 a0 8 = v := ⟨_, rfl⟩
                    have b1275 := iv15_8 hS1263.1 ta0 c1274
                    rw [c1274] at p1261
                    rw [c1243] at p1261
                    rw [c1265] at p1261
                    rw [c1253] at p1261
                    refine tr_iload dX12_readTurner_207 hl1000 ?_
                    refine q_iconst dX12_readTurner_209 (by decide) ?_
                    intro v1276 h1277
                    refine tr_iload dX12_readTurner_210 rfl ?_
                    refine q_ishlE dX12_readTurner_212 (by omega) (by omega) ?_
                    intro v1278 h1279
                    refine q_ior dX12_readTurner_213 ?_
                    intro v1280
                    refine tr_istore dX12_readTurner_214 (by decide) (by decide) ?_
                    refine tr_aload_n dX12_readTurner_216 hl993 ?_
                    refine q_bipush dX12_readTurner_217 (by decide +kernel) ?_
                    intro v1281 h1282
                    have z1283 := w1267.2.2.1
                    (try rw [c1006] at z1283)
                    (try rw [c1274] at z1283)
                    (try rw [c1271] at z1283)
                    have z1284 := w1267.2.1
                    (try rw [c1006] at z1284)
                    (try rw [c1274] at z1284)
                    refine q_callVi hE (M' := mX12_eatsSign) (as := [_]) dX12_readTurner_219 lk12_221 inX12_eatsSign seX12_eatsSign myX12_eatsSign (by decide) ⟨by decide, by decide⟩ rfl (kR15 hS1263.1 ta0) (Nat.le_of_ble_eq_true rfl) rfl rfl (by decide) (by decide) (k_X12_eatsSign hS1263.1 ta0) ?_
                    rintro v1289 cn' K' N' I1285 R1286 L1287 ⟨rfl, rfl, rfl, rfl, g1288, h1290, p1291, p1292, w1293, -⟩
                    have hS1294 := hS1263.tr g1288 (by decide +kernel) (by decide +kernel)
                    have c1295 : I1285 a1 4 = v1007 := (g1288.cell ta1 (by decide +kernel)).trans c1264
                    have c1296 : I1285 a0 13 = v1252 := (g1288.cell ta0 (by decide +kernel)).trans c1265
                    have w1297 : RdI a0 I0 I1285 := w1266.ew w1293
                    have w1298 : RdI a0 I1002 I1285 := w1267.ew w1293
                    have gd1299 := Gd.go gd1268 w1293.stick
                    have gd1300 := Gd.go gd1269 w1293.stick
                    rw [c1271] at p1291
                    obtain ⟨v1301, c1302⟩ : ∃ v, I1285 a0 8 = v := ⟨_, rfl⟩
                    have b1303 := iv15_8 hS1294.1 ta0 c1302
                    rw [c1302] at p1292
                    rw [c1274] at p1292
                    refine tr_istore dX12_readTurner_222 (by decide) (by decide) ?_
                    refine tr_goto 159 dX12_readTurner_224 (by decide) ?_
                    exact ih1017 _ v1280 v1289 I1285 L1287 v1301 v1007 hl993 hl994 hl995 hl996 hl997 hl998 hl999 rfl rfl hS1294 c1302 c1295 w1297 gd1299 (by omega) (by omega) (by omega) (by omega)
          exact lp1017 _ _ v987 v989 I977 L979 v1011 v3 rfl rfl rfl rfl rfl rfl rfl rfl rfl hS983 c1012 c984 w985 gd986 (by omega) (by omega) (by omega) (Nat.lt_succ_self _)
        · skip
          exfalso; omega
    · skip
      refine q_iconst dX12_readTurner_41 (by decide) ?_
      intro v1304 h1305
      refine tr_goto 73 dX12_readTurner_42 (by decide) ?_
      refine tr_istore_n dX12_readTurner_73 (by decide) (by decide) ?_
      refine tr_iload_n dX12_readTurner_74 rfl ?_
      refine q_iconst dX12_readTurner_75 (by decide) ?_
      intro v1306 h1307
      refine q_icmp_ne 84 dX12_readTurner_76 (by decide) (fun h1308 => ?_) (fun h1308 => ?_)
      · skip
        refine tr_aload_n dX12_readTurner_84 rfl ?_
        refine tr_ldcwS dX12_readTurner_85 ld12_324 ?_
        refine q_iconst dX12_readTurner_88 (by decide) ?_
        intro v1309 h1310
        refine tr_aload_n dX12_readTurner_89 rfl ?_
        refine tr_getR dX12_readTurner_90 fl12_188 (kR15 hS51.1 ta0) d2 ?_
        obtain ⟨v1311, c1312⟩ : ∃ v, I0 a1 0 = v := ⟨_, rfl⟩
        have b1313 := iv14_0 hW0 ta1 c1312
        refine q_getI dX12_readTurner_93 fl12_192 (kR14 hS51.1 ta1) ((hS51.cell ta1 (by decide +kernel)).trans c1312) ?_
        refine q_iconst dX12_readTurner_96 (by decide) ?_
        intro v1314 h1315
        refine q_isubE dX12_readTurner_97 (by intros; omega) ?_
        intro v1316 h1317
        refine q_callVi hE (M' := mX12_readPart) (as := [_, _, _]) dX12_readTurner_98 lk12_249 inX12_readPart seX12_readPart myX12_readPart (by decide) ⟨by decide, by decide⟩ rfl (kR15 hS51.1 ta0) (Nat.le_of_ble_eq_true rfl) rfl rfl (by decide) (by decide) (k_X12_readPart hS51.1 ta0 (by decide)) ?_
        rintro v1322 cn' K' N' I1318 R1319 L1320 ⟨rfl, rfl, rfl, rfl, g1321, p1323, w1324, -⟩
        have hS1325 := hS51.tr g1321 (by decide +kernel) (by decide +kernel)
        have c1326 : I1318 a1 4 = v3 := (g1321.cell ta1 (by decide +kernel)).trans c52
        have w1327 : RdI a0 I0 I1318 := w53.rd w1324
        have gd1328 := Gd.go gd54 w1324.stick
        have b1329 : 0 ≤ v1322.toInt ∧ v1322.toInt ≤ 239 := by omega
        clear p1323
        refine tr_istore dX12_readTurner_101 (by decide) (by decide) ?_
        refine tr_aload_n dX12_readTurner_103 rfl ?_
        refine tr_ldcwS dX12_readTurner_104 ld12_272 ?_
        refine tr_iload dX12_readTurner_107 rfl ?_
        refine q_iconst dX12_readTurner_109 (by decide) ?_
        intro v1330 h1331
        refine q_iaddE dX12_readTurner_110 (by intros; omega) ?_
        intro v1332 h1333
        refine tr_aload_n dX12_readTurner_111 rfl ?_
        refine tr_getR dX12_readTurner_112 fl12_188 (kR15 hS1325.1 ta0) d2 ?_
        refine q_getI dX12_readTurner_115 fl12_192 (kR14 hS1325.1 ta1) ((hS1325.cell ta1 (by decide +kernel)).trans c1312) ?_
        refine q_callVi hE (M' := mX12_readPart) (as := [_, _, _]) dX12_readTurner_118 lk12_249 inX12_readPart seX12_readPart myX12_readPart (by decide) ⟨by decide, by decide⟩ rfl (kR15 hS1325.1 ta0) (Nat.le_of_ble_eq_true rfl) rfl rfl (by decide) (by decide) (k_X12_readPart hS1325.1 ta0 (by decide)) ?_
        rintro v1338 cn' K' N' I1334 R1335 L1336 ⟨rfl, rfl, rfl, rfl, g1337, p1339, w1340, -⟩
        have hS1341 := hS1325.tr g1337 (by decide +kernel) (by decide +kernel)
        have c1342 : I1334 a1 4 = v3 := (g1337.cell ta1 (by decide +kernel)).trans c1326
        have w1343 : RdI a0 I0 I1334 := w1327.rd w1340
        have gd1344 := Gd.go gd1328 w1340.stick
        have b1345 : 1 ≤ v1338.toInt ∧ v1338.toInt ≤ 240 := by omega
        clear p1339
        refine tr_istore dX12_readTurner_121 (by decide) (by decide) ?_
        refine tr_aload_n dX12_readTurner_123 rfl ?_
        refine tr_ldcwS dX12_readTurner_124 ld12_325 ?_
        refine q_iconst dX12_readTurner_127 (by decide) ?_
        intro v1346 h1347
        refine q_bipush dX12_readTurner_128 (by decide +kernel) ?_
        intro v1348 h1349
        refine q_callVi hE (M' := mX12_readPart) (as := [_, _, _]) dX12_readTurner_130 lk12_249 inX12_readPart seX12_readPart myX12_readPart (by decide) ⟨by decide, by decide⟩ rfl (kR15 hS1341.1 ta0) (Nat.le_of_ble_eq_true rfl) rfl rfl (by decide) (by decide) (k_X12_readPart hS1341.1 ta0 (by decide)) ?_
        rintro v1354 cn' K' N' I1350 R1351 L1352 ⟨rfl, rfl, rfl, rfl, g1353, p1355, w1356, -⟩
        have hS1357 := hS1341.tr g1353 (by decide +kernel) (by decide +kernel)
        have c1358 : I1350 a1 4 = v3 := (g1353.cell ta1 (by decide +kernel)).trans c1342
        have w1359 : RdI a0 I0 I1350 := w1343.rd w1356
        have gd1360 := Gd.go gd1344 w1356.stick
        have b1361 : 1 ≤ v1354.toInt ∧ v1354.toInt ≤ 8 := by omega
        clear p1355
        refine tr_istore dX12_readTurner_133 (by decide) (by decide) ?_
        refine tr_aload_n dX12_readTurner_135 rfl ?_
        refine tr_ldcwS dX12_readTurner_136 ld12_327 ?_
        refine q_iconst dX12_readTurner_139 (by decide) ?_
        intro v1362 h1363
        refine q_bipush dX12_readTurner_140 (by decide +kernel) ?_
        intro v1364 h1365
        refine q_callVi hE (M' := mX12_readPart) (as := [_, _, _]) dX12_readTurner_142 lk12_249 inX12_readPart seX12_readPart myX12_readPart (by decide) ⟨by decide, by decide⟩ rfl (kR15 hS1357.1 ta0) (Nat.le_of_ble_eq_true rfl) rfl rfl (by decide) (by decide) (k_X12_readPart hS1357.1 ta0 (by decide)) ?_
        rintro v1370 cn' K' N' I1366 R1367 L1368 ⟨rfl, rfl, rfl, rfl, g1369, p1371, w1372, -⟩
        have hS1373 := hS1357.tr g1369 (by decide +kernel) (by decide +kernel)
        have c1374 : I1366 a1 4 = v3 := (g1369.cell ta1 (by decide +kernel)).trans c1358
        have w1375 : RdI a0 I0 I1366 := w1359.rd w1372
        have gd1376 := Gd.go gd1360 w1372.stick
        have b1377 : 1 ≤ v1370.toInt ∧ v1370.toInt ≤ 20 := by omega
        clear p1371
        refine tr_istore dX12_readTurner_145 (by decide) (by decide) ?_
        refine tr_aload_n dX12_readTurner_147 rfl ?_
        refine tr_ldcS dX12_readTurner_148 ld12_253 ?_
        refine q_callVv hE (M' := mX12_needs) (as := [_]) dX12_readTurner_150 lk12_157 inX12_needs seX12_needs myX12_needs (by decide) ⟨by decide, by decide⟩ rfl (kR15 hS1373.1 ta0) (Nat.le_of_ble_eq_true rfl) rfl rfl (by decide) (by decide) (k_X12_needs hS1373.1 ta0 (by decide)) ?_
        rintro cn' K' N' I1378 R1379 L1380 ⟨rfl, rfl, rfl, rfl, g1381, w1383, -⟩
        have hS1384 := hS1373.tr g1381 (by decide +kernel) (by decide +kernel)
        have c1385 : I1378 a1 4 = v3 := (g1381.cell ta1 (by decide +kernel)).trans c1374
        have w1386 : RdI a0 I0 I1378 := w1375.rd w1383
        have gd1387 := Gd.go gd1376 w1383.stick
        refine q_iconst dX12_readTurner_153 (by decide) ?_
        intro v1388 h1389
        refine tr_istore dX12_readTurner_154 (by decide) (by decide) ?_
        refine q_iconst dX12_readTurner_156 (by decide) ?_
        intro v1390 h1391
        refine tr_istore dX12_readTurner_157 (by decide) (by decide) ?_
        obtain ⟨v1412, c1413⟩ : ∃ v, I1378 a0 8 = v := ⟨_, rfl⟩
        have b1414 := iv15_8 hS1384.1 ta0 c1413
        have lp1418 : ∀ (fu : Nat) (ls : Nat → Option Value) (v1392 : Int32) (v1393 : Int32) (I1403 : cz_I) (L1404 : cz_L) (v1406 : Int32) (v1408 : Int32), ls 0 = some (.ref a0) → ls 1 = some (.long y26) → ls 3 = some (.int v1304) → ls 4 = some (.int v1322) → ls 5 = some (.int v1338) → ls 6 = some (.int v1354) → ls 7 = some (.int v1370) → ls 8 = some (.int v1392) → ls 9 = some (.int v1393) → St T cn K N 0 wi_X12_readTurner wr_X12_readTurner I0 R0 I1403 R0 → I1403 a0 8 = v1406 → I1403 a1 4 = v1408 → RdI a0 I0 I1403 → Gd (I1403 a0 9) (v3.toInt ≠ v6.toInt) → 0 ≤ v1393.toInt → v1393.toInt ≤ 1 → v1408.toInt = v3.toInt → (-v1406.toInt + v1393.toInt + 900).toNat < fu → Tr X mX12_readTurner 159 ls [] cn K N I1403 R0 L1404 0 0 := by
          intro fu
          induction fu with
          | zero => intros; rename_i hz; exact absurd hz (Nat.not_lt_zero _)
          | succ fu ih1418 =>
            intro ls v1392 v1393 I1403 L1404 v1406 v1408 hl1394 hl1395 hl1396 hl1397 hl1398 hl1399 hl1400 hl1401 hl1402 hS1405 c1407 c1409 w1410 gd1411 g1415 g1416 g1417 hm1418
            have b1420 := iv15_8 hS1405.1 ta0 c1407
            have b1421 := iv14_4 hS1405.1 ta1 c1409
            refine tr_iload dX12_readTurner_159 hl1402 ?_
            refine q_if_eq 227 dX12_readTurner_161 (by decide) (fun h1422 => ?_) (fun h1422 => ?_)
            · skip
              refine tr_aload_n dX12_readTurner_227 hl1394 ?_
              obtain ⟨v1423, c1424⟩ : ∃ v, I1403 a0 9 = v := ⟨_, rfl⟩
              have b1425 := iv15_9 hS1405.1 ta0 c1424
              refine q_getI dX12_readTurner_228 fl12_99 (kR15 hS1405.1 ta0) c1424 ?_
              refine q_iconst dX12_readTurner_231 (by decide) ?_
              intro v1426 h1427
              refine q_icmp_ne 236 dX12_readTurner_232 (by decide) (fun h1428 => ?_) (fun h1428 => ?_)
              · skip
                have p1429 := gd1411 (by rw [c1424]; omega)
                refine tr_aload_n dX12_readTurner_236 hl1394 ?_
                refine tr_getR dX12_readTurner_237 fl12_188 (kR15 hS1405.1 ta0) d2 ?_
                refine q_getI dX12_readTurner_240 fl12_315 (kR14 hS1405.1 ta1) c1409 ?_
                refine tr_istore dX12_readTurner_243 (by decide) (by decide) ?_
                refine tr_aload_n dX12_readTurner_245 hl1394 ?_
                refine tr_lload_n dX12_readTurner_246 hl1395 ?_
                refine q_iconst dX12_readTurner_247 (by decide) ?_
                intro v1430 h1431
                refine tr_iload dX12_readTurner_248 rfl ?_
                obtain ⟨v1433, c1434⟩ : ∃ v, I1403 a1 7 = v := ⟨_, rfl⟩
                have b1435 := iv14_7 hS1405.1 ta1 c1434
                obtain ⟨v1436, c1437⟩ : ∃ v, I0 a1 3 = v := ⟨_, rfl⟩
                have b1438 := iv14_3 hW0 ta1 c1437
                have p1432 := hS1405.1.2.2.2.2.1 a0 ta0 _ d2
                rw [c1434, ((hS1405.cell ta1 (by decide +kernel)).trans c1437), c1409] at p1432
                refine q_callVv hE (M' := mX12_names) (as := [_, _, _]) dX12_readTurner_250 lk12_293 inX12_names seX12_names myX12_names (by decide) ⟨by decide, by decide⟩ rfl (kR15 hS1405.1 ta0) (Nat.le_of_ble_eq_true rfl) rfl rfl (by decide) (by decide) (k_X12_names hS1405.1 ta0 (fun q0 z0 => by obtain rfl := Option.some.inj ((d2).symm.trans z0); (try rw [c1434]); (try omega)) ⟨_, d2⟩) ?_
                rintro cn' K' N' I1439 R1440 L1441 ⟨rfl, rfl, rfl, rfl, g1442, -⟩
                have hS1444 := hS1405.tr g1442 (by decide +kernel) (by decide +kernel)
                have c1445 : I1439 a0 8 = v1406 := (g1442.cell ta0 (by decide +kernel)).trans c1407
                have c1446 : I1439 a1 4 = v1408 := (g1442.cell ta1 (by decide +kernel)).trans c1409
                have c1447 : I1439 a0 9 = v1423 := (g1442.cell ta0 (by decide +kernel)).trans c1424
                have w1448 : RdI a0 I0 I1439 := w1410.keep (g1442.cell ta0 (by decide +kernel)) (g1442.cell ta0 (by decide +kernel)) (g1442.cell ta0 (by decide +kernel)) (g1442.cell ta0 (by decide +kernel))
                have w1449 : EwI a0 I1403 I1439 := (EwI.rf a0 I1403).keep (g1442.cell ta0 (by decide +kernel)) (g1442.cell ta0 (by decide +kernel)) (g1442.cell ta0 (by decide +kernel)) (g1442.cell ta0 (by decide +kernel))
                have gd1450 := Gd.keep gd1411 (g1442.cell ta0 (by decide +kernel))
                refine tr_aload_n dX12_readTurner_253 hl1394 ?_
                refine tr_getR dX12_readTurner_254 fl12_188 (kR15 hS1444.1 ta0) d2 ?_
                obtain ⟨a1451, d1452, ta1451⟩ := rf14_20 hW0 ta1
                refine tr_getR dX12_readTurner_257 fl12_333 (kR14 hS1444.1 ta1) d1452 ?_
                refine tr_iload dX12_readTurner_260 rfl ?_
                refine tr_iload_n dX12_readTurner_262 hl1396 ?_
                refine q_iast dX12_readTurner_263 (kR63 hS1444.1 ta1451) (ti_in (nR63 hS1444.1 ta1451) (by omega) (by omega)) hS1444 ta1451 (iokF rfl) rfl (by rfl) ?_
                intro I1453 hS1454 e1456 f1455
                have c1457 : I1453 a0 8 = v1406 := (f1455 _ _ (fun q => by have z := ta0; rw [q.1, ta1451] at z; exact absurd z (by decide))).trans c1445
                have c1458 : I1453 a1 4 = v1408 := (f1455 _ _ (fun q => by have z := ta1; rw [q.1, ta1451] at z; exact absurd z (by decide))).trans c1446
                have c1459 : I1453 a0 9 = v1423 := (f1455 _ _ (fun q => by have z := ta0; rw [q.1, ta1451] at z; exact absurd z (by decide))).trans c1447
                have w1460 : RdI a0 I0 I1453 := w1448.keep (f1455 _ _ (fun q => by have z := ta0; rw [q.1, ta1451] at z; exact absurd z (by decide))) (f1455 _ _ (fun q => by have z := ta0; rw [q.1, ta1451] at z; exact absurd z (by decide))) (f1455 _ _ (fun q => by have z := ta0; rw [q.1, ta1451] at z; exact absurd z (by decide))) (f1455 _ _ (fun q => by have z := ta0; rw [q.1, ta1451] at z; exact absurd z (by decide)))
                have w1461 : EwI a0 I1403 I1453 := w1449.keep (f1455 _ _ (fun q => by have z := ta0; rw [q.1, ta1451] at z; exact absurd z (by decide))) (f1455 _ _ (fun q => by have z := ta0; rw [q.1, ta1451] at z; exact absurd z (by decide))) (f1455 _ _ (fun q => by have z := ta0; rw [q.1, ta1451] at z; exact absurd z (by decide))) (f1455 _ _ (fun q => by have z := ta0; rw [q.1, ta1451] at z; exact absurd z (by decide)))
                have gd1462 := Gd.keep gd1450 (f1455 _ _ (fun q => by have z := ta0; rw [q.1, ta1451] at z; exact absurd z (by decide)))
                refine tr_aload_n dX12_readTurner_264 hl1394 ?_
                refine tr_getR dX12_readTurner_265 fl12_188 (kR15 hS1454.1 ta0) d2 ?_
                obtain ⟨a1463, d1464, ta1463⟩ := rf14_21 hW0 ta1
                refine tr_getR dX12_readTurner_268 fl12_336 (kR14 hS1454.1 ta1) d1464 ?_
                refine tr_iload dX12_readTurner_271 rfl ?_
                refine tr_iload dX12_readTurner_273 hl1397 ?_
                refine q_iast dX12_readTurner_275 (kR64 hS1454.1 ta1463) (ti_in (nR64 hS1454.1 ta1463) (by omega) (by omega)) hS1454 ta1463 (iokF rfl) rfl (by rfl) ?_
                intro I1465 hS1466 e1468 f1467
                have c1469 : I1465 a0 8 = v1406 := (f1467 _ _ (fun q => by have z := ta0; rw [q.1, ta1463] at z; exact absurd z (by decide))).trans c1457
                have c1470 : I1465 a1 4 = v1408 := (f1467 _ _ (fun q => by have z := ta1; rw [q.1, ta1463] at z; exact absurd z (by decide))).trans c1458
                have c1471 : I1465 a0 9 = v1423 := (f1467 _ _ (fun q => by have z := ta0; rw [q.1, ta1463] at z; exact absurd z (by decide))).trans c1459
                have w1472 : RdI a0 I0 I1465 := w1460.keep (f1467 _ _ (fun q => by have z := ta0; rw [q.1, ta1463] at z; exact absurd z (by decide))) (f1467 _ _ (fun q => by have z := ta0; rw [q.1, ta1463] at z; exact absurd z (by decide))) (f1467 _ _ (fun q => by have z := ta0; rw [q.1, ta1463] at z; exact absurd z (by decide))) (f1467 _ _ (fun q => by have z := ta0; rw [q.1, ta1463] at z; exact absurd z (by decide)))
                have w1473 : EwI a0 I1403 I1465 := w1461.keep (f1467 _ _ (fun q => by have z := ta0; rw [q.1, ta1463] at z; exact absurd z (by decide))) (f1467 _ _ (fun q => by have z := ta0; rw [q.1, ta1463] at z; exact absurd z (by decide))) (f1467 _ _ (fun q => by have z := ta0; rw [q.1, ta1463] at z; exact absurd z (by decide))) (f1467 _ _ (fun q => by have z := ta0; rw [q.1, ta1463] at z; exact absurd z (by decide)))
                have gd1474 := Gd.keep gd1462 (f1467 _ _ (fun q => by have z := ta0; rw [q.1, ta1463] at z; exact absurd z (by decide)))
                refine tr_aload_n dX12_readTurner_276 hl1394 ?_
                refine tr_getR dX12_readTurner_277 fl12_188 (kR15 hS1466.1 ta0) d2 ?_
                obtain ⟨a1475, d1476, ta1475⟩ := rf14_22 hW0 ta1
                refine tr_getR dX12_readTurner_280 fl12_339 (kR14 hS1466.1 ta1) d1476 ?_
                refine tr_iload dX12_readTurner_283 rfl ?_
                refine tr_iload dX12_readTurner_285 hl1398 ?_
                refine q_iast dX12_readTurner_287 (kR65 hS1466.1 ta1475) (ti_in (nR65 hS1466.1 ta1475) (by omega) (by omega)) hS1466 ta1475 (iokF rfl) rfl (by rfl) ?_
                intro I1477 hS1478 e1480 f1479
                have c1481 : I1477 a0 8 = v1406 := (f1479 _ _ (fun q => by have z := ta0; rw [q.1, ta1475] at z; exact absurd z (by decide))).trans c1469
                have c1482 : I1477 a1 4 = v1408 := (f1479 _ _ (fun q => by have z := ta1; rw [q.1, ta1475] at z; exact absurd z (by decide))).trans c1470
                have c1483 : I1477 a0 9 = v1423 := (f1479 _ _ (fun q => by have z := ta0; rw [q.1, ta1475] at z; exact absurd z (by decide))).trans c1471
                have w1484 : RdI a0 I0 I1477 := w1472.keep (f1479 _ _ (fun q => by have z := ta0; rw [q.1, ta1475] at z; exact absurd z (by decide))) (f1479 _ _ (fun q => by have z := ta0; rw [q.1, ta1475] at z; exact absurd z (by decide))) (f1479 _ _ (fun q => by have z := ta0; rw [q.1, ta1475] at z; exact absurd z (by decide))) (f1479 _ _ (fun q => by have z := ta0; rw [q.1, ta1475] at z; exact absurd z (by decide)))
                have w1485 : EwI a0 I1403 I1477 := w1473.keep (f1479 _ _ (fun q => by have z := ta0; rw [q.1, ta1475] at z; exact absurd z (by decide))) (f1479 _ _ (fun q => by have z := ta0; rw [q.1, ta1475] at z; exact absurd z (by decide))) (f1479 _ _ (fun q => by have z := ta0; rw [q.1, ta1475] at z; exact absurd z (by decide))) (f1479 _ _ (fun q => by have z := ta0; rw [q.1, ta1475] at z; exact absurd z (by decide)))
                have gd1486 := Gd.keep gd1474 (f1479 _ _ (fun q => by have z := ta0; rw [q.1, ta1475] at z; exact absurd z (by decide)))
                refine tr_aload_n dX12_readTurner_288 hl1394 ?_
                refine tr_getR dX12_readTurner_289 fl12_188 (kR15 hS1478.1 ta0) d2 ?_
                obtain ⟨a1487, d1488, ta1487⟩ := rf14_23 hW0 ta1
                refine tr_getR dX12_readTurner_292 fl12_342 (kR14 hS1478.1 ta1) d1488 ?_
                refine tr_iload dX12_readTurner_295 rfl ?_
                refine tr_iload dX12_readTurner_297 hl1399 ?_
                refine q_iast dX12_readTurner_299 (kR66 hS1478.1 ta1487) (ti_in (nR66 hS1478.1 ta1487) (by omega) (by omega)) hS1478 ta1487 (iokF rfl) rfl (by rfl) ?_
                intro I1489 hS1490 e1492 f1491
                have c1493 : I1489 a0 8 = v1406 := (f1491 _ _ (fun q => by have z := ta0; rw [q.1, ta1487] at z; exact absurd z (by decide))).trans c1481
                have c1494 : I1489 a1 4 = v1408 := (f1491 _ _ (fun q => by have z := ta1; rw [q.1, ta1487] at z; exact absurd z (by decide))).trans c1482
                have c1495 : I1489 a0 9 = v1423 := (f1491 _ _ (fun q => by have z := ta0; rw [q.1, ta1487] at z; exact absurd z (by decide))).trans c1483
                have w1496 : RdI a0 I0 I1489 := w1484.keep (f1491 _ _ (fun q => by have z := ta0; rw [q.1, ta1487] at z; exact absurd z (by decide))) (f1491 _ _ (fun q => by have z := ta0; rw [q.1, ta1487] at z; exact absurd z (by decide))) (f1491 _ _ (fun q => by have z := ta0; rw [q.1, ta1487] at z; exact absurd z (by decide))) (f1491 _ _ (fun q => by have z := ta0; rw [q.1, ta1487] at z; exact absurd z (by decide)))
                have w1497 : EwI a0 I1403 I1489 := w1485.keep (f1491 _ _ (fun q => by have z := ta0; rw [q.1, ta1487] at z; exact absurd z (by decide))) (f1491 _ _ (fun q => by have z := ta0; rw [q.1, ta1487] at z; exact absurd z (by decide))) (f1491 _ _ (fun q => by have z := ta0; rw [q.1, ta1487] at z; exact absurd z (by decide))) (f1491 _ _ (fun q => by have z := ta0; rw [q.1, ta1487] at z; exact absurd z (by decide)))
                have gd1498 := Gd.keep gd1486 (f1491 _ _ (fun q => by have z := ta0; rw [q.1, ta1487] at z; exact absurd z (by decide)))
                refine tr_aload_n dX12_readTurner_300 hl1394 ?_
                refine tr_getR dX12_readTurner_301 fl12_188 (kR15 hS1490.1 ta0) d2 ?_
                obtain ⟨a1499, d1500, ta1499⟩ := rf14_24 hW0 ta1
                refine tr_getR dX12_readTurner_304 fl12_344 (kR14 hS1490.1 ta1) d1500 ?_
                refine tr_iload dX12_readTurner_307 rfl ?_
                refine tr_iload dX12_readTurner_309 hl1400 ?_
                refine q_iast dX12_readTurner_311 (kR67 hS1490.1 ta1499) (ti_in (nR67 hS1490.1 ta1499) (by omega) (by omega)) hS1490 ta1499 (iokF rfl) rfl (by rfl) ?_
                intro I1501 hS1502 e1504 f1503
                have c1505 : I1501 a0 8 = v1406 := (f1503 _ _ (fun q => by have z := ta0; rw [q.1, ta1499] at z; exact absurd z (by decide))).trans c1493
                have c1506 : I1501 a1 4 = v1408 := (f1503 _ _ (fun q => by have z := ta1; rw [q.1, ta1499] at z; exact absurd z (by decide))).trans c1494
                have c1507 : I1501 a0 9 = v1423 := (f1503 _ _ (fun q => by have z := ta0; rw [q.1, ta1499] at z; exact absurd z (by decide))).trans c1495
                have w1508 : RdI a0 I0 I1501 := w1496.keep (f1503 _ _ (fun q => by have z := ta0; rw [q.1, ta1499] at z; exact absurd z (by decide))) (f1503 _ _ (fun q => by have z := ta0; rw [q.1, ta1499] at z; exact absurd z (by decide))) (f1503 _ _ (fun q => by have z := ta0; rw [q.1, ta1499] at z; exact absurd z (by decide))) (f1503 _ _ (fun q => by have z := ta0; rw [q.1, ta1499] at z; exact absurd z (by decide)))
                have w1509 : EwI a0 I1403 I1501 := w1497.keep (f1503 _ _ (fun q => by have z := ta0; rw [q.1, ta1499] at z; exact absurd z (by decide))) (f1503 _ _ (fun q => by have z := ta0; rw [q.1, ta1499] at z; exact absurd z (by decide))) (f1503 _ _ (fun q => by have z := ta0; rw [q.1, ta1499] at z; exact absurd z (by decide))) (f1503 _ _ (fun q => by have z := ta0; rw [q.1, ta1499] at z; exact absurd z (by decide)))
                have gd1510 := Gd.keep gd1498 (f1503 _ _ (fun q => by have z := ta0; rw [q.1, ta1499] at z; exact absurd z (by decide)))
                refine tr_aload_n dX12_readTurner_312 hl1394 ?_
                refine tr_getR dX12_readTurner_313 fl12_188 (kR15 hS1502.1 ta0) d2 ?_
                obtain ⟨a1511, d1512, ta1511⟩ := rf14_25 hW0 ta1
                refine tr_getR dX12_readTurner_316 fl12_346 (kR14 hS1502.1 ta1) d1512 ?_
                refine tr_iload dX12_readTurner_319 rfl ?_
                refine tr_iload dX12_readTurner_321 hl1401 ?_
                refine q_iast dX12_readTurner_323 (kR68 hS1502.1 ta1511) (ti_in (nR68 hS1502.1 ta1511) (by omega) (by omega)) hS1502 ta1511 (iokF rfl) rfl (by rfl) ?_
                intro I1513 hS1514 e1516 f1515
                have c1517 : I1513 a0 8 = v1406 := (f1515 _ _ (fun q => by have z := ta0; rw [q.1, ta1511] at z; exact absurd z (by decide))).trans c1505
                have c1518 : I1513 a1 4 = v1408 := (f1515 _ _ (fun q => by have z := ta1; rw [q.1, ta1511] at z; exact absurd z (by decide))).trans c1506
                have c1519 : I1513 a0 9 = v1423 := (f1515 _ _ (fun q => by have z := ta0; rw [q.1, ta1511] at z; exact absurd z (by decide))).trans c1507
                have w1520 : RdI a0 I0 I1513 := w1508.keep (f1515 _ _ (fun q => by have z := ta0; rw [q.1, ta1511] at z; exact absurd z (by decide))) (f1515 _ _ (fun q => by have z := ta0; rw [q.1, ta1511] at z; exact absurd z (by decide))) (f1515 _ _ (fun q => by have z := ta0; rw [q.1, ta1511] at z; exact absurd z (by decide))) (f1515 _ _ (fun q => by have z := ta0; rw [q.1, ta1511] at z; exact absurd z (by decide)))
                have w1521 : EwI a0 I1403 I1513 := w1509.keep (f1515 _ _ (fun q => by have z := ta0; rw [q.1, ta1511] at z; exact absurd z (by decide))) (f1515 _ _ (fun q => by have z := ta0; rw [q.1, ta1511] at z; exact absurd z (by decide))) (f1515 _ _ (fun q => by have z := ta0; rw [q.1, ta1511] at z; exact absurd z (by decide))) (f1515 _ _ (fun q => by have z := ta0; rw [q.1, ta1511] at z; exact absurd z (by decide)))
                have gd1522 := Gd.keep gd1510 (f1515 _ _ (fun q => by have z := ta0; rw [q.1, ta1511] at z; exact absurd z (by decide)))
                refine tr_aload_n dX12_readTurner_324 hl1394 ?_
                refine tr_getR dX12_readTurner_325 fl12_188 (kR15 hS1514.1 ta0) d2 ?_
                refine tr_dup dX12_readTurner_328 rfl ?_
                refine q_getI dX12_readTurner_329 fl12_315 (kR14 hS1514.1 ta1) c1518 ?_
                refine q_iconst dX12_readTurner_332 (by decide) ?_
                intro v1523 h1524
                refine q_iaddE dX12_readTurner_333 (by intros; omega) ?_
                intro v1525 h1526
                refine q_putX dX12_readTurner_334 fl12_315 (kR14 hS1514.1 ta1) (Or.inl rfl) hS1514 ta1 (by decide +kernel) (hS1514.1.putN (d' := 0) ta0 d2 (Or.inr (Or.inr rfl)) (by rw [c1518]; omega) (by decide) (by show (0 : Int) ≤ v1525.toInt ∧ v1525.toInt ≤ (5 : Int); omega)) ?_
                intro I1527 hS1528 e1529 f1530
                have c1531 : I1527 a0 8 = v1406 := (f1530 _ _ (fun q => absurd q.2 (by decide))).trans c1517
                have c1532 : I1527 a0 9 = v1423 := (f1530 _ _ (fun q => absurd q.2 (by decide))).trans c1519
                have w1533 : RdI a0 I0 I1527 := w1520.keep (f1530 _ _ (fun q => absurd q.2 (by decide))) (f1530 _ _ (fun q => absurd q.2 (by decide))) (f1530 _ _ (fun q => absurd q.2 (by decide))) (f1530 _ _ (fun q => absurd q.2 (by decide)))
                have w1534 : EwI a0 I1403 I1527 := w1521.keep (f1530 _ _ (fun q => absurd q.2 (by decide))) (f1530 _ _ (fun q => absurd q.2 (by decide))) (f1530 _ _ (fun q => absurd q.2 (by decide))) (f1530 _ _ (fun q => absurd q.2 (by decide)))
                have gd1535 := Gd.keep gd1522 (f1530 _ _ (fun q => absurd q.2 (by decide)))
                exact tr_vret hZ dX12_readTurner_337 rfl (by decide) (by decide) ⟨rfl, rfl, rfl, rfl, rfl, hS1528, w1533, trivial⟩
              · skip
                exact tr_vret hZ dX12_readTurner_235 rfl (by decide) (by decide) ⟨rfl, rfl, rfl, rfl, rfl, hS1405, w1410, trivial⟩
            · skip
              refine tr_aload_n dX12_readTurner_164 hl1394 ?_
              obtain ⟨v1536, c1537⟩ : ∃ v, I1403 a0 9 = v := ⟨_, rfl⟩
              have b1538 := iv15_9 hS1405.1 ta0 c1537
              refine q_getI dX12_readTurner_165 fl12_99 (kR15 hS1405.1 ta0) c1537 ?_
              refine q_iconst dX12_readTurner_168 (by decide) ?_
              intro v1539 h1540
              refine q_icmp_eq 227 dX12_readTurner_169 (by decide) (fun h1541 => ?_) (fun h1541 => ?_)
              · skip
                refine tr_aload_n dX12_readTurner_227 hl1394 ?_
                refine q_getI dX12_readTurner_228 fl12_99 (kR15 hS1405.1 ta0) c1537 ?_
                refine q_iconst dX12_readTurner_231 (by decide) ?_
                intro v1542 h1543
                refine q_icmp_ne 236 dX12_readTurner_232 (by decide) (fun h1544 => ?_) (fun h1544 => ?_)
                · skip
                  exfalso; omega
                · skip
                  exact tr_vret hZ dX12_readTurner_235 rfl (by decide) (by decide) ⟨rfl, rfl, rfl, rfl, rfl, hS1405, w1410, trivial⟩
              · skip
                have p1545 := gd1411 (by rw [c1537]; omega)
                refine tr_aload_n dX12_readTurner_172 hl1394 ?_
                refine q_iconst dX12_readTurner_173 (by decide) ?_
                intro v1546 h1547
                refine tr_aload_n dX12_readTurner_174 hl1394 ?_
                refine tr_getR dX12_readTurner_175 fl12_188 (kR15 hS1405.1 ta0) d2 ?_
                obtain ⟨v1548, c1549⟩ : ∃ v, I0 a1 1 = v := ⟨_, rfl⟩
                have b1550 := iv14_1 hW0 ta1 c1549
                refine q_getI dX12_readTurner_178 fl12_263 (kR14 hS1405.1 ta1) ((hS1405.cell ta1 (by decide +kernel)).trans c1549) ?_
                refine q_iconst dX12_readTurner_181 (by decide) ?_
                intro v1551 h1552
                refine q_isubE dX12_readTurner_182 (by intros; omega) ?_
                intro v1553 h1554
                refine q_callVi hE (M' := mX12_bounded) (as := [_, _]) dX12_readTurner_183 lk12_153 inX12_bounded seX12_bounded myX12_bounded (by decide) ⟨by decide, by decide⟩ rfl (kR15 hS1405.1 ta0) (Nat.le_of_ble_eq_true rfl) rfl rfl (by decide) (by decide) (k_X12_bounded hS1405.1 ta0) ?_
                rintro v1559 cn' K' N' I1555 R1556 L1557 ⟨rfl, rfl, rfl, rfl, rfl, g1558, p1560, p1561, w1562, -⟩
                have hS1563 := hS1405.tr g1558 (by decide +kernel) (by decide +kernel)
                have c1564 : I1555 a0 8 = v1406 := (g1558.cell ta0 (by decide +kernel)).trans c1407
                have c1565 : I1555 a1 4 = v1408 := (g1558.cell ta1 (by decide +kernel)).trans c1409
                have w1566 : RdI a0 I0 I1555 := w1410.ew w1562
                have w1567 : EwI a0 I1403 I1555 := (EwI.rf a0 I1403).ew w1562
                have gd1568 := Gd.go gd1411 w1562.stick
                have b1569 : 0 ≤ v1559.toInt ∧ v1559.toInt ≤ 3 := by omega
                clear p1560
                obtain ⟨v1570, c1571⟩ : ∃ v, I1555 a0 9 = v := ⟨_, rfl⟩
                have b1572 := iv15_9 hS1563.1 ta0 c1571
                have gd1573 : Gd (I1555 a0 9) ((v1546.toInt ≤ v1559.toInt ∧ v1559.toInt ≤ v1553.toInt)) := p1561
                clear p1561
                refine tr_istore dX12_readTurner_186 (by decide) (by decide) ?_
                refine tr_iload dX12_readTurner_188 hl1401 ?_
                refine tr_iload dX12_readTurner_190 rfl ?_
                refine q_callSi hE (M' := mX12_has) (as := [_, _]) dX12_readTurner_192 lk12_329 inX12_has myX12_has ⟨by decide, by decide⟩ rfl (Nat.le_of_ble_eq_true rfl) rfl rfl (by decide) (by decide) (k_X12_has hS1563.1 ) ?_
                rintro v1578 cn' K' N' I1574 R1575 L1576 ⟨rfl, rfl, rfl, rfl, rfl, rfl, h1579, -⟩
                refine q_if_eq 203 dX12_readTurner_195 (by decide) (fun h1580 => ?_) (fun h1580 => ?_)
                · skip
                  refine tr_aload_n dX12_readTurner_203 hl1394 ?_
                  obtain ⟨v1581, c1582⟩ : ∃ v, I1555 a0 13 = v := ⟨_, rfl⟩
                  refine q_callVv hE (M' := mX12_goesOn) (as := []) dX12_readTurner_204 lk12_142 inX12_goesOn seX12_goesOn myX12_goesOn (by decide) ⟨by decide, by decide⟩ rfl (kR15 hS1563.1 ta0) (Nat.le_of_ble_eq_true rfl) rfl rfl (by decide) (by decide) (k_X12_goesOn hS1563.1 ta0) ?_
                  rintro cn' K' N' I1583 R1584 L1585 ⟨rfl, rfl, rfl, rfl, g1586, p1588, p1589, p1590, w1591, -⟩
                  have hS1592 := hS1563.tr g1586 (by decide +kernel) (by decide +kernel)
                  have c1593 : I1583 a1 4 = v1408 := (g1586.cell ta1 (by decide +kernel)).trans c1565
                  have c1594 : I1583 a0 13 = v1581 := (g1586.cell ta0 (by decide +kernel)).trans c1582
                  have w1595 : RdI a0 I0 I1583 := w1566.rd w1591
                  have w1596 : RdI a0 I1403 I1583 := w1567.rd w1591
                  have gd1597 := Gd.go gd1568 w1591.stick
                  have gd1598 := Gd.go gd1573 w1591.stick
                  obtain ⟨v1599, c1600⟩ : ∃ v, I1583 a0 9 = v := ⟨_, rfl⟩
                  have b1601 := iv15_9 hS1592.1 ta0 c1600
                  rw [c1571] at p1588
                  rw [c1600] at p1588
                  rw [c1571] at p1589
                  rw [c1600] at p1589
                  obtain ⟨v1602, c1603⟩ : ∃ v, I1583 a0 8 = v := ⟨_, rfl⟩
                  have b1604 := iv15_8 hS1592.1 ta0 c1603
                  rw [c1603] at p1590
                  rw [c1564] at p1590
                  rw [c1594] at p1590
                  rw [c1582] at p1590
                  refine tr_iload dX12_readTurner_207 hl1401 ?_
                  refine q_iconst dX12_readTurner_209 (by decide) ?_
                  intro v1605 h1606
                  refine tr_iload dX12_readTurner_210 rfl ?_
                  refine q_ishlE dX12_readTurner_212 (by omega) (by omega) ?_
                  intro v1607 h1608
                  refine q_ior dX12_readTurner_213 ?_
                  intro v1609
                  refine tr_istore dX12_readTurner_214 (by decide) (by decide) ?_
                  refine tr_aload_n dX12_readTurner_216 hl1394 ?_
                  refine q_bipush dX12_readTurner_217 (by decide +kernel) ?_
                  intro v1610 h1611
                  have z1612 := w1596.2.2.1
                  (try rw [c1407] at z1612)
                  (try rw [c1603] at z1612)
                  (try rw [c1600] at z1612)
                  have z1613 := w1596.2.1
                  (try rw [c1407] at z1613)
                  (try rw [c1603] at z1613)
                  refine q_callVi hE (M' := mX12_eatsSign) (as := [_]) dX12_readTurner_219 lk12_221 inX12_eatsSign seX12_eatsSign myX12_eatsSign (by decide) ⟨by decide, by decide⟩ rfl (kR15 hS1592.1 ta0) (Nat.le_of_ble_eq_true rfl) rfl rfl (by decide) (by decide) (k_X12_eatsSign hS1592.1 ta0) ?_
                  rintro v1618 cn' K' N' I1614 R1615 L1616 ⟨rfl, rfl, rfl, rfl, g1617, h1619, p1620, p1621, w1622, -⟩
                  have hS1623 := hS1592.tr g1617 (by decide +kernel) (by decide +kernel)
                  have c1624 : I1614 a1 4 = v1408 := (g1617.cell ta1 (by decide +kernel)).trans c1593
                  have c1625 : I1614 a0 13 = v1581 := (g1617.cell ta0 (by decide +kernel)).trans c1594
                  have w1626 : RdI a0 I0 I1614 := w1595.ew w1622
                  have w1627 : RdI a0 I1403 I1614 := w1596.ew w1622
                  have gd1628 := Gd.go gd1597 w1622.stick
                  have gd1629 := Gd.go gd1598 w1622.stick
                  rw [c1600] at p1620
                  obtain ⟨v1630, c1631⟩ : ∃ v, I1614 a0 8 = v := ⟨_, rfl⟩
                  have b1632 := iv15_8 hS1623.1 ta0 c1631
                  rw [c1631] at p1621
                  rw [c1603] at p1621
                  refine tr_istore dX12_readTurner_222 (by decide) (by decide) ?_
                  refine tr_goto 159 dX12_readTurner_224 (by decide) ?_
                  exact ih1418 _ v1609 v1618 I1614 L1616 v1630 v1408 hl1394 hl1395 hl1396 hl1397 hl1398 hl1399 hl1400 rfl rfl hS1623 c1631 c1624 w1626 gd1628 (by omega) (by omega) (by omega) (by omega)
                · skip
                  refine tr_aload_n dX12_readTurner_198 hl1394 ?_
                  refine q_iconst dX12_readTurner_199 (by decide) ?_
                  intro v1633 h1634
                  refine q_callVv hE (M' := mX12_flaw) (as := [_]) dX12_readTurner_200 lk12_145 inX12_flaw seX12_flaw myX12_flaw (by decide) ⟨by decide, by decide⟩ rfl (kR15 hS1563.1 ta0) (Nat.le_of_ble_eq_true rfl) rfl rfl (by decide) (by decide) (k_X12_flaw hS1563.1 ta0 (by omega)) ?_
                  rintro cn' K' N' I1635 R1636 L1637 ⟨rfl, rfl, rfl, rfl, rfl, g1638, p1640, p1641, w1642, -⟩
                  have hS1643 := hS1563.tr g1638 (by decide +kernel) (by decide +kernel)
                  have c1644 : I1635 a0 8 = v1406 := (g1638.cell ta0 (by decide +kernel)).trans c1564
                  have c1645 : I1635 a1 4 = v1408 := (g1638.cell ta1 (by decide +kernel)).trans c1565
                  have w1646 : RdI a0 I0 I1635 := w1566.rd w1642
                  have w1647 : RdI a0 I1403 I1635 := w1567.rd w1642
                  have gd1648 := Gd.go gd1568 w1642.stick
                  have gd1649 := Gd.go gd1573 w1642.stick
                  obtain ⟨v1650, c1651⟩ : ∃ v, I1635 a0 9 = v := ⟨_, rfl⟩
                  have b1652 := iv15_9 hS1643.1 ta0 c1651
                  rw [c1651] at p1640
                  rw [c1644] at p1641
                  rw [c1564] at p1641
                  refine tr_aload_n dX12_readTurner_203 hl1394 ?_
                  obtain ⟨v1653, c1654⟩ : ∃ v, I1635 a0 13 = v := ⟨_, rfl⟩
                  refine q_callVv hE (M' := mX12_goesOn) (as := []) dX12_readTurner_204 lk12_142 inX12_goesOn seX12_goesOn myX12_goesOn (by decide) ⟨by decide, by decide⟩ rfl (kR15 hS1643.1 ta0) (Nat.le_of_ble_eq_true rfl) rfl rfl (by decide) (by decide) (k_X12_goesOn hS1643.1 ta0) ?_
                  rintro cn' K' N' I1655 R1656 L1657 ⟨rfl, rfl, rfl, rfl, g1658, p1660, p1661, p1662, w1663, -⟩
                  have hS1664 := hS1643.tr g1658 (by decide +kernel) (by decide +kernel)
                  have c1665 : I1655 a1 4 = v1408 := (g1658.cell ta1 (by decide +kernel)).trans c1645
                  have c1666 : I1655 a0 13 = v1653 := (g1658.cell ta0 (by decide +kernel)).trans c1654
                  have w1667 : RdI a0 I0 I1655 := w1646.rd w1663
                  have w1668 : RdI a0 I1403 I1655 := w1647.rd w1663
                  have gd1669 := Gd.go gd1648 w1663.stick
                  have gd1670 := Gd.go gd1649 w1663.stick
                  obtain ⟨v1671, c1672⟩ : ∃ v, I1655 a0 9 = v := ⟨_, rfl⟩
                  have b1673 := iv15_9 hS1664.1 ta0 c1672
                  rw [c1651] at p1660
                  rw [c1672] at p1660
                  rw [c1651] at p1661
                  rw [c1672] at p1661
                  obtain ⟨v1674, c1675⟩ : ∃ v, I1655 a0 8 = v := ⟨_, rfl⟩
                  have b1676 := iv15_8 hS1664.1 ta0 c1675
                  rw [c1675] at p1662
                  rw [c1644] at p1662
                  rw [c1666] at p1662
                  rw [c1654] at p1662
                  refine tr_iload dX12_readTurner_207 hl1401 ?_
                  refine q_iconst dX12_readTurner_209 (by decide) ?_
                  intro v1677 h1678
                  refine tr_iload dX12_readTurner_210 rfl ?_
                  refine q_ishlE dX12_readTurner_212 (by omega) (by omega) ?_
                  intro v1679 h1680
                  refine q_ior dX12_readTurner_213 ?_
                  intro v1681
                  refine tr_istore dX12_readTurner_214 (by decide) (by decide) ?_
                  refine tr_aload_n dX12_readTurner_216 hl1394 ?_
                  refine q_bipush dX12_readTurner_217 (by decide +kernel) ?_
                  intro v1682 h1683
                  have z1684 := w1668.2.2.1
                  (try rw [c1407] at z1684)
                  (try rw [c1675] at z1684)
                  (try rw [c1672] at z1684)
                  have z1685 := w1668.2.1
                  (try rw [c1407] at z1685)
                  (try rw [c1675] at z1685)
                  refine q_callVi hE (M' := mX12_eatsSign) (as := [_]) dX12_readTurner_219 lk12_221 inX12_eatsSign seX12_eatsSign myX12_eatsSign (by decide) ⟨by decide, by decide⟩ rfl (kR15 hS1664.1 ta0) (Nat.le_of_ble_eq_true rfl) rfl rfl (by decide) (by decide) (k_X12_eatsSign hS1664.1 ta0) ?_
                  rintro v1690 cn' K' N' I1686 R1687 L1688 ⟨rfl, rfl, rfl, rfl, g1689, h1691, p1692, p1693, w1694, -⟩
                  have hS1695 := hS1664.tr g1689 (by decide +kernel) (by decide +kernel)
                  have c1696 : I1686 a1 4 = v1408 := (g1689.cell ta1 (by decide +kernel)).trans c1665
                  have c1697 : I1686 a0 13 = v1653 := (g1689.cell ta0 (by decide +kernel)).trans c1666
                  have w1698 : RdI a0 I0 I1686 := w1667.ew w1694
                  have w1699 : RdI a0 I1403 I1686 := w1668.ew w1694
                  have gd1700 := Gd.go gd1669 w1694.stick
                  have gd1701 := Gd.go gd1670 w1694.stick
                  rw [c1672] at p1692
                  obtain ⟨v1702, c1703⟩ : ∃ v, I1686 a0 8 = v := ⟨_, rfl⟩
                  have b1704 := iv15_8 hS1695.1 ta0 c1703
                  rw [c1703] at p1693
                  rw [c1675] at p1693
                  refine tr_istore dX12_readTurner_222 (by decide) (by decide) ?_
                  refine tr_goto 159 dX12_readTurner_224 (by decide) ?_
                  exact ih1418 _ v1681 v1690 I1686 L1688 v1702 v1408 hl1394 hl1395 hl1396 hl1397 hl1398 hl1399 hl1400 rfl rfl hS1695 c1703 c1696 w1698 gd1700 (by omega) (by omega) (by omega) (by omega)
        exact lp1418 _ _ v1388 v1390 I1378 L1380 v1412 v3 rfl rfl rfl rfl rfl rfl rfl rfl rfl hS1384 c1413 c1385 w1386 gd1387 (by omega) (by omega) (by omega) (Nat.lt_succ_self _)
      · skip
        exfalso; omega
  · skip
    refine q_iconst dX12_readTurner_27 (by decide) ?_
    intro v1705 h1706
    refine tr_goto 73 dX12_readTurner_28 (by decide) ?_
    refine tr_istore_n dX12_readTurner_73 (by decide) (by decide) ?_
    refine tr_iload_n dX12_readTurner_74 rfl ?_
    refine q_iconst dX12_readTurner_75 (by decide) ?_
    intro v1707 h1708
    refine q_icmp_ne 84 dX12_readTurner_76 (by decide) (fun h1709 => ?_) (fun h1709 => ?_)
    · skip
      refine tr_aload_n dX12_readTurner_84 rfl ?_
      refine tr_ldcwS dX12_readTurner_85 ld12_324 ?_
      refine q_iconst dX12_readTurner_88 (by decide) ?_
      intro v1710 h1711
      refine tr_aload_n dX12_readTurner_89 rfl ?_
      refine tr_getR dX12_readTurner_90 fl12_188 (kR15 hS39.1 ta0) d2 ?_
      obtain ⟨v1712, c1713⟩ : ∃ v, I0 a1 0 = v := ⟨_, rfl⟩
      have b1714 := iv14_0 hW0 ta1 c1713
      refine q_getI dX12_readTurner_93 fl12_192 (kR14 hS39.1 ta1) ((hS39.cell ta1 (by decide +kernel)).trans c1713) ?_
      refine q_iconst dX12_readTurner_96 (by decide) ?_
      intro v1715 h1716
      refine q_isubE dX12_readTurner_97 (by intros; omega) ?_
      intro v1717 h1718
      refine q_callVi hE (M' := mX12_readPart) (as := [_, _, _]) dX12_readTurner_98 lk12_249 inX12_readPart seX12_readPart myX12_readPart (by decide) ⟨by decide, by decide⟩ rfl (kR15 hS39.1 ta0) (Nat.le_of_ble_eq_true rfl) rfl rfl (by decide) (by decide) (k_X12_readPart hS39.1 ta0 (by decide)) ?_
      rintro v1723 cn' K' N' I1719 R1720 L1721 ⟨rfl, rfl, rfl, rfl, g1722, p1724, w1725, -⟩
      have hS1726 := hS39.tr g1722 (by decide +kernel) (by decide +kernel)
      have c1727 : I1719 a1 4 = v3 := (g1722.cell ta1 (by decide +kernel)).trans c40
      have w1728 : RdI a0 I0 I1719 := w41.rd w1725
      have gd1729 := Gd.go gd42 w1725.stick
      have b1730 : 0 ≤ v1723.toInt ∧ v1723.toInt ≤ 239 := by omega
      clear p1724
      refine tr_istore dX12_readTurner_101 (by decide) (by decide) ?_
      refine tr_aload_n dX12_readTurner_103 rfl ?_
      refine tr_ldcwS dX12_readTurner_104 ld12_272 ?_
      refine tr_iload dX12_readTurner_107 rfl ?_
      refine q_iconst dX12_readTurner_109 (by decide) ?_
      intro v1731 h1732
      refine q_iaddE dX12_readTurner_110 (by intros; omega) ?_
      intro v1733 h1734
      refine tr_aload_n dX12_readTurner_111 rfl ?_
      refine tr_getR dX12_readTurner_112 fl12_188 (kR15 hS1726.1 ta0) d2 ?_
      refine q_getI dX12_readTurner_115 fl12_192 (kR14 hS1726.1 ta1) ((hS1726.cell ta1 (by decide +kernel)).trans c1713) ?_
      refine q_callVi hE (M' := mX12_readPart) (as := [_, _, _]) dX12_readTurner_118 lk12_249 inX12_readPart seX12_readPart myX12_readPart (by decide) ⟨by decide, by decide⟩ rfl (kR15 hS1726.1 ta0) (Nat.le_of_ble_eq_true rfl) rfl rfl (by decide) (by decide) (k_X12_readPart hS1726.1 ta0 (by decide)) ?_
      rintro v1739 cn' K' N' I1735 R1736 L1737 ⟨rfl, rfl, rfl, rfl, g1738, p1740, w1741, -⟩
      have hS1742 := hS1726.tr g1738 (by decide +kernel) (by decide +kernel)
      have c1743 : I1735 a1 4 = v3 := (g1738.cell ta1 (by decide +kernel)).trans c1727
      have w1744 : RdI a0 I0 I1735 := w1728.rd w1741
      have gd1745 := Gd.go gd1729 w1741.stick
      have b1746 : 1 ≤ v1739.toInt ∧ v1739.toInt ≤ 240 := by omega
      clear p1740
      refine tr_istore dX12_readTurner_121 (by decide) (by decide) ?_
      refine tr_aload_n dX12_readTurner_123 rfl ?_
      refine tr_ldcwS dX12_readTurner_124 ld12_325 ?_
      refine q_iconst dX12_readTurner_127 (by decide) ?_
      intro v1747 h1748
      refine q_bipush dX12_readTurner_128 (by decide +kernel) ?_
      intro v1749 h1750
      refine q_callVi hE (M' := mX12_readPart) (as := [_, _, _]) dX12_readTurner_130 lk12_249 inX12_readPart seX12_readPart myX12_readPart (by decide) ⟨by decide, by decide⟩ rfl (kR15 hS1742.1 ta0) (Nat.le_of_ble_eq_true rfl) rfl rfl (by decide) (by decide) (k_X12_readPart hS1742.1 ta0 (by decide)) ?_
      rintro v1755 cn' K' N' I1751 R1752 L1753 ⟨rfl, rfl, rfl, rfl, g1754, p1756, w1757, -⟩
      have hS1758 := hS1742.tr g1754 (by decide +kernel) (by decide +kernel)
      have c1759 : I1751 a1 4 = v3 := (g1754.cell ta1 (by decide +kernel)).trans c1743
      have w1760 : RdI a0 I0 I1751 := w1744.rd w1757
      have gd1761 := Gd.go gd1745 w1757.stick
      have b1762 : 1 ≤ v1755.toInt ∧ v1755.toInt ≤ 8 := by omega
      clear p1756
      refine tr_istore dX12_readTurner_133 (by decide) (by decide) ?_
      refine tr_aload_n dX12_readTurner_135 rfl ?_
      refine tr_ldcwS dX12_readTurner_136 ld12_327 ?_
      refine q_iconst dX12_readTurner_139 (by decide) ?_
      intro v1763 h1764
      refine q_bipush dX12_readTurner_140 (by decide +kernel) ?_
      intro v1765 h1766
      refine q_callVi hE (M' := mX12_readPart) (as := [_, _, _]) dX12_readTurner_142 lk12_249 inX12_readPart seX12_readPart myX12_readPart (by decide) ⟨by decide, by decide⟩ rfl (kR15 hS1758.1 ta0) (Nat.le_of_ble_eq_true rfl) rfl rfl (by decide) (by decide) (k_X12_readPart hS1758.1 ta0 (by decide)) ?_
      rintro v1771 cn' K' N' I1767 R1768 L1769 ⟨rfl, rfl, rfl, rfl, g1770, p1772, w1773, -⟩
      have hS1774 := hS1758.tr g1770 (by decide +kernel) (by decide +kernel)
      have c1775 : I1767 a1 4 = v3 := (g1770.cell ta1 (by decide +kernel)).trans c1759
      have w1776 : RdI a0 I0 I1767 := w1760.rd w1773
      have gd1777 := Gd.go gd1761 w1773.stick
      have b1778 : 1 ≤ v1771.toInt ∧ v1771.toInt ≤ 20 := by omega
      clear p1772
      refine tr_istore dX12_readTurner_145 (by decide) (by decide) ?_
      refine tr_aload_n dX12_readTurner_147 rfl ?_
      refine tr_ldcS dX12_readTurner_148 ld12_253 ?_
      refine q_callVv hE (M' := mX12_needs) (as := [_]) dX12_readTurner_150 lk12_157 inX12_needs seX12_needs myX12_needs (by decide) ⟨by decide, by decide⟩ rfl (kR15 hS1774.1 ta0) (Nat.le_of_ble_eq_true rfl) rfl rfl (by decide) (by decide) (k_X12_needs hS1774.1 ta0 (by decide)) ?_
      rintro cn' K' N' I1779 R1780 L1781 ⟨rfl, rfl, rfl, rfl, g1782, w1784, -⟩
      have hS1785 := hS1774.tr g1782 (by decide +kernel) (by decide +kernel)
      have c1786 : I1779 a1 4 = v3 := (g1782.cell ta1 (by decide +kernel)).trans c1775
      have w1787 : RdI a0 I0 I1779 := w1776.rd w1784
      have gd1788 := Gd.go gd1777 w1784.stick
      refine q_iconst dX12_readTurner_153 (by decide) ?_
      intro v1789 h1790
      refine tr_istore dX12_readTurner_154 (by decide) (by decide) ?_
      refine q_iconst dX12_readTurner_156 (by decide) ?_
      intro v1791 h1792
      refine tr_istore dX12_readTurner_157 (by decide) (by decide) ?_
      obtain ⟨v1813, c1814⟩ : ∃ v, I1779 a0 8 = v := ⟨_, rfl⟩
      have b1815 := iv15_8 hS1785.1 ta0 c1814
      have lp1819 : ∀ (fu : Nat) (ls : Nat → Option Value) (v1793 : Int32) (v1794 : Int32) (I1804 : cz_I) (L1805 : cz_L) (v1807 : Int32) (v1809 : Int32), ls 0 = some (.ref a0) → ls 1 = some (.long y26) → ls 3 = some (.int v1705) → ls 4 = some (.int v1723) → ls 5 = some (.int v1739) → ls 6 = some (.int v1755) → ls 7 = some (.int v1771) → ls 8 = some (.int v1793) → ls 9 = some (.int v1794) → St T cn K N 0 wi_X12_readTurner wr_X12_readTurner I0 R0 I1804 R0 → I1804 a0 8 = v1807 → I1804 a1 4 = v1809 → RdI a0 I0 I1804 → Gd (I1804 a0 9) (v3.toInt ≠ v6.toInt) → 0 ≤ v1794.toInt → v1794.toInt ≤ 1 → v1809.toInt = v3.toInt → (-v1807.toInt + v1794.toInt + 900).toNat < fu → Tr X mX12_readTurner 159 ls [] cn K N I1804 R0 L1805 0 0 := by
        intro fu
        induction fu with
        | zero => intros; rename_i hz; exact absurd hz (Nat.not_lt_zero _)
        | succ fu ih1819 =>
          intro ls v1793 v1794 I1804 L1805 v1807 v1809 hl1795 hl1796 hl1797 hl1798 hl1799 hl1800 hl1801 hl1802 hl1803 hS1806 c1808 c1810 w1811 gd1812 g1816 g1817 g1818 hm1819
          have b1821 := iv15_8 hS1806.1 ta0 c1808
          have b1822 := iv14_4 hS1806.1 ta1 c1810
          refine tr_iload dX12_readTurner_159 hl1803 ?_
          refine q_if_eq 227 dX12_readTurner_161 (by decide) (fun h1823 => ?_) (fun h1823 => ?_)
          · skip
            refine tr_aload_n dX12_readTurner_227 hl1795 ?_
            obtain ⟨v1824, c1825⟩ : ∃ v, I1804 a0 9 = v := ⟨_, rfl⟩
            have b1826 := iv15_9 hS1806.1 ta0 c1825
            refine q_getI dX12_readTurner_228 fl12_99 (kR15 hS1806.1 ta0) c1825 ?_
            refine q_iconst dX12_readTurner_231 (by decide) ?_
            intro v1827 h1828
            refine q_icmp_ne 236 dX12_readTurner_232 (by decide) (fun h1829 => ?_) (fun h1829 => ?_)
            · skip
              have p1830 := gd1812 (by rw [c1825]; omega)
              refine tr_aload_n dX12_readTurner_236 hl1795 ?_
              refine tr_getR dX12_readTurner_237 fl12_188 (kR15 hS1806.1 ta0) d2 ?_
              refine q_getI dX12_readTurner_240 fl12_315 (kR14 hS1806.1 ta1) c1810 ?_
              refine tr_istore dX12_readTurner_243 (by decide) (by decide) ?_
              refine tr_aload_n dX12_readTurner_245 hl1795 ?_
              refine tr_lload_n dX12_readTurner_246 hl1796 ?_
              refine q_iconst dX12_readTurner_247 (by decide) ?_
              intro v1831 h1832
              refine tr_iload dX12_readTurner_248 rfl ?_
              obtain ⟨v1834, c1835⟩ : ∃ v, I1804 a1 7 = v := ⟨_, rfl⟩
              have b1836 := iv14_7 hS1806.1 ta1 c1835
              obtain ⟨v1837, c1838⟩ : ∃ v, I0 a1 3 = v := ⟨_, rfl⟩
              have b1839 := iv14_3 hW0 ta1 c1838
              have p1833 := hS1806.1.2.2.2.2.1 a0 ta0 _ d2
              rw [c1835, ((hS1806.cell ta1 (by decide +kernel)).trans c1838), c1810] at p1833
              refine q_callVv hE (M' := mX12_names) (as := [_, _, _]) dX12_readTurner_250 lk12_293 inX12_names seX12_names myX12_names (by decide) ⟨by decide, by decide⟩ rfl (kR15 hS1806.1 ta0) (Nat.le_of_ble_eq_true rfl) rfl rfl (by decide) (by decide) (k_X12_names hS1806.1 ta0 (fun q0 z0 => by obtain rfl := Option.some.inj ((d2).symm.trans z0); (try rw [c1835]); (try omega)) ⟨_, d2⟩) ?_
              rintro cn' K' N' I1840 R1841 L1842 ⟨rfl, rfl, rfl, rfl, g1843, -⟩
              have hS1845 := hS1806.tr g1843 (by decide +kernel) (by decide +kernel)
              have c1846 : I1840 a0 8 = v1807 := (g1843.cell ta0 (by decide +kernel)).trans c1808
              have c1847 : I1840 a1 4 = v1809 := (g1843.cell ta1 (by decide +kernel)).trans c1810
              have c1848 : I1840 a0 9 = v1824 := (g1843.cell ta0 (by decide +kernel)).trans c1825
              have w1849 : RdI a0 I0 I1840 := w1811.keep (g1843.cell ta0 (by decide +kernel)) (g1843.cell ta0 (by decide +kernel)) (g1843.cell ta0 (by decide +kernel)) (g1843.cell ta0 (by decide +kernel))
              have w1850 : EwI a0 I1804 I1840 := (EwI.rf a0 I1804).keep (g1843.cell ta0 (by decide +kernel)) (g1843.cell ta0 (by decide +kernel)) (g1843.cell ta0 (by decide +kernel)) (g1843.cell ta0 (by decide +kernel))
              have gd1851 := Gd.keep gd1812 (g1843.cell ta0 (by decide +kernel))
              refine tr_aload_n dX12_readTurner_253 hl1795 ?_
              refine tr_getR dX12_readTurner_254 fl12_188 (kR15 hS1845.1 ta0) d2 ?_
              obtain ⟨a1852, d1853, ta1852⟩ := rf14_20 hW0 ta1
              refine tr_getR dX12_readTurner_257 fl12_333 (kR14 hS1845.1 ta1) d1853 ?_
              refine tr_iload dX12_readTurner_260 rfl ?_
              refine tr_iload_n dX12_readTurner_262 hl1797 ?_
              refine q_iast dX12_readTurner_263 (kR63 hS1845.1 ta1852) (ti_in (nR63 hS1845.1 ta1852) (by omega) (by omega)) hS1845 ta1852 (iokF rfl) rfl (by rfl) ?_
              intro I1854 hS1855 e1857 f1856
              have c1858 : I1854 a0 8 = v1807 := (f1856 _ _ (fun q => by have z := ta0; rw [q.1, ta1852] at z; exact absurd z (by decide))).trans c1846
              have c1859 : I1854 a1 4 = v1809 := (f1856 _ _ (fun q => by have z := ta1; rw [q.1, ta1852] at z; exact absurd z (by decide))).trans c1847
              have c1860 : I1854 a0 9 = v1824 := (f1856 _ _ (fun q => by have z := ta0; rw [q.1, ta1852] at z; exact absurd z (by decide))).trans c1848
              have w1861 : RdI a0 I0 I1854 := w1849.keep (f1856 _ _ (fun q => by have z := ta0; rw [q.1, ta1852] at z; exact absurd z (by decide))) (f1856 _ _ (fun q => by have z := ta0; rw [q.1, ta1852] at z; exact absurd z (by decide))) (f1856 _ _ (fun q => by have z := ta0; rw [q.1, ta1852] at z; exact absurd z (by decide))) (f1856 _ _ (fun q => by have z := ta0; rw [q.1, ta1852] at z; exact absurd z (by decide)))
              have w1862 : EwI a0 I1804 I1854 := w1850.keep (f1856 _ _ (fun q => by have z := ta0; rw [q.1, ta1852] at z; exact absurd z (by decide))) (f1856 _ _ (fun q => by have z := ta0; rw [q.1, ta1852] at z; exact absurd z (by decide))) (f1856 _ _ (fun q => by have z := ta0; rw [q.1, ta1852] at z; exact absurd z (by decide))) (f1856 _ _ (fun q => by have z := ta0; rw [q.1, ta1852] at z; exact absurd z (by decide)))
              have gd1863 := Gd.keep gd1851 (f1856 _ _ (fun q => by have z := ta0; rw [q.1, ta1852] at z; exact absurd z (by decide)))
              refine tr_aload_n dX12_readTurner_264 hl1795 ?_
              refine tr_getR dX12_readTurner_265 fl12_188 (kR15 hS1855.1 ta0) d2 ?_
              obtain ⟨a1864, d1865, ta1864⟩ := rf14_21 hW0 ta1
              refine tr_getR dX12_readTurner_268 fl12_336 (kR14 hS1855.1 ta1) d1865 ?_
              refine tr_iload dX12_readTurner_271 rfl ?_
              refine tr_iload dX12_readTurner_273 hl1798 ?_
              refine q_iast dX12_readTurner_275 (kR64 hS1855.1 ta1864) (ti_in (nR64 hS1855.1 ta1864) (by omega) (by omega)) hS1855 ta1864 (iokF rfl) rfl (by rfl) ?_
              intro I1866 hS1867 e1869 f1868
              have c1870 : I1866 a0 8 = v1807 := (f1868 _ _ (fun q => by have z := ta0; rw [q.1, ta1864] at z; exact absurd z (by decide))).trans c1858
              have c1871 : I1866 a1 4 = v1809 := (f1868 _ _ (fun q => by have z := ta1; rw [q.1, ta1864] at z; exact absurd z (by decide))).trans c1859
              have c1872 : I1866 a0 9 = v1824 := (f1868 _ _ (fun q => by have z := ta0; rw [q.1, ta1864] at z; exact absurd z (by decide))).trans c1860
              have w1873 : RdI a0 I0 I1866 := w1861.keep (f1868 _ _ (fun q => by have z := ta0; rw [q.1, ta1864] at z; exact absurd z (by decide))) (f1868 _ _ (fun q => by have z := ta0; rw [q.1, ta1864] at z; exact absurd z (by decide))) (f1868 _ _ (fun q => by have z := ta0; rw [q.1, ta1864] at z; exact absurd z (by decide))) (f1868 _ _ (fun q => by have z := ta0; rw [q.1, ta1864] at z; exact absurd z (by decide)))
              have w1874 : EwI a0 I1804 I1866 := w1862.keep (f1868 _ _ (fun q => by have z := ta0; rw [q.1, ta1864] at z; exact absurd z (by decide))) (f1868 _ _ (fun q => by have z := ta0; rw [q.1, ta1864] at z; exact absurd z (by decide))) (f1868 _ _ (fun q => by have z := ta0; rw [q.1, ta1864] at z; exact absurd z (by decide))) (f1868 _ _ (fun q => by have z := ta0; rw [q.1, ta1864] at z; exact absurd z (by decide)))
              have gd1875 := Gd.keep gd1863 (f1868 _ _ (fun q => by have z := ta0; rw [q.1, ta1864] at z; exact absurd z (by decide)))
              refine tr_aload_n dX12_readTurner_276 hl1795 ?_
              refine tr_getR dX12_readTurner_277 fl12_188 (kR15 hS1867.1 ta0) d2 ?_
              obtain ⟨a1876, d1877, ta1876⟩ := rf14_22 hW0 ta1
              refine tr_getR dX12_readTurner_280 fl12_339 (kR14 hS1867.1 ta1) d1877 ?_
              refine tr_iload dX12_readTurner_283 rfl ?_
              refine tr_iload dX12_readTurner_285 hl1799 ?_
              refine q_iast dX12_readTurner_287 (kR65 hS1867.1 ta1876) (ti_in (nR65 hS1867.1 ta1876) (by omega) (by omega)) hS1867 ta1876 (iokF rfl) rfl (by rfl) ?_
              intro I1878 hS1879 e1881 f1880
              have c1882 : I1878 a0 8 = v1807 := (f1880 _ _ (fun q => by have z := ta0; rw [q.1, ta1876] at z; exact absurd z (by decide))).trans c1870
              have c1883 : I1878 a1 4 = v1809 := (f1880 _ _ (fun q => by have z := ta1; rw [q.1, ta1876] at z; exact absurd z (by decide))).trans c1871
              have c1884 : I1878 a0 9 = v1824 := (f1880 _ _ (fun q => by have z := ta0; rw [q.1, ta1876] at z; exact absurd z (by decide))).trans c1872
              have w1885 : RdI a0 I0 I1878 := w1873.keep (f1880 _ _ (fun q => by have z := ta0; rw [q.1, ta1876] at z; exact absurd z (by decide))) (f1880 _ _ (fun q => by have z := ta0; rw [q.1, ta1876] at z; exact absurd z (by decide))) (f1880 _ _ (fun q => by have z := ta0; rw [q.1, ta1876] at z; exact absurd z (by decide))) (f1880 _ _ (fun q => by have z := ta0; rw [q.1, ta1876] at z; exact absurd z (by decide)))
              have w1886 : EwI a0 I1804 I1878 := w1874.keep (f1880 _ _ (fun q => by have z := ta0; rw [q.1, ta1876] at z; exact absurd z (by decide))) (f1880 _ _ (fun q => by have z := ta0; rw [q.1, ta1876] at z; exact absurd z (by decide))) (f1880 _ _ (fun q => by have z := ta0; rw [q.1, ta1876] at z; exact absurd z (by decide))) (f1880 _ _ (fun q => by have z := ta0; rw [q.1, ta1876] at z; exact absurd z (by decide)))
              have gd1887 := Gd.keep gd1875 (f1880 _ _ (fun q => by have z := ta0; rw [q.1, ta1876] at z; exact absurd z (by decide)))
              refine tr_aload_n dX12_readTurner_288 hl1795 ?_
              refine tr_getR dX12_readTurner_289 fl12_188 (kR15 hS1879.1 ta0) d2 ?_
              obtain ⟨a1888, d1889, ta1888⟩ := rf14_23 hW0 ta1
              refine tr_getR dX12_readTurner_292 fl12_342 (kR14 hS1879.1 ta1) d1889 ?_
              refine tr_iload dX12_readTurner_295 rfl ?_
              refine tr_iload dX12_readTurner_297 hl1800 ?_
              refine q_iast dX12_readTurner_299 (kR66 hS1879.1 ta1888) (ti_in (nR66 hS1879.1 ta1888) (by omega) (by omega)) hS1879 ta1888 (iokF rfl) rfl (by rfl) ?_
              intro I1890 hS1891 e1893 f1892
              have c1894 : I1890 a0 8 = v1807 := (f1892 _ _ (fun q => by have z := ta0; rw [q.1, ta1888] at z; exact absurd z (by decide))).trans c1882
              have c1895 : I1890 a1 4 = v1809 := (f1892 _ _ (fun q => by have z := ta1; rw [q.1, ta1888] at z; exact absurd z (by decide))).trans c1883
              have c1896 : I1890 a0 9 = v1824 := (f1892 _ _ (fun q => by have z := ta0; rw [q.1, ta1888] at z; exact absurd z (by decide))).trans c1884
              have w1897 : RdI a0 I0 I1890 := w1885.keep (f1892 _ _ (fun q => by have z := ta0; rw [q.1, ta1888] at z; exact absurd z (by decide))) (f1892 _ _ (fun q => by have z := ta0; rw [q.1, ta1888] at z; exact absurd z (by decide))) (f1892 _ _ (fun q => by have z := ta0; rw [q.1, ta1888] at z; exact absurd z (by decide))) (f1892 _ _ (fun q => by have z := ta0; rw [q.1, ta1888] at z; exact absurd z (by decide)))
              have w1898 : EwI a0 I1804 I1890 := w1886.keep (f1892 _ _ (fun q => by have z := ta0; rw [q.1, ta1888] at z; exact absurd z (by decide))) (f1892 _ _ (fun q => by have z := ta0; rw [q.1, ta1888] at z; exact absurd z (by decide))) (f1892 _ _ (fun q => by have z := ta0; rw [q.1, ta1888] at z; exact absurd z (by decide))) (f1892 _ _ (fun q => by have z := ta0; rw [q.1, ta1888] at z; exact absurd z (by decide)))
              have gd1899 := Gd.keep gd1887 (f1892 _ _ (fun q => by have z := ta0; rw [q.1, ta1888] at z; exact absurd z (by decide)))
              refine tr_aload_n dX12_readTurner_300 hl1795 ?_
              refine tr_getR dX12_readTurner_301 fl12_188 (kR15 hS1891.1 ta0) d2 ?_
              obtain ⟨a1900, d1901, ta1900⟩ := rf14_24 hW0 ta1
              refine tr_getR dX12_readTurner_304 fl12_344 (kR14 hS1891.1 ta1) d1901 ?_
              refine tr_iload dX12_readTurner_307 rfl ?_
              refine tr_iload dX12_readTurner_309 hl1801 ?_
              refine q_iast dX12_readTurner_311 (kR67 hS1891.1 ta1900) (ti_in (nR67 hS1891.1 ta1900) (by omega) (by omega)) hS1891 ta1900 (iokF rfl) rfl (by rfl) ?_
              intro I1902 hS1903 e1905 f1904
              have c1906 : I1902 a0 8 = v1807 := (f1904 _ _ (fun q => by have z := ta0; rw [q.1, ta1900] at z; exact absurd z (by decide))).trans c1894
              have c1907 : I1902 a1 4 = v1809 := (f1904 _ _ (fun q => by have z := ta1; rw [q.1, ta1900] at z; exact absurd z (by decide))).trans c1895
              have c1908 : I1902 a0 9 = v1824 := (f1904 _ _ (fun q => by have z := ta0; rw [q.1, ta1900] at z; exact absurd z (by decide))).trans c1896
              have w1909 : RdI a0 I0 I1902 := w1897.keep (f1904 _ _ (fun q => by have z := ta0; rw [q.1, ta1900] at z; exact absurd z (by decide))) (f1904 _ _ (fun q => by have z := ta0; rw [q.1, ta1900] at z; exact absurd z (by decide))) (f1904 _ _ (fun q => by have z := ta0; rw [q.1, ta1900] at z; exact absurd z (by decide))) (f1904 _ _ (fun q => by have z := ta0; rw [q.1, ta1900] at z; exact absurd z (by decide)))
              have w1910 : EwI a0 I1804 I1902 := w1898.keep (f1904 _ _ (fun q => by have z := ta0; rw [q.1, ta1900] at z; exact absurd z (by decide))) (f1904 _ _ (fun q => by have z := ta0; rw [q.1, ta1900] at z; exact absurd z (by decide))) (f1904 _ _ (fun q => by have z := ta0; rw [q.1, ta1900] at z; exact absurd z (by decide))) (f1904 _ _ (fun q => by have z := ta0; rw [q.1, ta1900] at z; exact absurd z (by decide)))
              have gd1911 := Gd.keep gd1899 (f1904 _ _ (fun q => by have z := ta0; rw [q.1, ta1900] at z; exact absurd z (by decide)))
              refine tr_aload_n dX12_readTurner_312 hl1795 ?_
              refine tr_getR dX12_readTurner_313 fl12_188 (kR15 hS1903.1 ta0) d2 ?_
              obtain ⟨a1912, d1913, ta1912⟩ := rf14_25 hW0 ta1
              refine tr_getR dX12_readTurner_316 fl12_346 (kR14 hS1903.1 ta1) d1913 ?_
              refine tr_iload dX12_readTurner_319 rfl ?_
              refine tr_iload dX12_readTurner_321 hl1802 ?_
              refine q_iast dX12_readTurner_323 (kR68 hS1903.1 ta1912) (ti_in (nR68 hS1903.1 ta1912) (by omega) (by omega)) hS1903 ta1912 (iokF rfl) rfl (by rfl) ?_
              intro I1914 hS1915 e1917 f1916
              have c1918 : I1914 a0 8 = v1807 := (f1916 _ _ (fun q => by have z := ta0; rw [q.1, ta1912] at z; exact absurd z (by decide))).trans c1906
              have c1919 : I1914 a1 4 = v1809 := (f1916 _ _ (fun q => by have z := ta1; rw [q.1, ta1912] at z; exact absurd z (by decide))).trans c1907
              have c1920 : I1914 a0 9 = v1824 := (f1916 _ _ (fun q => by have z := ta0; rw [q.1, ta1912] at z; exact absurd z (by decide))).trans c1908
              have w1921 : RdI a0 I0 I1914 := w1909.keep (f1916 _ _ (fun q => by have z := ta0; rw [q.1, ta1912] at z; exact absurd z (by decide))) (f1916 _ _ (fun q => by have z := ta0; rw [q.1, ta1912] at z; exact absurd z (by decide))) (f1916 _ _ (fun q => by have z := ta0; rw [q.1, ta1912] at z; exact absurd z (by decide))) (f1916 _ _ (fun q => by have z := ta0; rw [q.1, ta1912] at z; exact absurd z (by decide)))
              have w1922 : EwI a0 I1804 I1914 := w1910.keep (f1916 _ _ (fun q => by have z := ta0; rw [q.1, ta1912] at z; exact absurd z (by decide))) (f1916 _ _ (fun q => by have z := ta0; rw [q.1, ta1912] at z; exact absurd z (by decide))) (f1916 _ _ (fun q => by have z := ta0; rw [q.1, ta1912] at z; exact absurd z (by decide))) (f1916 _ _ (fun q => by have z := ta0; rw [q.1, ta1912] at z; exact absurd z (by decide)))
              have gd1923 := Gd.keep gd1911 (f1916 _ _ (fun q => by have z := ta0; rw [q.1, ta1912] at z; exact absurd z (by decide)))
              refine tr_aload_n dX12_readTurner_324 hl1795 ?_
              refine tr_getR dX12_readTurner_325 fl12_188 (kR15 hS1915.1 ta0) d2 ?_
              refine tr_dup dX12_readTurner_328 rfl ?_
              refine q_getI dX12_readTurner_329 fl12_315 (kR14 hS1915.1 ta1) c1919 ?_
              refine q_iconst dX12_readTurner_332 (by decide) ?_
              intro v1924 h1925
              refine q_iaddE dX12_readTurner_333 (by intros; omega) ?_
              intro v1926 h1927
              refine q_putX dX12_readTurner_334 fl12_315 (kR14 hS1915.1 ta1) (Or.inl rfl) hS1915 ta1 (by decide +kernel) (hS1915.1.putN (d' := 0) ta0 d2 (Or.inr (Or.inr rfl)) (by rw [c1919]; omega) (by decide) (by show (0 : Int) ≤ v1926.toInt ∧ v1926.toInt ≤ (5 : Int); omega)) ?_
              intro I1928 hS1929 e1930 f1931
              have c1932 : I1928 a0 8 = v1807 := (f1931 _ _ (fun q => absurd q.2 (by decide))).trans c1918
              have c1933 : I1928 a0 9 = v1824 := (f1931 _ _ (fun q => absurd q.2 (by decide))).trans c1920
              have w1934 : RdI a0 I0 I1928 := w1921.keep (f1931 _ _ (fun q => absurd q.2 (by decide))) (f1931 _ _ (fun q => absurd q.2 (by decide))) (f1931 _ _ (fun q => absurd q.2 (by decide))) (f1931 _ _ (fun q => absurd q.2 (by decide)))
              have w1935 : EwI a0 I1804 I1928 := w1922.keep (f1931 _ _ (fun q => absurd q.2 (by decide))) (f1931 _ _ (fun q => absurd q.2 (by decide))) (f1931 _ _ (fun q => absurd q.2 (by decide))) (f1931 _ _ (fun q => absurd q.2 (by decide)))
              have gd1936 := Gd.keep gd1923 (f1931 _ _ (fun q => absurd q.2 (by decide)))
              exact tr_vret hZ dX12_readTurner_337 rfl (by decide) (by decide) ⟨rfl, rfl, rfl, rfl, rfl, hS1929, w1934, trivial⟩
            · skip
              exact tr_vret hZ dX12_readTurner_235 rfl (by decide) (by decide) ⟨rfl, rfl, rfl, rfl, rfl, hS1806, w1811, trivial⟩
          · skip
            refine tr_aload_n dX12_readTurner_164 hl1795 ?_
            obtain ⟨v1937, c1938⟩ : ∃ v, I1804 a0 9 = v := ⟨_, rfl⟩
            have b1939 := iv15_9 hS1806.1 ta0 c1938
            refine q_getI dX12_readTurner_165 fl12_99 (kR15 hS1806.1 ta0) c1938 ?_
            refine q_iconst dX12_readTurner_168 (by decide) ?_
            intro v1940 h1941
            refine q_icmp_eq 227 dX12_readTurner_169 (by decide) (fun h1942 => ?_) (fun h1942 => ?_)
            · skip
              refine tr_aload_n dX12_readTurner_227 hl1795 ?_
              refine q_getI dX12_readTurner_228 fl12_99 (kR15 hS1806.1 ta0) c1938 ?_
              refine q_iconst dX12_readTurner_231 (by decide) ?_
              intro v1943 h1944
              refine q_icmp_ne 236 dX12_readTurner_232 (by decide) (fun h1945 => ?_) (fun h1945 => ?_)
              · skip
                exfalso; omega
              · skip
                exact tr_vret hZ dX12_readTurner_235 rfl (by decide) (by decide) ⟨rfl, rfl, rfl, rfl, rfl, hS1806, w1811, trivial⟩
            · skip
              have p1946 := gd1812 (by rw [c1938]; omega)
              refine tr_aload_n dX12_readTurner_172 hl1795 ?_
              refine q_iconst dX12_readTurner_173 (by decide) ?_
              intro v1947 h1948
              refine tr_aload_n dX12_readTurner_174 hl1795 ?_
              refine tr_getR dX12_readTurner_175 fl12_188 (kR15 hS1806.1 ta0) d2 ?_
              obtain ⟨v1949, c1950⟩ : ∃ v, I0 a1 1 = v := ⟨_, rfl⟩
              have b1951 := iv14_1 hW0 ta1 c1950
              refine q_getI dX12_readTurner_178 fl12_263 (kR14 hS1806.1 ta1) ((hS1806.cell ta1 (by decide +kernel)).trans c1950) ?_
              refine q_iconst dX12_readTurner_181 (by decide) ?_
              intro v1952 h1953
              refine q_isubE dX12_readTurner_182 (by intros; omega) ?_
              intro v1954 h1955
              refine q_callVi hE (M' := mX12_bounded) (as := [_, _]) dX12_readTurner_183 lk12_153 inX12_bounded seX12_bounded myX12_bounded (by decide) ⟨by decide, by decide⟩ rfl (kR15 hS1806.1 ta0) (Nat.le_of_ble_eq_true rfl) rfl rfl (by decide) (by decide) (k_X12_bounded hS1806.1 ta0) ?_
              rintro v1960 cn' K' N' I1956 R1957 L1958 ⟨rfl, rfl, rfl, rfl, rfl, g1959, p1961, p1962, w1963, -⟩
              have hS1964 := hS1806.tr g1959 (by decide +kernel) (by decide +kernel)
              have c1965 : I1956 a0 8 = v1807 := (g1959.cell ta0 (by decide +kernel)).trans c1808
              have c1966 : I1956 a1 4 = v1809 := (g1959.cell ta1 (by decide +kernel)).trans c1810
              have w1967 : RdI a0 I0 I1956 := w1811.ew w1963
              have w1968 : EwI a0 I1804 I1956 := (EwI.rf a0 I1804).ew w1963
              have gd1969 := Gd.go gd1812 w1963.stick
              have b1970 : 0 ≤ v1960.toInt ∧ v1960.toInt ≤ 3 := by omega
              clear p1961
              obtain ⟨v1971, c1972⟩ : ∃ v, I1956 a0 9 = v := ⟨_, rfl⟩
              have b1973 := iv15_9 hS1964.1 ta0 c1972
              have gd1974 : Gd (I1956 a0 9) ((v1947.toInt ≤ v1960.toInt ∧ v1960.toInt ≤ v1954.toInt)) := p1962
              clear p1962
              refine tr_istore dX12_readTurner_186 (by decide) (by decide) ?_
              refine tr_iload dX12_readTurner_188 hl1802 ?_
              refine tr_iload dX12_readTurner_190 rfl ?_
              refine q_callSi hE (M' := mX12_has) (as := [_, _]) dX12_readTurner_192 lk12_329 inX12_has myX12_has ⟨by decide, by decide⟩ rfl (Nat.le_of_ble_eq_true rfl) rfl rfl (by decide) (by decide) (k_X12_has hS1964.1 ) ?_
              rintro v1979 cn' K' N' I1975 R1976 L1977 ⟨rfl, rfl, rfl, rfl, rfl, rfl, h1980, -⟩
              refine q_if_eq 203 dX12_readTurner_195 (by decide) (fun h1981 => ?_) (fun h1981 => ?_)
              · skip
                refine tr_aload_n dX12_readTurner_203 hl1795 ?_
                obtain ⟨v1982, c1983⟩ : ∃ v, I1956 a0 13 = v := ⟨_, rfl⟩
                refine q_callVv hE (M' := mX12_goesOn) (as := []) dX12_readTurner_204 lk12_142 inX12_goesOn seX12_goesOn myX12_goesOn (by decide) ⟨by decide, by decide⟩ rfl (kR15 hS1964.1 ta0) (Nat.le_of_ble_eq_true rfl) rfl rfl (by decide) (by decide) (k_X12_goesOn hS1964.1 ta0) ?_
                rintro cn' K' N' I1984 R1985 L1986 ⟨rfl, rfl, rfl, rfl, g1987, p1989, p1990, p1991, w1992, -⟩
                have hS1993 := hS1964.tr g1987 (by decide +kernel) (by decide +kernel)
                have c1994 : I1984 a1 4 = v1809 := (g1987.cell ta1 (by decide +kernel)).trans c1966
                have c1995 : I1984 a0 13 = v1982 := (g1987.cell ta0 (by decide +kernel)).trans c1983
                have w1996 : RdI a0 I0 I1984 := w1967.rd w1992
                have w1997 : RdI a0 I1804 I1984 := w1968.rd w1992
                have gd1998 := Gd.go gd1969 w1992.stick
                have gd1999 := Gd.go gd1974 w1992.stick
                obtain ⟨v2000, c2001⟩ : ∃ v, I1984 a0 9 = v := ⟨_, rfl⟩
                have b2002 := iv15_9 hS1993.1 ta0 c2001
                rw [c1972] at p1989
                rw [c2001] at p1989
                rw [c1972] at p1990
                rw [c2001] at p1990
                obtain ⟨v2003, c2004⟩ : ∃ v, I1984 a0 8 = v := ⟨_, rfl⟩
                have b2005 := iv15_8 hS1993.1 ta0 c2004
                rw [c2004] at p1991
                rw [c1965] at p1991
                rw [c1995] at p1991
                rw [c1983] at p1991
                refine tr_iload dX12_readTurner_207 hl1802 ?_
                refine q_iconst dX12_readTurner_209 (by decide) ?_
                intro v2006 h2007
                refine tr_iload dX12_readTurner_210 rfl ?_
                refine q_ishlE dX12_readTurner_212 (by omega) (by omega) ?_
                intro v2008 h2009
                refine q_ior dX12_readTurner_213 ?_
                intro v2010
                refine tr_istore dX12_readTurner_214 (by decide) (by decide) ?_
                refine tr_aload_n dX12_readTurner_216 hl1795 ?_
                refine q_bipush dX12_readTurner_217 (by decide +kernel) ?_
                intro v2011 h2012
                have z2013 := w1997.2.2.1
                (try rw [c1808] at z2013)
                (try rw [c2004] at z2013)
                (try rw [c2001] at z2013)
                have z2014 := w1997.2.1
                (try rw [c1808] at z2014)
                (try rw [c2004] at z2014)
                refine q_callVi hE (M' := mX12_eatsSign) (as := [_]) dX12_readTurner_219 lk12_221 inX12_eatsSign seX12_eatsSign myX12_eatsSign (by decide) ⟨by decide, by decide⟩ rfl (kR15 hS1993.1 ta0) (Nat.le_of_ble_eq_true rfl) rfl rfl (by decide) (by decide) (k_X12_eatsSign hS1993.1 ta0) ?_
                rintro v2019 cn' K' N' I2015 R2016 L2017 ⟨rfl, rfl, rfl, rfl, g2018, h2020, p2021, p2022, w2023, -⟩
                have hS2024 := hS1993.tr g2018 (by decide +kernel) (by decide +kernel)
                have c2025 : I2015 a1 4 = v1809 := (g2018.cell ta1 (by decide +kernel)).trans c1994
                have c2026 : I2015 a0 13 = v1982 := (g2018.cell ta0 (by decide +kernel)).trans c1995
                have w2027 : RdI a0 I0 I2015 := w1996.ew w2023
                have w2028 : RdI a0 I1804 I2015 := w1997.ew w2023
                have gd2029 := Gd.go gd1998 w2023.stick
                have gd2030 := Gd.go gd1999 w2023.stick
                rw [c2001] at p2021
                obtain ⟨v2031, c2032⟩ : ∃ v, I2015 a0 8 = v := ⟨_, rfl⟩
                have b2033 := iv15_8 hS2024.1 ta0 c2032
                rw [c2032] at p2022
                rw [c2004] at p2022
                refine tr_istore dX12_readTurner_222 (by decide) (by decide) ?_
                refine tr_goto 159 dX12_readTurner_224 (by decide) ?_
                exact ih1819 _ v2010 v2019 I2015 L2017 v2031 v1809 hl1795 hl1796 hl1797 hl1798 hl1799 hl1800 hl1801 rfl rfl hS2024 c2032 c2025 w2027 gd2029 (by omega) (by omega) (by omega) (by omega)
              · skip
                refine tr_aload_n dX12_readTurner_198 hl1795 ?_
                refine q_iconst dX12_readTurner_199 (by decide) ?_
                intro v2034 h2035
                refine q_callVv hE (M' := mX12_flaw) (as := [_]) dX12_readTurner_200 lk12_145 inX12_flaw seX12_flaw myX12_flaw (by decide) ⟨by decide, by decide⟩ rfl (kR15 hS1964.1 ta0) (Nat.le_of_ble_eq_true rfl) rfl rfl (by decide) (by decide) (k_X12_flaw hS1964.1 ta0 (by omega)) ?_
                rintro cn' K' N' I2036 R2037 L2038 ⟨rfl, rfl, rfl, rfl, rfl, g2039, p2041, p2042, w2043, -⟩
                have hS2044 := hS1964.tr g2039 (by decide +kernel) (by decide +kernel)
                have c2045 : I2036 a0 8 = v1807 := (g2039.cell ta0 (by decide +kernel)).trans c1965
                have c2046 : I2036 a1 4 = v1809 := (g2039.cell ta1 (by decide +kernel)).trans c1966
                have w2047 : RdI a0 I0 I2036 := w1967.rd w2043
                have w2048 : RdI a0 I1804 I2036 := w1968.rd w2043
                have gd2049 := Gd.go gd1969 w2043.stick
                have gd2050 := Gd.go gd1974 w2043.stick
                obtain ⟨v2051, c2052⟩ : ∃ v, I2036 a0 9 = v := ⟨_, rfl⟩
                have b2053 := iv15_9 hS2044.1 ta0 c2052
                rw [c2052] at p2041
                rw [c2045] at p2042
                rw [c1965] at p2042
                refine tr_aload_n dX12_readTurner_203 hl1795 ?_
                obtain ⟨v2054, c2055⟩ : ∃ v, I2036 a0 13 = v := ⟨_, rfl⟩
                refine q_callVv hE (M' := mX12_goesOn) (as := []) dX12_readTurner_204 lk12_142 inX12_goesOn seX12_goesOn myX12_goesOn (by decide) ⟨by decide, by decide⟩ rfl (kR15 hS2044.1 ta0) (Nat.le_of_ble_eq_true rfl) rfl rfl (by decide) (by decide) (k_X12_goesOn hS2044.1 ta0) ?_
                rintro cn' K' N' I2056 R2057 L2058 ⟨rfl, rfl, rfl, rfl, g2059, p2061, p2062, p2063, w2064, -⟩
                have hS2065 := hS2044.tr g2059 (by decide +kernel) (by decide +kernel)
                have c2066 : I2056 a1 4 = v1809 := (g2059.cell ta1 (by decide +kernel)).trans c2046
                have c2067 : I2056 a0 13 = v2054 := (g2059.cell ta0 (by decide +kernel)).trans c2055
                have w2068 : RdI a0 I0 I2056 := w2047.rd w2064
                have w2069 : RdI a0 I1804 I2056 := w2048.rd w2064
                have gd2070 := Gd.go gd2049 w2064.stick
                have gd2071 := Gd.go gd2050 w2064.stick
                obtain ⟨v2072, c2073⟩ : ∃ v, I2056 a0 9 = v := ⟨_, rfl⟩
                have b2074 := iv15_9 hS2065.1 ta0 c2073
                rw [c2052] at p2061
                rw [c2073] at p2061
                rw [c2052] at p2062
                rw [c2073] at p2062
                obtain ⟨v2075, c2076⟩ : ∃ v, I2056 a0 8 = v := ⟨_, rfl⟩
                have b2077 := iv15_8 hS2065.1 ta0 c2076
                rw [c2076] at p2063
                rw [c2045] at p2063
                rw [c2067] at p2063
                rw [c2055] at p2063
                refine tr_iload dX12_readTurner_207 hl1802 ?_
                refine q_iconst dX12_readTurner_209 (by decide) ?_
                intro v2078 h2079
                refine tr_iload dX12_readTurner_210 rfl ?_
                refine q_ishlE dX12_readTurner_212 (by omega) (by omega) ?_
                intro v2080 h2081
                refine q_ior dX12_readTurner_213 ?_
                intro v2082
                refine tr_istore dX12_readTurner_214 (by decide) (by decide) ?_
                refine tr_aload_n dX12_readTurner_216 hl1795 ?_
                refine q_bipush dX12_readTurner_217 (by decide +kernel) ?_
                intro v2083 h2084
                have z2085 := w2069.2.2.1
                (try rw [c1808] at z2085)
                (try rw [c2076] at z2085)
                (try rw [c2073] at z2085)
                have z2086 := w2069.2.1
                (try rw [c1808] at z2086)
                (try rw [c2076] at z2086)
                refine q_callVi hE (M' := mX12_eatsSign) (as := [_]) dX12_readTurner_219 lk12_221 inX12_eatsSign seX12_eatsSign myX12_eatsSign (by decide) ⟨by decide, by decide⟩ rfl (kR15 hS2065.1 ta0) (Nat.le_of_ble_eq_true rfl) rfl rfl (by decide) (by decide) (k_X12_eatsSign hS2065.1 ta0) ?_
                rintro v2091 cn' K' N' I2087 R2088 L2089 ⟨rfl, rfl, rfl, rfl, g2090, h2092, p2093, p2094, w2095, -⟩
                have hS2096 := hS2065.tr g2090 (by decide +kernel) (by decide +kernel)
                have c2097 : I2087 a1 4 = v1809 := (g2090.cell ta1 (by decide +kernel)).trans c2066
                have c2098 : I2087 a0 13 = v2054 := (g2090.cell ta0 (by decide +kernel)).trans c2067
                have w2099 : RdI a0 I0 I2087 := w2068.ew w2095
                have w2100 : RdI a0 I1804 I2087 := w2069.ew w2095
                have gd2101 := Gd.go gd2070 w2095.stick
                have gd2102 := Gd.go gd2071 w2095.stick
                rw [c2073] at p2093
                obtain ⟨v2103, c2104⟩ : ∃ v, I2087 a0 8 = v := ⟨_, rfl⟩
                have b2105 := iv15_8 hS2096.1 ta0 c2104
                rw [c2104] at p2094
                rw [c2076] at p2094
                refine tr_istore dX12_readTurner_222 (by decide) (by decide) ?_
                refine tr_goto 159 dX12_readTurner_224 (by decide) ?_
                exact ih1819 _ v2082 v2091 I2087 L2089 v2103 v1809 hl1795 hl1796 hl1797 hl1798 hl1799 hl1800 hl1801 rfl rfl hS2096 c2104 c2097 w2099 gd2101 (by omega) (by omega) (by omega) (by omega)
      exact lp1819 _ _ v1789 v1791 I1779 L1781 v1813 v3 rfl rfl rfl rfl rfl rfl rfl rfl rfl hS1785 c1814 c1786 w1787 gd1788 (by omega) (by omega) (by omega) (Nat.lt_succ_self _)
    · skip
      exfalso; omega
