def wik_X7_fail : List Nat := [463, 464]
def wrk_X7_fail : List Nat := []
set_option maxHeartbeats 4000000 in
theorem fk_X7_fail {l : Launch} {T : Nat → Nat} {cn : Nat} {K N : Nat → Nat} {I0 : cz_I} {R0 : cz_R} {L0 : cz_L} {d : Int} (hW0 : Wf T cn K N I0 R0 d)  {a0 : Nat} (ta0 : T a0 = 7) {x1 : Int32} (hx1 : 1 ≤ x1.toInt ∧ x1.toInt ≤ 6) : ConE l mX7_fail [.ref a0, .int x1] cn K N I0 R0 L0 (ca_i (fun v cn' K' N' I' R' L' => cn = cn' ∧ K = K' ∧ N = N' ∧ R0 = R' ∧ L0 = L' ∧ St T cn K N d wik_X7_fail wrk_X7_fail I0 R0 I' R0 ∧ (0 ≤ v.toInt ∧ v.toInt ≤ 1) ∧ (v.toInt = 0) ∧ ((I' a0 15).toInt = x1.toInt) ∧ ((I' a0 16).toInt = (I0 a0 4).toInt) ∧ True)) := by
  refine ConE.of (by decide +kernel) rfl (Nat.le_of_ble_eq_true rfl) rfl (fun X hX hZ hE => ?_)
  subst hX
  have hS0 : St T cn K N d wik_X7_fail wrk_X7_fail I0 R0 I0 R0 := St.rf0 hW0
  obtain ⟨v1, c2⟩ : ∃ v, I0 a0 4 = v := ⟨_, rfl⟩
  have b3 := iv7_4 hW0 ta0 c2
  refine tr_aload_n dX7_fail_0 rfl ?_
  refine tr_iload_n dX7_fail_1 rfl ?_
  refine q_putI dX7_fail_2 fl7_38 (kR7 hS0.1 ta0) (Or.inl rfl) hS0 ta0 (iokF rfl) rfl (by decide +kernel) ?_
  intro I4 hS5 e6 f7
  refine tr_aload_n dX7_fail_5 rfl ?_
  refine tr_aload_n dX7_fail_6 rfl ?_
  refine q_getI dX7_fail_7 fl7_68 (kR7 hS5.1 ta0) ((hS5.cell ta0 (by decide +kernel)).trans c2) ?_
  refine q_putI dX7_fail_10 fl7_42 (kR7 hS5.1 ta0) (Or.inl rfl) hS5 ta0 (iokF rfl) rfl (by decide +kernel) ?_
  intro I8 hS9 e10 f11
  have c12 : I8 a0 15 = x1 := (f11 _ _ (fun q => absurd q.2 (by decide))).trans e6
  refine q_iconst dX7_fail_13 (by decide) ?_
  intro v13 h14
  exact tr_zret hZ dX7_fail_14 rfl (ti_b01 (by exact om_d99fa9e4 h14) (by exact om_d3de7ec9 h14)) (by decide) (by decide) ⟨v13, rfl, rfl, rfl, rfl, rfl, rfl, hS9, (by exact om_3b50ecb9 h14), (by first | done | with_reducible assumption | omega), (by (try rw [c12]); first | done | with_reducible assumption | omega), (by (try rw [e10]); (try rw [c2]); first | done | with_reducible assumption | omega), trivial⟩
def wik_X7_seesWhole : List Nat := [463, 464]
def wrk_X7_seesWhole : List Nat := []
set_option maxHeartbeats 4000000 in
theorem fk_X7_seesWhole {l : Launch} {T : Nat → Nat} {cn : Nat} {K N : Nat → Nat} {I0 : cz_I} {R0 : cz_R} {L0 : cz_L} {d : Int} (hW0 : Wf T cn K N I0 R0 d) (gB : cz_B) (gs : Int) {a0 : Nat} (ta0 : T a0 = 7) {x1 : Int32} {x2 : Int32} (pre0 : (I0 a0 2).toInt = (tkN gB gs)) (pre1 : (I0 a0 4).toInt = (tkS gB gs)) (pre2 : (I0 a0 3).toInt = (tkK gB gs)) (pre3 : (AtW ((tkK gB gs)) ((L0 a0 5).toInt) ((tkW gB gs)))) (pre4 : (AtV ((tkK gB gs)) ((I0 a0 6).toInt) ((tkV gB gs)))) : ConE l mX7_seesWhole [.ref a0, .int x1, .int x2] cn K N I0 R0 L0 (ca_i (fun v cn' K' N' I' R' L' => cn = cn' ∧ K = K' ∧ N = N' ∧ R0 = R' ∧ L0 = L' ∧ St T cn K N d wik_X7_seesWhole wrk_X7_seesWhole I0 R0 I' R0 ∧ (0 ≤ v.toInt ∧ v.toInt ≤ 1) ∧ (((v.toInt = 1) ∧ ((I' a0 15).toInt = (I0 a0 15).toInt) ∧ ((tkK gB gs) = 2) ∧ (x1.toInt ≤ (tkV gB gs)) ∧ ((tkV gB gs) ≤ x2.toInt) ∧ ((I0 a0 6).toInt = (tkV gB gs)) ∧ True) ∨ ((v.toInt = 0) ∧ ((tkK gB gs) ≠ 2) ∧ ((I' a0 15).toInt = 1) ∧ ((I' a0 16).toInt = (tkS gB gs)) ∧ True) ∨ ((v.toInt = 0) ∧ ((tkK gB gs) = 2) ∧ (((tkV gB gs) < x1.toInt ∨ x2.toInt < (tkV gB gs))) ∧ ((I' a0 15).toInt = 4) ∧ ((I' a0 16).toInt = (tkS gB gs)) ∧ True)) ∧ True)) := by
  refine ConE.of (by decide +kernel) rfl (Nat.le_of_ble_eq_true rfl) rfl (fun X hX hZ hE => ?_)
  subst hX
  have hS0 : St T cn K N d wik_X7_seesWhole wrk_X7_seesWhole I0 R0 I0 R0 := St.rf0 hW0
  obtain ⟨v1, c2⟩ : ∃ v, I0 a0 2 = v := ⟨_, rfl⟩
  have b3 := iv7_2 hW0 ta0 c2
  have p4 := pre0
  rw [c2] at p4
  obtain ⟨v5, c6⟩ : ∃ v, I0 a0 4 = v := ⟨_, rfl⟩
  have b7 := iv7_4 hW0 ta0 c6
  have p8 := pre1
  rw [c6] at p8
  obtain ⟨v9, c10⟩ : ∃ v, I0 a0 3 = v := ⟨_, rfl⟩
  have b11 := iv7_3 hW0 ta0 c10
  have p12 := pre2
  rw [c10] at p12
  obtain ⟨y13, c14⟩ : ∃ v, L0 a0 5 = v := ⟨_, rfl⟩
  have p15 := pre3
  rw [c14] at p15
  obtain ⟨v16, c17⟩ : ∃ v, I0 a0 6 = v := ⟨_, rfl⟩
  have p18 := pre4
  rw [c17] at p18
  obtain ⟨v19, c20⟩ : ∃ v, I0 a0 15 = v := ⟨_, rfl⟩
  refine tr_aload_n dX7_seesWhole_0 rfl ?_
  refine q_getI dX7_seesWhole_1 fl7_58 (kR7 hS0.1 ta0) c10 ?_
  refine q_iconst dX7_seesWhole_4 (by decide) ?_
  intro v21 h22
  refine q_icmp_eq 14 dX7_seesWhole_5 (by decide) (fun h23 => ?_) (fun h23 => ?_)
  · skip
    refine tr_aload_n dX7_seesWhole_14 rfl ?_
    have p24 := p18 (by exact om_f56f67cc p12 h22 h23)
    refine q_getI dX7_seesWhole_15 fl7_86 (kR7 hS0.1 ta0) c17 ?_
    refine tr_iload_n dX7_seesWhole_18 rfl ?_
    refine q_icmp_lt 30 dX7_seesWhole_19 (by decide) (fun h25 => ?_) (fun h25 => ?_)
    · skip
      refine tr_aload_n dX7_seesWhole_30 rfl ?_
      refine q_iconst dX7_seesWhole_31 (by decide) ?_
      intro v26 h27
      refine q_callVi hE (M' := mX7_fail) (as := [_]) dX7_seesWhole_32 lk7_64 inX7_fail seX7_fail myX7_fail (by decide) ⟨by decide, by decide⟩ rfl (kR7 hS0.1 ta0) (Nat.le_of_ble_eq_true rfl) rfl rfl (by decide) (by decide) (fk_X7_fail hS0.1  ta0 (by exact om_fcf2b558 h27)) ?_
      rintro v33 cn' K' N' I28 R29 L30 ⟨rfl, rfl, rfl, rfl, rfl, g31, h34, p35, p36, p37, -⟩
      have hS38 := hS0.tr g31 (by decide +kernel) (by decide +kernel)
      obtain ⟨v39, c40⟩ : ∃ v, I28 a0 15 = v := ⟨_, rfl⟩
      rw [c40] at p36
      obtain ⟨v41, c42⟩ : ∃ v, I28 a0 16 = v := ⟨_, rfl⟩
      rw [c42] at p37
      rw [c6] at p37
      refine q_if_eq 42 dX7_seesWhole_35 (by decide) (fun h43 => ?_) (fun h43 => ?_)
      · skip
        refine q_iconst dX7_seesWhole_42 (by decide) ?_
        intro v44 h45
        exact tr_zret hZ dX7_seesWhole_43 rfl (ti_b01 (by exact om_d99fa9e4 h45) (by exact om_d3de7ec9 h45)) (by decide) (by decide) ⟨v44, rfl, rfl, rfl, rfl, rfl, rfl, hS38, (by exact om_3b50ecb9 h45), (Or.inr (Or.inr (⟨(by first | done | with_reducible assumption | omega), (by first | done | with_reducible assumption | exact om_f56f67cc p12 h22 h23), (by first | done | with_reducible assumption | exact om_0823072e p24 h25), (by (try rw [c40]); first | done | with_reducible assumption | exact om_7c28df22 h27 p36), (by (try rw [c42]); first | done | with_reducible assumption | exact om_9fa72578 p8 p37), trivial⟩))), trivial⟩
      · skip
        exfalso; exact om_3a97d4a5 p35 h43
    · skip
      refine tr_aload_n dX7_seesWhole_22 rfl ?_
      refine q_getI dX7_seesWhole_23 fl7_86 (kR7 hS0.1 ta0) c17 ?_
      refine tr_iload_n dX7_seesWhole_26 rfl ?_
      refine q_icmp_le 38 dX7_seesWhole_27 (by decide) (fun h46 => ?_) (fun h46 => ?_)
      · skip
        refine q_iconst dX7_seesWhole_38 (by decide) ?_
        intro v47 h48
        refine tr_goto 43 dX7_seesWhole_39 (by decide) ?_
        obtain ⟨v49, c50⟩ : ∃ v, I0 a0 16 = v := ⟨_, rfl⟩
        exact tr_zret hZ dX7_seesWhole_43 rfl (ti_b01 (by exact om_f9079521 h48) (by exact om_e6632817 h48)) (by decide) (by decide) ⟨v47, rfl, rfl, rfl, rfl, rfl, rfl, hS0, (by exact om_d753bc65 h48), (Or.inl ⟨(by first | done | with_reducible assumption | omega), (by (try rw [c20]); first | done | with_reducible assumption | omega), (by first | done | with_reducible assumption | exact om_f56f67cc p12 h22 h23), (by first | done | with_reducible assumption | exact om_bde4ffce p24 h25), (by first | done | with_reducible assumption | exact om_7865fadd p24 h46), (by (try rw [c17]); first | done | with_reducible assumption | omega), trivial⟩), trivial⟩
      · skip
        refine tr_aload_n dX7_seesWhole_30 rfl ?_
        refine q_iconst dX7_seesWhole_31 (by decide) ?_
        intro v51 h52
        refine q_callVi hE (M' := mX7_fail) (as := [_]) dX7_seesWhole_32 lk7_64 inX7_fail seX7_fail myX7_fail (by decide) ⟨by decide, by decide⟩ rfl (kR7 hS0.1 ta0) (Nat.le_of_ble_eq_true rfl) rfl rfl (by decide) (by decide) (fk_X7_fail hS0.1  ta0 (by exact om_fcf2b558 h52)) ?_
        rintro v58 cn' K' N' I53 R54 L55 ⟨rfl, rfl, rfl, rfl, rfl, g56, h59, p60, p61, p62, -⟩
        have hS63 := hS0.tr g56 (by decide +kernel) (by decide +kernel)
        obtain ⟨v64, c65⟩ : ∃ v, I53 a0 15 = v := ⟨_, rfl⟩
        rw [c65] at p61
        obtain ⟨v66, c67⟩ : ∃ v, I53 a0 16 = v := ⟨_, rfl⟩
        rw [c67] at p62
        rw [c6] at p62
        refine q_if_eq 42 dX7_seesWhole_35 (by decide) (fun h68 => ?_) (fun h68 => ?_)
        · skip
          refine q_iconst dX7_seesWhole_42 (by decide) ?_
          intro v69 h70
          exact tr_zret hZ dX7_seesWhole_43 rfl (ti_b01 (by exact om_d99fa9e4 h70) (by exact om_d3de7ec9 h70)) (by decide) (by decide) ⟨v69, rfl, rfl, rfl, rfl, rfl, rfl, hS63, (by exact om_3b50ecb9 h70), (Or.inr (Or.inr (⟨(by first | done | with_reducible assumption | omega), (by first | done | with_reducible assumption | exact om_f56f67cc p12 h22 h23), (by first | done | with_reducible assumption | exact om_05b3cc49 p24 h46), (by (try rw [c65]); first | done | with_reducible assumption | exact om_7c28df22 h52 p61), (by (try rw [c67]); first | done | with_reducible assumption | exact om_9fa72578 p8 p62), trivial⟩))), trivial⟩
        · skip
          exfalso; exact om_3a97d4a5 p60 h68
  · skip
    refine tr_aload_n dX7_seesWhole_8 rfl ?_
    refine q_iconst dX7_seesWhole_9 (by decide) ?_
    intro v71 h72
    refine q_callVi hE (M' := mX7_fail) (as := [_]) dX7_seesWhole_10 lk7_64 inX7_fail seX7_fail myX7_fail (by decide) ⟨by decide, by decide⟩ rfl (kR7 hS0.1 ta0) (Nat.le_of_ble_eq_true rfl) rfl rfl (by decide) (by decide) (fk_X7_fail hS0.1  ta0 (by exact om_95922198 h72)) ?_
    rintro v78 cn' K' N' I73 R74 L75 ⟨rfl, rfl, rfl, rfl, rfl, g76, h79, p80, p81, p82, -⟩
    have hS83 := hS0.tr g76 (by decide +kernel) (by decide +kernel)
    obtain ⟨v84, c85⟩ : ∃ v, I73 a0 15 = v := ⟨_, rfl⟩
    rw [c85] at p81
    obtain ⟨v86, c87⟩ : ∃ v, I73 a0 16 = v := ⟨_, rfl⟩
    rw [c87] at p82
    rw [c6] at p82
    exact tr_zret hZ dX7_seesWhole_13 rfl (ti_b01 (by exact om_d99fa9e4 p80) (by exact om_d3de7ec9 p80)) (by decide) (by decide) ⟨v78, rfl, rfl, rfl, rfl, rfl, rfl, hS83, (by exact om_be53a44c h79), (Or.inr (Or.inl ⟨(by first | done | with_reducible assumption | omega), (by first | done | with_reducible assumption | exact om_2364d0fc p12 h22 h23), (by (try rw [c85]); first | done | with_reducible assumption | exact om_9fbcd811 h72 p81), (by (try rw [c87]); first | done | with_reducible assumption | exact om_9fa72578 p8 p82), trivial⟩)), trivial⟩
def wik_X7_stepWhole : List Nat := [450, 454]
def wrk_X7_stepWhole : List Nat := []
set_option maxHeartbeats 4000000 in
theorem fk_X7_stepWhole {l : Launch} {T : Nat → Nat} {cn : Nat} {K N : Nat → Nat} {I0 : cz_I} {R0 : cz_R} {L0 : cz_L} {d : Int} (hW0 : Wf T cn K N I0 R0 d) (gB : cz_B) {a0 : Nat} (ta0 : T a0 = 7) (hT : ∀ t, R0 a0 0 = some t → Tx I0 t gB) (pre0 : (I0 a0 1).toInt = (gB.2)) (pre1 : (I0 a0 4).toInt = (I0 a0 2).toInt) : ConE l mX7_stepWhole [.ref a0] cn K N I0 R0 L0 (ca_i (fun v cn' K' N' I' R' L' => cn = cn' ∧ K = K' ∧ N = N' ∧ R0 = R' ∧ L0 = L' ∧ St T cn K N d wik_X7_stepWhole wrk_X7_stepWhole I0 R0 I' R0 ∧ (v.toInt = (tkD gB (I0 a0 2).toInt) - (I0 a0 2).toInt) ∧ ((I' a0 2).toInt = (tkD gB (I0 a0 2).toInt)) ∧ ((I' a0 6).toInt = (tkY gB (I0 a0 2).toInt)) ∧ True)) := by
  refine ConE.of (by decide +kernel) rfl (Nat.le_of_ble_eq_true rfl) rfl (fun X hX hZ hE => ?_)
  subst hX
  have hS0 : St T cn K N d wik_X7_stepWhole wrk_X7_stepWhole I0 R0 I0 R0 := St.rf0 hW0
  obtain ⟨v1, c2⟩ : ∃ v, I0 a0 1 = v := ⟨_, rfl⟩
  have b3 := iv7_1 hW0 ta0 c2
  have p4 := pre0
  rw [c2] at p4
  obtain ⟨v5, c6⟩ : ∃ v, I0 a0 4 = v := ⟨_, rfl⟩
  have b7 := iv7_4 hW0 ta0 c6
  obtain ⟨v8, c9⟩ : ∃ v, I0 a0 2 = v := ⟨_, rfl⟩
  have b10 := iv7_2 hS0.1 ta0 c9
  have p11 := pre1
  rw [c6] at p11
  rw [c9] at p11
  refine tr_aload_n dX7_stepWhole_0 rfl ?_
  refine q_iconst dX7_stepWhole_1 (by decide) ?_
  intro v12 h13
  refine q_putI dX7_stepWhole_2 fl7_86 (kR7 hS0.1 ta0) (Or.inl rfl) hS0 ta0 (iokF rfl) rfl (by decide +kernel) ?_
  intro I14 hS15 e16 f17
  have c18 : I14 a0 2 = v8 := (f17 _ _ (fun q => absurd q.2 (by decide))).trans c9
  have lp29 : ∀ (fu : Nat) (ls : Nat → Option Value) (I20 : cz_I) (v22 : Int32) (v24 : Int32), ls 0 = some (.ref a0) → St T cn K N d wik_X7_stepWhole wrk_X7_stepWhole I0 R0 I20 R0 → I20 a0 2 = v22 → I20 a0 6 = v24 → (tkD gB v22.toInt) = (tkD gB v8.toInt) → v22.toInt ≥ v8.toInt → v24 = vfo gB v8.toInt (v22.toInt - v8.toInt).toNat → (-v22.toInt + 900).toNat < fu → Tr X mX7_stepWhole 5 ls [] cn K N I20 R0 L0 0 0 := by
    intro fu
    induction fu with
    | zero => intros; rename_i hz; exact absurd hz (Nat.not_lt_zero _)
    | succ fu ih29 =>
      intro ls I20 v22 v24 hl19 hS21 c23 c25 g26 g27 rw28 hm29
      have b31 := iv7_2 hS21.1 ta0 c23
      refine tr_aload_n dX7_stepWhole_5 hl19 ?_
      refine q_getI dX7_stepWhole_6 fl7_48 (kR7 hS21.1 ta0) c23 ?_
      refine tr_aload_n dX7_stepWhole_9 hl19 ?_
      refine q_getI dX7_stepWhole_10 fl7_45 (kR7 hS21.1 ta0) ((hS21.cell ta0 (by decide +kernel)).trans c2) ?_
      refine q_icmp_ge 81 dX7_stepWhole_13 (by decide) (fun h32 => ?_) (fun h32 => ?_)
      · skip
        have e33 : tkD gB v22.toInt = v22.toInt := tkD_fin (by exact om_36029dc7 p4 h32)
        refine tr_aload_n dX7_stepWhole_81 hl19 ?_
        refine q_getI dX7_stepWhole_82 fl7_48 (kR7 hS21.1 ta0) c23 ?_
        refine tr_aload_n dX7_stepWhole_85 hl19 ?_
        refine q_getI dX7_stepWhole_86 fl7_68 (kR7 hS21.1 ta0) ((hS21.cell ta0 (by decide +kernel)).trans c6) ?_
        refine q_isubE dX7_stepWhole_89 (by intro j1 j2 j3 j4; exact om_359413a3 b10.2 b10.1 p11 g27 b31.2 b31.1) ?_
        intro v34 h35
        exact tr_iret hZ dX7_stepWhole_90 rfl (by decide) (by decide) ⟨v34, rfl, rfl, rfl, rfl, rfl, rfl, hS21, (by (try rw [c9]); first | done | with_reducible assumption | exact om_a8816560 p11 g26 e33 h35), (by (try rw [c23]); (try rw [c9]); first | done | with_reducible assumption | exact om_a3d15cac g26 e33), (by (try rw [c25]); (try rw [c9]); rw [tkY, rw28]; congr 2; exact om_ec920c27 p11 g26 g27 e33 h35), trivial⟩
      · skip
        refine tr_aload_n dX7_stepWhole_16 hl19 ?_
        obtain ⟨a36, d37, ta36⟩ := rf7_0 hW0 ta0
        refine tr_getR dX7_stepWhole_17 fl7_18 (kR7 hS21.1 ta0) d37 ?_
        refine tr_aload_n dX7_stepWhole_20 hl19 ?_
        refine q_getI dX7_stepWhole_21 fl7_48 (kR7 hS21.1 ta0) c23 ?_
        refine q_bald dX7_stepWhole_24 (kR17 hS21.1 ta36) (ti_in (nR17 hS21.1 ta36) (by exact om_cc59603c b31.2 b31.1) (by exact om_bdf2c77f b3.2 b3.1 b31.2 b31.1 h32)) ?_
        intro v38 c39
        have b40 := iv17 hS21.1 ta36 c39
        have p41 := Tx.by ((TxA.kp hT hS21 ta0 rfl rfl rfl (by decide +kernel) (by decide +kernel)) _ d37) (by exact om_cc59603c b31.2 b31.1) (by exact om_a830ecb4 p4 h32) c39
        have p42 := Tx.at ((TxA.kp hT hS21 ta0 rfl rfl rfl (by decide +kernel) (by decide +kernel)) _ d37) (by exact om_cc59603c b31.2 b31.1) (by exact om_a830ecb4 p4 h32) c39
        refine q_bipush dX7_stepWhole_25 (by decide +kernel) ?_
        intro v43 h44
        refine q_icmp_lt 81 dX7_stepWhole_27 (by decide) (fun h45 => ?_) (fun h45 => ?_)
        · skip
          have e46 : tkD gB v22.toInt = v22.toInt := tkD_fin (by exact om_8ffeb779 b40.2 b40.1 p41 h44 h45)
          refine tr_aload_n dX7_stepWhole_81 hl19 ?_
          refine q_getI dX7_stepWhole_82 fl7_48 (kR7 hS21.1 ta0) c23 ?_
          refine tr_aload_n dX7_stepWhole_85 hl19 ?_
          refine q_getI dX7_stepWhole_86 fl7_68 (kR7 hS21.1 ta0) ((hS21.cell ta0 (by decide +kernel)).trans c6) ?_
          refine q_isubE dX7_stepWhole_89 (by intro j1 j2 j3 j4; exact om_d3133e03 b3.2 b3.1 b10.2 b10.1 p11 g27 b31.2 b31.1 h32) ?_
          intro v47 h48
          exact tr_iret hZ dX7_stepWhole_90 rfl (by decide) (by decide) ⟨v47, rfl, rfl, rfl, rfl, rfl, rfl, hS21, (by (try rw [c9]); first | done | with_reducible assumption | exact om_a8816560 p11 g26 e46 h48), (by (try rw [c23]); (try rw [c9]); first | done | with_reducible assumption | exact om_a3d15cac g26 e46), (by (try rw [c25]); (try rw [c9]); rw [tkY, rw28]; congr 2; exact om_ec920c27 p11 g26 g27 e46 h48), trivial⟩
        · skip
          refine tr_aload_n dX7_stepWhole_30 hl19 ?_
          refine tr_getR dX7_stepWhole_31 fl7_18 (kR7 hS21.1 ta0) d37 ?_
          refine tr_aload_n dX7_stepWhole_34 hl19 ?_
          refine q_getI dX7_stepWhole_35 fl7_48 (kR7 hS21.1 ta0) c23 ?_
          refine q_bald dX7_stepWhole_38 (kR17 hS21.1 ta36) (ti_in (nR17 hS21.1 ta36) (by exact om_cc59603c b31.2 b31.1) (by exact om_bdf2c77f b3.2 b3.1 b31.2 b31.1 h32)) ?_
          intro v49 c50
          have b51 := iv17 hS21.1 ta36 c50
          have p52 := Tx.by ((TxA.kp hT hS21 ta0 rfl rfl rfl (by decide +kernel) (by decide +kernel)) _ d37) (by exact om_cc59603c b31.2 b31.1) (by exact om_a830ecb4 p4 h32) c50
          have p53 := Tx.at ((TxA.kp hT hS21 ta0 rfl rfl rfl (by decide +kernel) (by decide +kernel)) _ d37) (by exact om_cc59603c b31.2 b31.1) (by exact om_a830ecb4 p4 h32) c50
          refine q_bipush dX7_stepWhole_39 (by decide +kernel) ?_
          intro v54 h55
          refine q_icmp_gt 81 dX7_stepWhole_41 (by decide) (fun h56 => ?_) (fun h56 => ?_)
          · skip
            have e57 : tkD gB v22.toInt = v22.toInt := tkD_fin (by exact om_6c337914 b40.2 b40.1 p41 h44 h45 p52 h55 h56)
            refine tr_aload_n dX7_stepWhole_81 hl19 ?_
            refine q_getI dX7_stepWhole_82 fl7_48 (kR7 hS21.1 ta0) c23 ?_
            refine tr_aload_n dX7_stepWhole_85 hl19 ?_
            refine q_getI dX7_stepWhole_86 fl7_68 (kR7 hS21.1 ta0) ((hS21.cell ta0 (by decide +kernel)).trans c6) ?_
            refine q_isubE dX7_stepWhole_89 (by intro j1 j2 j3 j4; exact om_d3133e03 b3.2 b3.1 b10.2 b10.1 p11 g27 b31.2 b31.1 h32) ?_
            intro v58 h59
            exact tr_iret hZ dX7_stepWhole_90 rfl (by decide) (by decide) ⟨v58, rfl, rfl, rfl, rfl, rfl, rfl, hS21, (by (try rw [c9]); first | done | with_reducible assumption | exact om_a8816560 p11 g26 e57 h59), (by (try rw [c23]); (try rw [c9]); first | done | with_reducible assumption | exact om_a3d15cac g26 e57), (by (try rw [c25]); (try rw [c9]); rw [tkY, rw28]; congr 2; exact om_ec920c27 p11 g26 g27 e57 h59), trivial⟩
          · skip
            refine tr_aload_n dX7_stepWhole_44 hl19 ?_
            refine tr_aload_n dX7_stepWhole_45 hl19 ?_
            refine q_getI dX7_stepWhole_46 fl7_86 (kR7 hS21.1 ta0) c25 ?_
            refine q_bipush dX7_stepWhole_49 (by decide +kernel) ?_
            intro v60 h61
            have lx62 : v60 = (10 : Int32) := Int32.toInt_inj.mp (h61.trans rfl)
            refine tr_imul dX7_stepWhole_51 ?_
            obtain ⟨v63, lx64⟩ : ∃ z, z = v24 * v60 := ⟨_, rfl⟩
            rw [← lx64]
            refine tr_aload_n dX7_stepWhole_52 hl19 ?_
            refine tr_getR dX7_stepWhole_53 fl7_18 (kR7 hS21.1 ta0) d37 ?_
            refine tr_aload_n dX7_stepWhole_56 hl19 ?_
            refine q_getI dX7_stepWhole_57 fl7_48 (kR7 hS21.1 ta0) c23 ?_
            refine q_bald dX7_stepWhole_60 (kR17 hS21.1 ta36) (ti_in (nR17 hS21.1 ta36) (by exact om_cc59603c b31.2 b31.1) (by exact om_bdf2c77f b3.2 b3.1 b31.2 b31.1 h32)) ?_
            intro v65 c66
            have b67 := iv17 hS21.1 ta36 c66
            have p68 := Tx.by ((TxA.kp hT hS21 ta0 rfl rfl rfl (by decide +kernel) (by decide +kernel)) _ d37) (by exact om_cc59603c b31.2 b31.1) (by exact om_a830ecb4 p4 h32) c66
            have p69 := Tx.at ((TxA.kp hT hS21 ta0 rfl rfl rfl (by decide +kernel) (by decide +kernel)) _ d37) (by exact om_cc59603c b31.2 b31.1) (by exact om_a830ecb4 p4 h32) c66
            refine tr_iadd dX7_stepWhole_61 ?_
            obtain ⟨v70, lx71⟩ : ∃ z, z = v63 + v65 := ⟨_, rfl⟩
            rw [← lx71]
            refine q_bipush dX7_stepWhole_62 (by decide +kernel) ?_
            intro v72 h73
            have lx74 : v72 = (48 : Int32) := Int32.toInt_inj.mp (h73.trans rfl)
            refine tr_isub dX7_stepWhole_64 ?_
            obtain ⟨v75, lx76⟩ : ∃ z, z = v70 - v72 := ⟨_, rfl⟩
            rw [← lx76]
            refine q_putI dX7_stepWhole_65 fl7_86 (kR7 hS21.1 ta0) (Or.inl rfl) hS21 ta0 (iokF rfl) rfl (by decide +kernel) ?_
            intro I77 hS78 e79 f80
            have c81 : I77 a0 2 = v22 := (f80 _ _ (fun q => absurd q.2 (by decide))).trans c23
            refine tr_aload_n dX7_stepWhole_68 hl19 ?_
            refine tr_dup dX7_stepWhole_69 rfl ?_
            refine q_getI dX7_stepWhole_70 fl7_48 (kR7 hS78.1 ta0) c81 ?_
            refine q_iconst dX7_stepWhole_73 (by decide) ?_
            intro v82 h83
            refine q_iaddE dX7_stepWhole_74 (by intro j1 j2 j3 j4; exact om_c7cba203 b3.2 b3.1 b31.2 b31.1 h32 h83) ?_
            intro v84 h85
            refine q_putI dX7_stepWhole_75 fl7_48 (kR7 hS78.1 ta0) (Or.inl rfl) hS78 ta0 (by show (0 : Int) ≤ v84.toInt ∧ v84.toInt ≤ (900 : Int); exact om_2221b2eb b3.2 b3.1 b31.2 b31.1 h32 h83 h85) rfl (by decide +kernel) ?_
            intro I86 hS87 e88 f89
            have c90 : I86 a0 6 = v75 := (f89 _ _ (fun q => absurd q.2 (by decide))).trans e79
            refine tr_goto 5 dX7_stepWhole_78 (by decide) ?_
            exact ih29 _ I86 v84 v75 hl19 hS87 e88 c90 (by have q := tkD_on (B := gB) (s := v22.toInt) (t := v84.toInt) (by exact om_fdc5c2d4 b40.2 b40.1 p41 h44 h45 p52 h55 h56 b67.2 b67.1 p68) (by exact om_73462c49 h83 h85); exact om_9fa72578 g26 q) (by exact om_fbe8e344 g27 h83 h85) (by rw [show (v84.toInt - v8.toInt).toNat = (v22.toInt - v8.toInt).toNat + 1 by exact om_83d288f6 g27 h83 h85, vfo_on (i := v22) (n := v65) (by exact om_ac656000 g27 h83 h85) p69]; simp only [rw28, lx62, lx64, lx71, lx74, lx76]) (by exact om_41fdf379 b3.2 b3.1 hm29 b31.2 b31.1 h32 h83 h85)
  exact lp29 _ _ I14 v8 v12 rfl hS15 c18 e16 rfl (by exact om_4a4c3493) (by rw [show (v8.toInt - v8.toInt).toNat = 0 by exact om_6650791a]; exact Int32.toInt_inj.mp (h13.trans rfl)) (Nat.lt_succ_self _)
def wik_X7_stepWord : List Nat := [450]
def wrk_X7_stepWord : List Nat := []
def wlk_X7_stepWord : List Nat := [453]
set_option maxHeartbeats 4000000 in
theorem fk_X7_stepWord {l : Launch} {T : Nat → Nat} {cn : Nat} {K N : Nat → Nat} {I0 : cz_I} {R0 : cz_R} {L0 : cz_L} {d : Int} (hW0 : Wf T cn K N I0 R0 d) (gB : cz_B) {a0 : Nat} (ta0 : T a0 = 7) (hT : ∀ t, R0 a0 0 = some t → Tx I0 t gB) (pre0 : (I0 a0 1).toInt = (gB.2)) (pre1 : (I0 a0 4).toInt = (I0 a0 2).toInt) : ConE l mX7_stepWord [.ref a0] cn K N I0 R0 L0 (ca_i (fun v cn' K' N' I' R' L' => cn = cn' ∧ K = K' ∧ N = N' ∧ R0 = R' ∧ St T cn K N d wik_X7_stepWord wrk_X7_stepWord I0 R0 I' R0 ∧ LgS T wlk_X7_stepWord L0 L' ∧ (v.toInt = (tkE gB (I0 a0 2).toInt) - (I0 a0 2).toInt) ∧ ((I' a0 2).toInt = (tkE gB (I0 a0 2).toInt)) ∧ ((L' a0 5).toInt = (tkX gB (I0 a0 2).toInt)) ∧ True)) := by
  refine ConE.of (by decide +kernel) rfl (Nat.le_of_ble_eq_true rfl) rfl (fun X hX hZ hE => ?_)
  subst hX
  have hS0 : St T cn K N d wik_X7_stepWord wrk_X7_stepWord I0 R0 I0 R0 := St.rf0 hW0
  have hL0 : LgS T wlk_X7_stepWord L0 L0 := LgS.rf0
  obtain ⟨v1, c2⟩ : ∃ v, I0 a0 1 = v := ⟨_, rfl⟩
  have b3 := iv7_1 hW0 ta0 c2
  have p4 := pre0
  rw [c2] at p4
  obtain ⟨v5, c6⟩ : ∃ v, I0 a0 4 = v := ⟨_, rfl⟩
  have b7 := iv7_4 hW0 ta0 c6
  obtain ⟨v8, c9⟩ : ∃ v, I0 a0 2 = v := ⟨_, rfl⟩
  have b10 := iv7_2 hS0.1 ta0 c9
  have p11 := pre1
  rw [c6] at p11
  rw [c9] at p11
  refine tr_aload_n dX7_stepWord_0 rfl ?_
  obtain ⟨y12, lx13⟩ : ∃ z : Int64, z = 0 := ⟨_, rfl⟩
  refine tr_lconst (v := y12) dX7_stepWord_1 (by rw [lx13]; rfl) ?_
  refine q_putLE dX7_stepWord_2 fl7_78 (kR7 hS0.1 ta0) (Or.inl rfl) hL0 ta0 (by decide +kernel) ?_
  intro L14 hL15 e16 f17
  have lp30 : ∀ (fu : Nat) (ls : Nat → Option Value) (I19 : cz_I) (L20 : cz_L) (v23 : Int32) (y25 : Int64), ls 0 = some (.ref a0) → St T cn K N d wik_X7_stepWord wrk_X7_stepWord I0 R0 I19 R0 → LgS T wlk_X7_stepWord L0 L20 → I19 a0 2 = v23 → L20 a0 5 = y25 → (tkE gB v23.toInt) = (tkE gB v8.toInt) → v23.toInt ≥ v8.toInt → y25 = wfo gB v8.toInt (v23.toInt - v8.toInt).toNat → (-v23.toInt + 900).toNat < fu → Tr X mX7_stepWord 5 ls [] cn K N I19 R0 L20 0 0 := by
    intro fu
    induction fu with
    | zero => intros; rename_i hz; exact absurd hz (Nat.not_lt_zero _)
    | succ fu ih30 =>
      intro ls I19 L20 v23 y25 hl18 hS21 hL22 c24 c26 g27 g28 rw29 hm30
      have b32 := iv7_2 hS21.1 ta0 c24
      refine tr_aload_n dX7_stepWord_5 hl18 ?_
      refine q_getI dX7_stepWord_6 fl7_48 (kR7 hS21.1 ta0) c24 ?_
      refine tr_aload_n dX7_stepWord_9 hl18 ?_
      refine q_getI dX7_stepWord_10 fl7_45 (kR7 hS21.1 ta0) ((hS21.cell ta0 (by decide +kernel)).trans c2) ?_
      refine q_icmp_ge 86 dX7_stepWord_13 (by decide) (fun h33 => ?_) (fun h33 => ?_)
      · skip
        have e34 : tkE gB v23.toInt = v23.toInt := tkE_fin (by exact om_56461f32 p4 h33)
        refine tr_aload_n dX7_stepWord_86 hl18 ?_
        refine q_getI dX7_stepWord_87 fl7_48 (kR7 hS21.1 ta0) c24 ?_
        refine tr_aload_n dX7_stepWord_90 hl18 ?_
        refine q_getI dX7_stepWord_91 fl7_68 (kR7 hS21.1 ta0) ((hS21.cell ta0 (by decide +kernel)).trans c6) ?_
        refine q_isubE dX7_stepWord_94 (by intro j1 j2 j3 j4; exact om_359413a3 b10.2 b10.1 p11 g28 b32.2 b32.1) ?_
        intro v35 h36
        exact tr_iret hZ dX7_stepWord_95 rfl (by decide) (by decide) ⟨v35, rfl, rfl, rfl, rfl, rfl, hS21, hL22, (by (try rw [c9]); first | done | with_reducible assumption | exact om_a8816560 p11 g27 e34 h36), (by (try rw [c24]); (try rw [c9]); first | done | with_reducible assumption | exact om_a3d15cac g27 e34), (by (try rw [c26]); (try rw [c9]); rw [tkX, rw29]; congr 2; exact om_ec920c27 p11 g27 g28 e34 h36), trivial⟩
      · skip
        refine tr_aload_n dX7_stepWord_16 hl18 ?_
        obtain ⟨a37, d38, ta37⟩ := rf7_0 hW0 ta0
        refine tr_getR dX7_stepWord_17 fl7_18 (kR7 hS21.1 ta0) d38 ?_
        refine tr_aload_n dX7_stepWord_20 hl18 ?_
        refine q_getI dX7_stepWord_21 fl7_48 (kR7 hS21.1 ta0) c24 ?_
        refine q_bald dX7_stepWord_24 (kR17 hS21.1 ta37) (ti_in (nR17 hS21.1 ta37) (by exact om_cc59603c b32.2 b32.1) (by exact om_bdf2c77f b3.2 b3.1 b32.2 b32.1 h33)) ?_
        intro v39 c40
        have b41 := iv17 hS21.1 ta37 c40
        have p42 := Tx.by ((TxA.kp hT hS21 ta0 rfl rfl rfl (by decide +kernel) (by decide +kernel)) _ d38) (by exact om_cc59603c b32.2 b32.1) (by exact om_a830ecb4 p4 h33) c40
        have p43 := Tx.at ((TxA.kp hT hS21 ta0 rfl rfl rfl (by decide +kernel) (by decide +kernel)) _ d38) (by exact om_cc59603c b32.2 b32.1) (by exact om_a830ecb4 p4 h33) c40
        refine q_bipush dX7_stepWord_25 (by decide +kernel) ?_
        intro v44 h45
        refine q_icmp_lt 86 dX7_stepWord_27 (by decide) (fun h46 => ?_) (fun h46 => ?_)
        · skip
          have e47 : tkE gB v23.toInt = v23.toInt := tkE_fin (by exact om_d7859955 b41.2 b41.1 p42 h45 h46)
          refine tr_aload_n dX7_stepWord_86 hl18 ?_
          refine q_getI dX7_stepWord_87 fl7_48 (kR7 hS21.1 ta0) c24 ?_
          refine tr_aload_n dX7_stepWord_90 hl18 ?_
          refine q_getI dX7_stepWord_91 fl7_68 (kR7 hS21.1 ta0) ((hS21.cell ta0 (by decide +kernel)).trans c6) ?_
          refine q_isubE dX7_stepWord_94 (by intro j1 j2 j3 j4; exact om_d3133e03 b3.2 b3.1 b10.2 b10.1 p11 g28 b32.2 b32.1 h33) ?_
          intro v48 h49
          exact tr_iret hZ dX7_stepWord_95 rfl (by decide) (by decide) ⟨v48, rfl, rfl, rfl, rfl, rfl, hS21, hL22, (by (try rw [c9]); first | done | with_reducible assumption | exact om_a8816560 p11 g27 e47 h49), (by (try rw [c24]); (try rw [c9]); first | done | with_reducible assumption | exact om_a3d15cac g27 e47), (by (try rw [c26]); (try rw [c9]); rw [tkX, rw29]; congr 2; exact om_ec920c27 p11 g27 g28 e47 h49), trivial⟩
        · skip
          refine tr_aload_n dX7_stepWord_30 hl18 ?_
          refine tr_getR dX7_stepWord_31 fl7_18 (kR7 hS21.1 ta0) d38 ?_
          refine tr_aload_n dX7_stepWord_34 hl18 ?_
          refine q_getI dX7_stepWord_35 fl7_48 (kR7 hS21.1 ta0) c24 ?_
          refine q_bald dX7_stepWord_38 (kR17 hS21.1 ta37) (ti_in (nR17 hS21.1 ta37) (by exact om_cc59603c b32.2 b32.1) (by exact om_bdf2c77f b3.2 b3.1 b32.2 b32.1 h33)) ?_
          intro v50 c51
          have b52 := iv17 hS21.1 ta37 c51
          have p53 := Tx.by ((TxA.kp hT hS21 ta0 rfl rfl rfl (by decide +kernel) (by decide +kernel)) _ d38) (by exact om_cc59603c b32.2 b32.1) (by exact om_a830ecb4 p4 h33) c51
          have p54 := Tx.at ((TxA.kp hT hS21 ta0 rfl rfl rfl (by decide +kernel) (by decide +kernel)) _ d38) (by exact om_cc59603c b32.2 b32.1) (by exact om_a830ecb4 p4 h33) c51
          refine q_bipush dX7_stepWord_39 (by decide +kernel) ?_
          intro v55 h56
          refine q_icmp_gt 86 dX7_stepWord_41 (by decide) (fun h57 => ?_) (fun h57 => ?_)
          · skip
            have e58 : tkE gB v23.toInt = v23.toInt := tkE_fin (by exact om_4615c56f b41.2 b41.1 p42 h45 h46 p53 h56 h57)
            refine tr_aload_n dX7_stepWord_86 hl18 ?_
            refine q_getI dX7_stepWord_87 fl7_48 (kR7 hS21.1 ta0) c24 ?_
            refine tr_aload_n dX7_stepWord_90 hl18 ?_
            refine q_getI dX7_stepWord_91 fl7_68 (kR7 hS21.1 ta0) ((hS21.cell ta0 (by decide +kernel)).trans c6) ?_
            refine q_isubE dX7_stepWord_94 (by intro j1 j2 j3 j4; exact om_d3133e03 b3.2 b3.1 b10.2 b10.1 p11 g28 b32.2 b32.1 h33) ?_
            intro v59 h60
            exact tr_iret hZ dX7_stepWord_95 rfl (by decide) (by decide) ⟨v59, rfl, rfl, rfl, rfl, rfl, hS21, hL22, (by (try rw [c9]); first | done | with_reducible assumption | exact om_a8816560 p11 g27 e58 h60), (by (try rw [c24]); (try rw [c9]); first | done | with_reducible assumption | exact om_a3d15cac g27 e58), (by (try rw [c26]); (try rw [c9]); rw [tkX, rw29]; congr 2; exact om_ec920c27 p11 g27 g28 e58 h60), trivial⟩
          · skip
            refine tr_aload_n dX7_stepWord_44 hl18 ?_
            refine tr_aload_n dX7_stepWord_45 hl18 ?_
            refine q_getLE dX7_stepWord_46 fl7_78 (kR7 hS21.1 ta0) c26 ?_
            refine tr_ldc2 (v := 32) dX7_stepWord_49 ld7_82 ?_
            obtain ⟨y61, lx62⟩ : ∃ z : Int64, z = 32 := ⟨_, rfl⟩
            rw [← lx62]
            refine tr_lmul dX7_stepWord_52 ?_
            obtain ⟨y63, lx64⟩ : ∃ z, z = y25 * y61 := ⟨_, rfl⟩
            rw [← lx64]
            refine tr_aload_n dX7_stepWord_53 hl18 ?_
            refine tr_getR dX7_stepWord_54 fl7_18 (kR7 hS21.1 ta0) d38 ?_
            refine tr_aload_n dX7_stepWord_57 hl18 ?_
            refine q_getI dX7_stepWord_58 fl7_48 (kR7 hS21.1 ta0) c24 ?_
            refine q_bald dX7_stepWord_61 (kR17 hS21.1 ta37) (ti_in (nR17 hS21.1 ta37) (by exact om_cc59603c b32.2 b32.1) (by exact om_bdf2c77f b3.2 b3.1 b32.2 b32.1 h33)) ?_
            intro v65 c66
            have b67 := iv17 hS21.1 ta37 c66
            have p68 := Tx.by ((TxA.kp hT hS21 ta0 rfl rfl rfl (by decide +kernel) (by decide +kernel)) _ d38) (by exact om_cc59603c b32.2 b32.1) (by exact om_a830ecb4 p4 h33) c66
            have p69 := Tx.at ((TxA.kp hT hS21 ta0 rfl rfl rfl (by decide +kernel) (by decide +kernel)) _ d38) (by exact om_cc59603c b32.2 b32.1) (by exact om_a830ecb4 p4 h33) c66
            refine tr_i2l dX7_stepWord_62 ?_
            obtain ⟨y70, lx71⟩ : ∃ z, z = v65.toInt64 := ⟨_, rfl⟩
            rw [← lx71]
            refine tr_ladd dX7_stepWord_63 ?_
            obtain ⟨y72, lx73⟩ : ∃ z, z = y63 + y70 := ⟨_, rfl⟩
            rw [← lx73]
            refine tr_ldc2 (v := 97) dX7_stepWord_64 ld7_84 ?_
            obtain ⟨y74, lx75⟩ : ∃ z : Int64, z = 97 := ⟨_, rfl⟩
            rw [← lx75]
            refine tr_lsub dX7_stepWord_67 ?_
            obtain ⟨y76, lx77⟩ : ∃ z, z = y72 - y74 := ⟨_, rfl⟩
            rw [← lx77]
            obtain ⟨y78, lx79⟩ : ∃ z : Int64, z = 1 := ⟨_, rfl⟩
            refine tr_lconst (v := y78) dX7_stepWord_68 (by rw [lx79]; rfl) ?_
            refine tr_ladd dX7_stepWord_69 ?_
            obtain ⟨y80, lx81⟩ : ∃ z, z = y76 + y78 := ⟨_, rfl⟩
            rw [← lx81]
            refine q_putLE dX7_stepWord_70 fl7_78 (kR7 hS21.1 ta0) (Or.inl rfl) hL22 ta0 (by decide +kernel) ?_
            intro L82 hL83 e84 f85
            refine tr_aload_n dX7_stepWord_73 hl18 ?_
            refine tr_dup dX7_stepWord_74 rfl ?_
            refine q_getI dX7_stepWord_75 fl7_48 (kR7 hS21.1 ta0) c24 ?_
            refine q_iconst dX7_stepWord_78 (by decide) ?_
            intro v86 h87
            refine q_iaddE dX7_stepWord_79 (by intro j1 j2 j3 j4; exact om_c7cba203 b3.2 b3.1 b32.2 b32.1 h33 h87) ?_
            intro v88 h89
            refine q_putI dX7_stepWord_80 fl7_48 (kR7 hS21.1 ta0) (Or.inl rfl) hS21 ta0 (by show (0 : Int) ≤ v88.toInt ∧ v88.toInt ≤ (900 : Int); exact om_2221b2eb b3.2 b3.1 b32.2 b32.1 h33 h87 h89) rfl (by decide +kernel) ?_
            intro I90 hS91 e92 f93
            refine tr_goto 5 dX7_stepWord_83 (by decide) ?_
            exact ih30 _ I90 L82 v88 y80 hl18 hS91 hL83 e92 e84 (by have q := tkE_on (B := gB) (s := v23.toInt) (t := v88.toInt) (by exact om_8e3ed592 b41.2 b41.1 p42 h45 h46 p53 h56 h57 b67.2 b67.1 p68) (by exact om_73462c49 h87 h89); exact om_9fa72578 g27 q) (by exact om_fbe8e344 g28 h87 h89) (by rw [show (v88.toInt - v8.toInt).toNat = (v23.toInt - v8.toInt).toNat + 1 by exact om_83d288f6 g28 h87 h89, wfo_on (i := v23) (n := v65) (by exact om_ac656000 g28 h87 h89) p69]; simp only [rw29, lx13, lx62, lx64, lx71, lx73, lx75, lx77, lx79, lx81]) (by exact om_41fdf379 b3.2 b3.1 hm30 b32.2 b32.1 h33 h87 h89)
  exact lp30 _ _ I0 L14 v8 y12 rfl hS0 hL15 c9 e16 rfl (by exact om_4a4c3493) (by rw [lx13, show (v8.toInt - v8.toInt).toNat = 0 by exact om_6650791a]; rfl) (Nat.lt_succ_self _)
def wik_X7_step : List Nat := [450, 451, 452, 454]
def wrk_X7_step : List Nat := []
def wlk_X7_step : List Nat := [453]
set_option maxHeartbeats 4000000 in
theorem fk_X7_step {l : Launch} {T : Nat → Nat} {cn : Nat} {K N : Nat → Nat} {I0 : cz_I} {R0 : cz_R} {L0 : cz_L} {d : Int} (hW0 : Wf T cn K N I0 R0 d) (gB : cz_B) (gp : Int) {a0 : Nat} (ta0 : T a0 = 7) (hT : ∀ t, R0 a0 0 = some t → Tx I0 t gB) (pre0 : (I0 a0 2).toInt = (gp)) (pre1 : (I0 a0 1).toInt = (gB.2)) : ConE l mX7_step [.ref a0] cn K N I0 R0 L0 (ca_v (fun cn' K' N' I' R' L' => cn = cn' ∧ K = K' ∧ N = N' ∧ R0 = R' ∧ St T cn K N d wik_X7_step wrk_X7_step I0 R0 I' R0 ∧ LgS T wlk_X7_step L0 L' ∧ ((I' a0 2).toInt = (tkN gB gp)) ∧ ((I' a0 4).toInt = (tkS gB gp)) ∧ ((I' a0 3).toInt = (tkK gB gp)) ∧ ((AtW ((tkK gB gp)) ((L' a0 5).toInt) ((tkW gB gp)))) ∧ ((AtV ((tkK gB gp)) ((I' a0 6).toInt) ((tkV gB gp)))) ∧ True)) := by
  refine ConE.of (by decide +kernel) rfl (Nat.le_of_ble_eq_true rfl) rfl (fun X hX hZ hE => ?_)
  subst hX
  have hS0 : St T cn K N d wik_X7_step wrk_X7_step I0 R0 I0 R0 := St.rf0 hW0
  have hL0 : LgS T wlk_X7_step L0 L0 := LgS.rf0
  obtain ⟨v1, c2⟩ : ∃ v, I0 a0 2 = v := ⟨_, rfl⟩
  have b3 := iv7_2 hS0.1 ta0 c2
  have p4 := pre0
  rw [c2] at p4
  obtain ⟨v5, c6⟩ : ∃ v, I0 a0 1 = v := ⟨_, rfl⟩
  have b7 := iv7_1 hW0 ta0 c6
  have p8 := pre1
  rw [c6] at p8
  have lp17 : ∀ (fu : Nat) (ls : Nat → Option Value) (I10 : cz_I) (L11 : cz_L) (v14 : Int32), ls 0 = some (.ref a0) → St T cn K N d wik_X7_step wrk_X7_step I0 R0 I10 R0 → LgS T wlk_X7_step L0 L11 → I10 a0 2 = v14 → (tkS gB v14.toInt) = (tkS gB gp) → (-v14.toInt + 900).toNat < fu → Tr X mX7_step 0 ls [] cn K N I10 R0 L11 0 0 := by
    intro fu
    induction fu with
    | zero => intros; rename_i hz; exact absurd hz (Nat.not_lt_zero _)
    | succ fu ih17 =>
      intro ls I10 L11 v14 hl9 hS12 hL13 c15 g16 hm17
      have b19 := iv7_2 hS12.1 ta0 c15
      refine tr_aload_n dX7_step_0 hl9 ?_
      refine q_getI dX7_step_1 fl7_48 (kR7 hS12.1 ta0) c15 ?_
      refine tr_aload_n dX7_step_4 hl9 ?_
      refine q_getI dX7_step_5 fl7_45 (kR7 hS12.1 ta0) ((hS12.cell ta0 (by decide +kernel)).trans c6) ?_
      refine q_icmp_ge 38 dX7_step_8 (by decide) (fun h20 => ?_) (fun h20 => ?_)
      · skip
        have e21 : tkS gB gp = v14.toInt := by have q := tkS_fin (B := gB) (s := v14.toInt) (by exact om_be03bb62 p8 h20); exact om_444e8b26 g16 q
        refine tr_aload_n dX7_step_38 hl9 ?_
        refine tr_aload_n dX7_step_39 hl9 ?_
        refine q_getI dX7_step_40 fl7_48 (kR7 hS12.1 ta0) c15 ?_
        refine q_putI dX7_step_43 fl7_68 (kR7 hS12.1 ta0) (Or.inl rfl) hS12 ta0 (by show (0 : Int) ≤ v14.toInt ∧ v14.toInt ≤ (900 : Int); exact om_7caca98d b19) rfl (by decide +kernel) ?_
        intro I22 hS23 e24 f25
        have c26 : I22 a0 2 = v14 := (f25 _ _ (fun q => absurd q.2 (by decide))).trans c15
        refine tr_aload_n dX7_step_46 hl9 ?_
        refine q_getI dX7_step_47 fl7_48 (kR7 hS23.1 ta0) c26 ?_
        refine tr_aload_n dX7_step_50 hl9 ?_
        refine q_getI dX7_step_51 fl7_45 (kR7 hS23.1 ta0) ((hS23.cell ta0 (by decide +kernel)).trans c6) ?_
        refine q_icmp_lt 63 dX7_step_54 (by decide) (fun h27 => ?_) (fun h27 => ?_)
        · skip
          refine tr_aload_n dX7_step_63 hl9 ?_
          obtain ⟨a28, d29, ta28⟩ := rf7_0 hW0 ta0
          refine tr_getR dX7_step_64 fl7_18 (kR7 hS23.1 ta0) d29 ?_
          refine tr_aload_n dX7_step_67 hl9 ?_
          refine q_getI dX7_step_68 fl7_48 (kR7 hS23.1 ta0) c26 ?_
          refine q_bald dX7_step_71 (kR17 hS23.1 ta28) (ti_in (nR17 hS23.1 ta28) (by exact om_6a6c4c60 h20 h27) (by exact om_23a67691 h20 h27)) ?_
          intro v30 c31
          have b32 := iv17 hS23.1 ta28 c31
          have p33 := Tx.by ((TxA.kp hT hS23 ta0 rfl rfl rfl (by decide +kernel) (by decide +kernel)) _ d29) (by exact om_6a6c4c60 h20 h27) (by exact om_488a4b29 h20 h27) c31
          have p34 := Tx.at ((TxA.kp hT hS23 ta0 rfl rfl rfl (by decide +kernel) (by decide +kernel)) _ d29) (by exact om_6a6c4c60 h20 h27) (by exact om_488a4b29 h20 h27) c31
          refine tr_istore_n dX7_step_72 (by decide) (by decide) ?_
          refine tr_iload_n dX7_step_73 rfl ?_
          refine q_bipush dX7_step_74 (by decide +kernel) ?_
          intro v35 h36
          refine q_icmp_lt 106 dX7_step_76 (by decide) (fun h37 => ?_) (fun h37 => ?_)
          · skip
            refine tr_iload_n dX7_step_106 rfl ?_
            refine q_bipush dX7_step_107 (by decide +kernel) ?_
            intro v38 h39
            refine q_icmp_lt 138 dX7_step_109 (by decide) (fun h40 => ?_) (fun h40 => ?_)
            · skip
              refine tr_aload_n dX7_step_138 hl9 ?_
              refine tr_iload_n dX7_step_139 rfl ?_
              refine q_bipush dX7_step_140 (by decide +kernel) ?_
              intro v41 h42
              refine q_icmp_ne 149 dX7_step_142 (by decide) (fun h43 => ?_) (fun h43 => ?_)
              · skip
                refine tr_iload_n dX7_step_149 rfl ?_
                refine q_bipush dX7_step_150 (by decide +kernel) ?_
                intro v44 h45
                refine q_icmp_ne 159 dX7_step_152 (by decide) (fun h46 => ?_) (fun h46 => ?_)
                · skip
                  refine q_iconst dX7_step_159 (by decide) ?_
                  intro v47 h48
                  refine q_putI dX7_step_160 fl7_58 (kR7 hS23.1 ta0) (Or.inl rfl) hS23 ta0 (by show (0 : Int) ≤ v47.toInt ∧ v47.toInt ≤ (5 : Int); exact om_5929b91d h20 h27) rfl (by decide +kernel) ?_
                  intro I49 hS50 e51 f52
                  have c53 : I49 a0 2 = v14 := (f52 _ _ (fun q => absurd q.2 (by decide))).trans c26
                  have c54 : I49 a0 4 = v14 := (f52 _ _ (fun q => absurd q.2 (by decide))).trans e24
                  refine tr_aload_n dX7_step_163 hl9 ?_
                  refine tr_dup dX7_step_164 rfl ?_
                  refine q_getI dX7_step_165 fl7_48 (kR7 hS50.1 ta0) c53 ?_
                  refine q_iconst dX7_step_168 (by decide) ?_
                  intro v55 h56
                  refine q_iaddE dX7_step_169 (by intro j1 j2 j3 j4; exact om_b8dd10c4 h20 h27) ?_
                  intro v57 h58
                  refine q_putI dX7_step_170 fl7_48 (kR7 hS50.1 ta0) (Or.inl rfl) hS50 ta0 (by show (0 : Int) ≤ v57.toInt ∧ v57.toInt ≤ (900 : Int); exact om_2d1d8b7f h20 h27) rfl (by decide +kernel) ?_
                  intro I59 hS60 e61 f62
                  have c63 : I59 a0 4 = v14 := (f62 _ _ (fun q => absurd q.2 (by decide))).trans c54
                  have c64 : I59 a0 3 = v47 := (f62 _ _ (fun q => absurd q.2 (by decide))).trans e51
                  obtain ⟨y65, c66⟩ : ∃ v, L11 a0 5 = v := ⟨_, rfl⟩
                  obtain ⟨v67, c68⟩ : ∃ v, I59 a0 6 = v := ⟨_, rfl⟩
                  exact tr_vret hZ dX7_step_173 rfl (by decide) (by decide) ⟨rfl, rfl, rfl, rfl, rfl, hS60, hL13, (by (try rw [e61]); simp only [tkK, tkN, e21]; exact om_2bfd4e88 h20 h27), (by (try rw [c63]); first | done | with_reducible assumption | exact om_510fc2a5 h20 h27), (by (try rw [c64]); simp only [tkK, tkN, e21]; exact om_a55f070f h20 h27 h48), (by (try rw [c66]); intro z; first | (rw [tkW_X, e21]; exact om_d561bfb2 h20 h27) | (exfalso; revert z; simp only [tkK, e21]; repeat' (first | split | omega))), (by (try rw [c68]); intro z; first | (rw [tkV_Y, e21]; exact om_d561bfb2 h20 h27) | (exfalso; revert z; simp only [tkK, e21]; repeat' (first | split | omega))), trivial⟩
                · skip
                  refine q_iconst dX7_step_155 (by decide) ?_
                  intro v69 h70
                  refine tr_goto 160 dX7_step_156 (by decide) ?_
                  refine q_putI dX7_step_160 fl7_58 (kR7 hS23.1 ta0) (Or.inl rfl) hS23 ta0 (by show (0 : Int) ≤ v69.toInt ∧ v69.toInt ≤ (5 : Int); exact om_5929b91d h20 h27) rfl (by decide +kernel) ?_
                  intro I71 hS72 e73 f74
                  have c75 : I71 a0 2 = v14 := (f74 _ _ (fun q => absurd q.2 (by decide))).trans c26
                  have c76 : I71 a0 4 = v14 := (f74 _ _ (fun q => absurd q.2 (by decide))).trans e24
                  refine tr_aload_n dX7_step_163 hl9 ?_
                  refine tr_dup dX7_step_164 rfl ?_
                  refine q_getI dX7_step_165 fl7_48 (kR7 hS72.1 ta0) c75 ?_
                  refine q_iconst dX7_step_168 (by decide) ?_
                  intro v77 h78
                  refine q_iaddE dX7_step_169 (by intro j1 j2 j3 j4; exact om_b8dd10c4 h20 h27) ?_
                  intro v79 h80
                  refine q_putI dX7_step_170 fl7_48 (kR7 hS72.1 ta0) (Or.inl rfl) hS72 ta0 (by show (0 : Int) ≤ v79.toInt ∧ v79.toInt ≤ (900 : Int); exact om_2d1d8b7f h20 h27) rfl (by decide +kernel) ?_
                  intro I81 hS82 e83 f84
                  have c85 : I81 a0 4 = v14 := (f84 _ _ (fun q => absurd q.2 (by decide))).trans c76
                  have c86 : I81 a0 3 = v69 := (f84 _ _ (fun q => absurd q.2 (by decide))).trans e73
                  obtain ⟨y87, c88⟩ : ∃ v, L11 a0 5 = v := ⟨_, rfl⟩
                  obtain ⟨v89, c90⟩ : ∃ v, I81 a0 6 = v := ⟨_, rfl⟩
                  exact tr_vret hZ dX7_step_173 rfl (by decide) (by decide) ⟨rfl, rfl, rfl, rfl, rfl, hS82, hL13, (by (try rw [e83]); simp only [tkK, tkN, e21]; exact om_2bfd4e88 h20 h27), (by (try rw [c85]); first | done | with_reducible assumption | exact om_510fc2a5 h20 h27), (by (try rw [c86]); simp only [tkK, tkN, e21]; exact om_35b032e7 h20 h27 h70), (by (try rw [c88]); intro z; first | (rw [tkW_X, e21]; exact om_d561bfb2 h20 h27) | (exfalso; revert z; simp only [tkK, e21]; repeat' (first | split | omega))), (by (try rw [c90]); intro z; first | (rw [tkV_Y, e21]; exact om_d561bfb2 h20 h27) | (exfalso; revert z; simp only [tkK, e21]; repeat' (first | split | omega))), trivial⟩
              · skip
                exfalso; exact om_a1483620 h20 h27
            · skip
              refine tr_iload_n dX7_step_112 rfl ?_
              refine q_bipush dX7_step_113 (by decide +kernel) ?_
              intro v91 h92
              refine q_icmp_gt 138 dX7_step_115 (by decide) (fun h93 => ?_) (fun h93 => ?_)
              · skip
                refine tr_aload_n dX7_step_138 hl9 ?_
                refine tr_iload_n dX7_step_139 rfl ?_
                refine q_bipush dX7_step_140 (by decide +kernel) ?_
                intro v94 h95
                refine q_icmp_ne 149 dX7_step_142 (by decide) (fun h96 => ?_) (fun h96 => ?_)
                · skip
                  refine tr_iload_n dX7_step_149 rfl ?_
                  refine q_bipush dX7_step_150 (by decide +kernel) ?_
                  intro v97 h98
                  refine q_icmp_ne 159 dX7_step_152 (by decide) (fun h99 => ?_) (fun h99 => ?_)
                  · skip
                    refine q_iconst dX7_step_159 (by decide) ?_
                    intro v100 h101
                    refine q_putI dX7_step_160 fl7_58 (kR7 hS23.1 ta0) (Or.inl rfl) hS23 ta0 (by show (0 : Int) ≤ v100.toInt ∧ v100.toInt ≤ (5 : Int); exact om_5929b91d h20 h27) rfl (by decide +kernel) ?_
                    intro I102 hS103 e104 f105
                    have c106 : I102 a0 2 = v14 := (f105 _ _ (fun q => absurd q.2 (by decide))).trans c26
                    have c107 : I102 a0 4 = v14 := (f105 _ _ (fun q => absurd q.2 (by decide))).trans e24
                    refine tr_aload_n dX7_step_163 hl9 ?_
                    refine tr_dup dX7_step_164 rfl ?_
                    refine q_getI dX7_step_165 fl7_48 (kR7 hS103.1 ta0) c106 ?_
                    refine q_iconst dX7_step_168 (by decide) ?_
                    intro v108 h109
                    refine q_iaddE dX7_step_169 (by intro j1 j2 j3 j4; exact om_b8dd10c4 h20 h27) ?_
                    intro v110 h111
                    refine q_putI dX7_step_170 fl7_48 (kR7 hS103.1 ta0) (Or.inl rfl) hS103 ta0 (by show (0 : Int) ≤ v110.toInt ∧ v110.toInt ≤ (900 : Int); exact om_2d1d8b7f h20 h27) rfl (by decide +kernel) ?_
                    intro I112 hS113 e114 f115
                    have c116 : I112 a0 4 = v14 := (f115 _ _ (fun q => absurd q.2 (by decide))).trans c107
                    have c117 : I112 a0 3 = v100 := (f115 _ _ (fun q => absurd q.2 (by decide))).trans e104
                    obtain ⟨y118, c119⟩ : ∃ v, L11 a0 5 = v := ⟨_, rfl⟩
                    obtain ⟨v120, c121⟩ : ∃ v, I112 a0 6 = v := ⟨_, rfl⟩
                    exact tr_vret hZ dX7_step_173 rfl (by decide) (by decide) ⟨rfl, rfl, rfl, rfl, rfl, hS113, hL13, (by (try rw [e114]); simp only [tkK, tkN, e21]; exact om_2bfd4e88 h20 h27), (by (try rw [c116]); first | done | with_reducible assumption | exact om_510fc2a5 h20 h27), (by (try rw [c117]); simp only [tkK, tkN, e21]; exact om_a55f070f h20 h27 h101), (by (try rw [c119]); intro z; first | (rw [tkW_X, e21]; exact om_d561bfb2 h20 h27) | (exfalso; revert z; simp only [tkK, e21]; repeat' (first | split | omega))), (by (try rw [c121]); intro z; first | (rw [tkV_Y, e21]; exact om_d561bfb2 h20 h27) | (exfalso; revert z; simp only [tkK, e21]; repeat' (first | split | omega))), trivial⟩
                  · skip
                    exfalso; exact om_a1483620 h20 h27
                · skip
                  refine q_iconst dX7_step_145 (by decide) ?_
                  intro v122 h123
                  refine tr_goto 160 dX7_step_146 (by decide) ?_
                  refine q_putI dX7_step_160 fl7_58 (kR7 hS23.1 ta0) (Or.inl rfl) hS23 ta0 (by show (0 : Int) ≤ v122.toInt ∧ v122.toInt ≤ (5 : Int); exact om_5929b91d h20 h27) rfl (by decide +kernel) ?_
                  intro I124 hS125 e126 f127
                  have c128 : I124 a0 2 = v14 := (f127 _ _ (fun q => absurd q.2 (by decide))).trans c26
                  have c129 : I124 a0 4 = v14 := (f127 _ _ (fun q => absurd q.2 (by decide))).trans e24
                  refine tr_aload_n dX7_step_163 hl9 ?_
                  refine tr_dup dX7_step_164 rfl ?_
                  refine q_getI dX7_step_165 fl7_48 (kR7 hS125.1 ta0) c128 ?_
                  refine q_iconst dX7_step_168 (by decide) ?_
                  intro v130 h131
                  refine q_iaddE dX7_step_169 (by intro j1 j2 j3 j4; exact om_b8dd10c4 h20 h27) ?_
                  intro v132 h133
                  refine q_putI dX7_step_170 fl7_48 (kR7 hS125.1 ta0) (Or.inl rfl) hS125 ta0 (by show (0 : Int) ≤ v132.toInt ∧ v132.toInt ≤ (900 : Int); exact om_2d1d8b7f h20 h27) rfl (by decide +kernel) ?_
                  intro I134 hS135 e136 f137
                  have c138 : I134 a0 4 = v14 := (f137 _ _ (fun q => absurd q.2 (by decide))).trans c129
                  have c139 : I134 a0 3 = v122 := (f137 _ _ (fun q => absurd q.2 (by decide))).trans e126
                  obtain ⟨y140, c141⟩ : ∃ v, L11 a0 5 = v := ⟨_, rfl⟩
                  obtain ⟨v142, c143⟩ : ∃ v, I134 a0 6 = v := ⟨_, rfl⟩
                  exact tr_vret hZ dX7_step_173 rfl (by decide) (by decide) ⟨rfl, rfl, rfl, rfl, rfl, hS135, hL13, (by (try rw [e136]); simp only [tkK, tkN, e21]; exact om_2bfd4e88 h20 h27), (by (try rw [c138]); first | done | with_reducible assumption | exact om_510fc2a5 h20 h27), (by (try rw [c139]); simp only [tkK, tkN, e21]; exact om_31588495 h20 h27 h123), (by (try rw [c141]); intro z; first | (rw [tkW_X, e21]; exact om_d561bfb2 h20 h27) | (exfalso; revert z; simp only [tkK, e21]; repeat' (first | split | omega))), (by (try rw [c143]); intro z; first | (rw [tkV_Y, e21]; exact om_d561bfb2 h20 h27) | (exfalso; revert z; simp only [tkK, e21]; repeat' (first | split | omega))), trivial⟩
              · skip
                refine tr_aload_n dX7_step_118 hl9 ?_
                refine tr_aload_n dX7_step_119 hl9 ?_
                refine q_callVi hE (M' := mX7_stepWhole) (as := []) dX7_step_120 lk7_75 inX7_stepWhole seX7_stepWhole myX7_stepWhole (by decide) ⟨by decide, by decide⟩ rfl (kR7 hS23.1 ta0) (Nat.le_of_ble_eq_true rfl) rfl rfl (by decide) (by decide) (fk_X7_stepWhole hS23.1 (gB) ta0 (TxA.kp hT hS23 ta0 rfl rfl rfl (by decide +kernel) (by decide +kernel)) (by (try rw [((hS23.cell ta0 (by decide +kernel)).trans c6)]); first | done | with_reducible assumption | omega) (by (try rw [e24]); (try rw [c26]); first | done | with_reducible assumption | omega)) ?_
                rintro v149 cn' K' N' I144 R145 L146 ⟨rfl, rfl, rfl, rfl, rfl, g147, p150, p151, p152, -⟩
                have hS153 := hS23.tr g147 (by decide +kernel) (by decide +kernel)
                have c154 : I144 a0 4 = v14 := (g147.cell ta0 (by decide +kernel)).trans e24
                rw [c26] at p150
                obtain ⟨v155, c156⟩ : ∃ v, I144 a0 2 = v := ⟨_, rfl⟩
                have b157 := iv7_2 hS153.1 ta0 c156
                rw [c156] at p151
                rw [c26] at p151
                obtain ⟨v158, c159⟩ : ∃ v, I144 a0 6 = v := ⟨_, rfl⟩
                rw [c159] at p152
                rw [c26] at p152
                refine q_iconst dX7_step_123 (by decide) ?_
                intro v160 h161
                refine q_icmp_gt 131 dX7_step_124 (by decide) (fun h162 => ?_) (fun h162 => ?_)
                · skip
                  refine q_iconst dX7_step_131 (by decide) ?_
                  intro v163 h164
                  refine q_putI dX7_step_132 fl7_58 (kR7 hS153.1 ta0) (Or.inl rfl) hS153 ta0 (by show (0 : Int) ≤ v163.toInt ∧ v163.toInt ≤ (5 : Int); exact om_5929b91d h20 h27) rfl (by decide +kernel) ?_
                  intro I165 hS166 e167 f168
                  have c169 : I165 a0 4 = v14 := (f168 _ _ (fun q => absurd q.2 (by decide))).trans c154
                  have c170 : I165 a0 2 = v155 := (f168 _ _ (fun q => absurd q.2 (by decide))).trans c156
                  have c171 : I165 a0 6 = v158 := (f168 _ _ (fun q => absurd q.2 (by decide))).trans c159
                  refine tr_goto 173 dX7_step_135 (by decide) ?_
                  obtain ⟨y172, c173⟩ : ∃ v, L11 a0 5 = v := ⟨_, rfl⟩
                  exact tr_vret hZ dX7_step_173 rfl (by decide) (by decide) ⟨rfl, rfl, rfl, rfl, rfl, hS166, hL13, (by (try rw [c170]); simp only [tkK, tkN, e21]; exact om_b5a7746c h20 h27 p151), (by (try rw [c169]); first | done | with_reducible assumption | exact om_510fc2a5 h20 h27), (by (try rw [e167]); simp only [tkK, tkN, e21]; exact om_a55f070f h20 h27 h164), (by (try rw [c173]); intro z; first | (rw [tkW_X, e21]; exact om_d561bfb2 h20 h27) | (exfalso; revert z; simp only [tkK, e21]; repeat' (first | split | omega))), (by (try rw [c171]); intro z; first | (rw [tkV_Y, e21]; exact om_acd7a85a p152) | (exfalso; revert z; simp only [tkK, e21]; repeat' (first | split | omega))), trivial⟩
                · skip
                  refine q_iconst dX7_step_127 (by decide) ?_
                  intro v174 h175
                  refine tr_goto 132 dX7_step_128 (by decide) ?_
                  refine q_putI dX7_step_132 fl7_58 (kR7 hS153.1 ta0) (Or.inl rfl) hS153 ta0 (by show (0 : Int) ≤ v174.toInt ∧ v174.toInt ≤ (5 : Int); exact om_5929b91d h20 h27) rfl (by decide +kernel) ?_
                  intro I176 hS177 e178 f179
                  have c180 : I176 a0 4 = v14 := (f179 _ _ (fun q => absurd q.2 (by decide))).trans c154
                  have c181 : I176 a0 2 = v155 := (f179 _ _ (fun q => absurd q.2 (by decide))).trans c156
                  have c182 : I176 a0 6 = v158 := (f179 _ _ (fun q => absurd q.2 (by decide))).trans c159
                  refine tr_goto 173 dX7_step_135 (by decide) ?_
                  obtain ⟨y183, c184⟩ : ∃ v, L11 a0 5 = v := ⟨_, rfl⟩
                  exact tr_vret hZ dX7_step_173 rfl (by decide) (by decide) ⟨rfl, rfl, rfl, rfl, rfl, hS177, hL13, (by (try rw [c181]); simp only [tkK, tkN, e21]; exact om_b5a7746c h20 h27 p151), (by (try rw [c180]); first | done | with_reducible assumption | exact om_510fc2a5 h20 h27), (by (try rw [e178]); simp only [tkK, tkN, e21]; exact om_a68be808 h20 h27 h175), (by (try rw [c184]); intro z; first | (rw [tkW_X, e21]; exact om_d561bfb2 h20 h27) | (exfalso; revert z; simp only [tkK, e21]; repeat' (first | split | omega))), (by (try rw [c182]); intro z; first | (rw [tkV_Y, e21]; exact om_acd7a85a p152) | (exfalso; revert z; simp only [tkK, e21]; repeat' (first | split | omega))), trivial⟩
          · skip
            refine tr_iload_n dX7_step_79 rfl ?_
            refine q_bipush dX7_step_80 (by decide +kernel) ?_
            intro v185 h186
            refine q_icmp_gt 106 dX7_step_82 (by decide) (fun h187 => ?_) (fun h187 => ?_)
            · skip
              refine tr_iload_n dX7_step_106 rfl ?_
              refine q_bipush dX7_step_107 (by decide +kernel) ?_
              intro v188 h189
              refine q_icmp_lt 138 dX7_step_109 (by decide) (fun h190 => ?_) (fun h190 => ?_)
              · skip
                exfalso; exact om_a1483620 h20 h27
              · skip
                refine tr_iload_n dX7_step_112 rfl ?_
                refine q_bipush dX7_step_113 (by decide +kernel) ?_
                intro v191 h192
                refine q_icmp_gt 138 dX7_step_115 (by decide) (fun h193 => ?_) (fun h193 => ?_)
                · skip
                  refine tr_aload_n dX7_step_138 hl9 ?_
                  refine tr_iload_n dX7_step_139 rfl ?_
                  refine q_bipush dX7_step_140 (by decide +kernel) ?_
                  intro v194 h195
                  refine q_icmp_ne 149 dX7_step_142 (by decide) (fun h196 => ?_) (fun h196 => ?_)
                  · skip
                    refine tr_iload_n dX7_step_149 rfl ?_
                    refine q_bipush dX7_step_150 (by decide +kernel) ?_
                    intro v197 h198
                    refine q_icmp_ne 159 dX7_step_152 (by decide) (fun h199 => ?_) (fun h199 => ?_)
                    · skip
                      refine q_iconst dX7_step_159 (by decide) ?_
                      intro v200 h201
                      refine q_putI dX7_step_160 fl7_58 (kR7 hS23.1 ta0) (Or.inl rfl) hS23 ta0 (by show (0 : Int) ≤ v200.toInt ∧ v200.toInt ≤ (5 : Int); exact om_5929b91d h20 h27) rfl (by decide +kernel) ?_
                      intro I202 hS203 e204 f205
                      have c206 : I202 a0 2 = v14 := (f205 _ _ (fun q => absurd q.2 (by decide))).trans c26
                      have c207 : I202 a0 4 = v14 := (f205 _ _ (fun q => absurd q.2 (by decide))).trans e24
                      refine tr_aload_n dX7_step_163 hl9 ?_
                      refine tr_dup dX7_step_164 rfl ?_
                      refine q_getI dX7_step_165 fl7_48 (kR7 hS203.1 ta0) c206 ?_
                      refine q_iconst dX7_step_168 (by decide) ?_
                      intro v208 h209
                      refine q_iaddE dX7_step_169 (by intro j1 j2 j3 j4; exact om_b8dd10c4 h20 h27) ?_
                      intro v210 h211
                      refine q_putI dX7_step_170 fl7_48 (kR7 hS203.1 ta0) (Or.inl rfl) hS203 ta0 (by show (0 : Int) ≤ v210.toInt ∧ v210.toInt ≤ (900 : Int); exact om_2d1d8b7f h20 h27) rfl (by decide +kernel) ?_
                      intro I212 hS213 e214 f215
                      have c216 : I212 a0 4 = v14 := (f215 _ _ (fun q => absurd q.2 (by decide))).trans c207
                      have c217 : I212 a0 3 = v200 := (f215 _ _ (fun q => absurd q.2 (by decide))).trans e204
                      obtain ⟨y218, c219⟩ : ∃ v, L11 a0 5 = v := ⟨_, rfl⟩
                      obtain ⟨v220, c221⟩ : ∃ v, I212 a0 6 = v := ⟨_, rfl⟩
                      exact tr_vret hZ dX7_step_173 rfl (by decide) (by decide) ⟨rfl, rfl, rfl, rfl, rfl, hS213, hL13, (by (try rw [e214]); simp only [tkK, tkN, e21]; exact om_2bfd4e88 h20 h27), (by (try rw [c216]); first | done | with_reducible assumption | exact om_510fc2a5 h20 h27), (by (try rw [c217]); simp only [tkK, tkN, e21]; exact om_a55f070f h20 h27 h201), (by (try rw [c219]); intro z; first | (rw [tkW_X, e21]; exact om_d561bfb2 h20 h27) | (exfalso; revert z; simp only [tkK, e21]; repeat' (first | split | omega))), (by (try rw [c221]); intro z; first | (rw [tkV_Y, e21]; exact om_d561bfb2 h20 h27) | (exfalso; revert z; simp only [tkK, e21]; repeat' (first | split | omega))), trivial⟩
                    · skip
                      exfalso; exact om_a1483620 h20 h27
                  · skip
                    exfalso; exact om_a1483620 h20 h27
                · skip
                  exfalso; exact om_a1483620 h20 h27
            · skip
              refine tr_aload_n dX7_step_85 hl9 ?_
              refine tr_aload_n dX7_step_86 hl9 ?_
              refine q_callVi hE (M' := mX7_stepWord) (as := []) dX7_step_87 lk7_71 inX7_stepWord seX7_stepWord myX7_stepWord (by decide) ⟨by decide, by decide⟩ rfl (kR7 hS23.1 ta0) (Nat.le_of_ble_eq_true rfl) rfl rfl (by decide) (by decide) (fk_X7_stepWord hS23.1 (gB) ta0 (TxA.kp hT hS23 ta0 rfl rfl rfl (by decide +kernel) (by decide +kernel)) (by (try rw [((hS23.cell ta0 (by decide +kernel)).trans c6)]); first | done | with_reducible assumption | omega) (by (try rw [e24]); (try rw [c26]); first | done | with_reducible assumption | omega)) ?_
              rintro v227 cn' K' N' I222 R223 L224 ⟨rfl, rfl, rfl, rfl, g225, gl226, p228, p229, p230, -⟩
              have hS231 := hS23.tr g225 (by decide +kernel) (by decide +kernel)
              have c232 : I222 a0 4 = v14 := (g225.cell ta0 (by decide +kernel)).trans e24
              have hL233 := hL13.tr gl226 (by decide +kernel)
              rw [c26] at p228
              obtain ⟨v234, c235⟩ : ∃ v, I222 a0 2 = v := ⟨_, rfl⟩
              have b236 := iv7_2 hS231.1 ta0 c235
              rw [c235] at p229
              rw [c26] at p229
              obtain ⟨y237, c238⟩ : ∃ v, L224 a0 5 = v := ⟨_, rfl⟩
              rw [c238] at p230
              rw [c26] at p230
              refine q_bipush dX7_step_90 (by decide +kernel) ?_
              intro v239 h240
              refine q_icmp_gt 99 dX7_step_92 (by decide) (fun h241 => ?_) (fun h241 => ?_)
              · skip
                refine q_iconst dX7_step_99 (by decide) ?_
                intro v242 h243
                refine q_putI dX7_step_100 fl7_58 (kR7 hS231.1 ta0) (Or.inl rfl) hS231 ta0 (by show (0 : Int) ≤ v242.toInt ∧ v242.toInt ≤ (5 : Int); exact om_5929b91d h20 h27) rfl (by decide +kernel) ?_
                intro I244 hS245 e246 f247
                have c248 : I244 a0 4 = v14 := (f247 _ _ (fun q => absurd q.2 (by decide))).trans c232
                have c249 : I244 a0 2 = v234 := (f247 _ _ (fun q => absurd q.2 (by decide))).trans c235
                refine tr_goto 173 dX7_step_103 (by decide) ?_
                obtain ⟨v250, c251⟩ : ∃ v, I244 a0 6 = v := ⟨_, rfl⟩
                exact tr_vret hZ dX7_step_173 rfl (by decide) (by decide) ⟨rfl, rfl, rfl, rfl, rfl, hS245, hL233, (by (try rw [c249]); simp only [tkK, tkN, e21]; exact om_c21e7fbe h20 h27 p229), (by (try rw [c248]); first | done | with_reducible assumption | exact om_510fc2a5 h20 h27), (by (try rw [e246]); simp only [tkK, tkN, e21]; exact om_a55f070f h20 h27 h243), (by (try rw [c238]); intro z; first | (rw [tkW_X, e21]; exact om_acd7a85a p230) | (exfalso; revert z; simp only [tkK, e21]; repeat' (first | split | omega))), (by (try rw [c251]); intro z; first | (rw [tkV_Y, e21]; exact om_d561bfb2 h20 h27) | (exfalso; revert z; simp only [tkK, e21]; repeat' (first | split | omega))), trivial⟩
              · skip
                refine q_iconst dX7_step_95 (by decide) ?_
                intro v252 h253
                refine tr_goto 100 dX7_step_96 (by decide) ?_
                refine q_putI dX7_step_100 fl7_58 (kR7 hS231.1 ta0) (Or.inl rfl) hS231 ta0 (by show (0 : Int) ≤ v252.toInt ∧ v252.toInt ≤ (5 : Int); exact om_5929b91d h20 h27) rfl (by decide +kernel) ?_
                intro I254 hS255 e256 f257
                have c258 : I254 a0 4 = v14 := (f257 _ _ (fun q => absurd q.2 (by decide))).trans c232
                have c259 : I254 a0 2 = v234 := (f257 _ _ (fun q => absurd q.2 (by decide))).trans c235
                refine tr_goto 173 dX7_step_103 (by decide) ?_
                obtain ⟨v260, c261⟩ : ∃ v, I254 a0 6 = v := ⟨_, rfl⟩
                exact tr_vret hZ dX7_step_173 rfl (by decide) (by decide) ⟨rfl, rfl, rfl, rfl, rfl, hS255, hL233, (by (try rw [c259]); simp only [tkK, tkN, e21]; exact om_c21e7fbe h20 h27 p229), (by (try rw [c258]); first | done | with_reducible assumption | exact om_510fc2a5 h20 h27), (by (try rw [e256]); simp only [tkK, tkN, e21]; exact om_71d7d58e h20 h27 h253), (by (try rw [c238]); intro z; first | (rw [tkW_X, e21]; exact om_acd7a85a p230) | (exfalso; revert z; simp only [tkK, e21]; repeat' (first | split | omega))), (by (try rw [c261]); intro z; first | (rw [tkV_Y, e21]; exact om_d561bfb2 h20 h27) | (exfalso; revert z; simp only [tkK, e21]; repeat' (first | split | omega))), trivial⟩
        · skip
          refine tr_aload_n dX7_step_57 hl9 ?_
          refine q_iconst dX7_step_58 (by decide) ?_
          intro v262 h263
          refine q_putI dX7_step_59 fl7_58 (kR7 hS23.1 ta0) (Or.inl rfl) hS23 ta0 (by show (0 : Int) ≤ v262.toInt ∧ v262.toInt ≤ (5 : Int); exact om_3597b99b h263) rfl (by decide +kernel) ?_
          intro I264 hS265 e266 f267
          have c268 : I264 a0 2 = v14 := (f267 _ _ (fun q => absurd q.2 (by decide))).trans c26
          have c269 : I264 a0 4 = v14 := (f267 _ _ (fun q => absurd q.2 (by decide))).trans e24
          obtain ⟨y270, c271⟩ : ∃ v, L11 a0 5 = v := ⟨_, rfl⟩
          obtain ⟨v272, c273⟩ : ∃ v, I264 a0 6 = v := ⟨_, rfl⟩
          exact tr_vret hZ dX7_step_62 rfl (by decide) (by decide) ⟨rfl, rfl, rfl, rfl, rfl, hS265, hL13, (by (try rw [c268]); simp only [tkK, tkN, e21]; exact om_12f86d0f p8 h20), (by (try rw [c269]); first | done | with_reducible assumption | exact om_7847aadf e21), (by (try rw [e266]); simp only [tkK, tkN, e21]; exact om_017b3c1c p8 h20 h263), (by (try rw [c271]); intro z; first | (rw [tkW_X, e21]; fail) | (exfalso; revert z; simp only [tkK, e21]; exact om_3d0554e7 p8 h20)), (by (try rw [c273]); intro z; first | (rw [tkV_Y, e21]; fail) | (exfalso; revert z; simp only [tkK, e21]; exact om_0d0570e4 p8 h20)), trivial⟩
      · skip
        refine tr_aload_n dX7_step_11 hl9 ?_
        obtain ⟨a274, d275, ta274⟩ := rf7_0 hW0 ta0
        refine tr_getR dX7_step_12 fl7_18 (kR7 hS12.1 ta0) d275 ?_
        refine tr_aload_n dX7_step_15 hl9 ?_
        refine q_getI dX7_step_16 fl7_48 (kR7 hS12.1 ta0) c15 ?_
        refine q_bald dX7_step_19 (kR17 hS12.1 ta274) (ti_in (nR17 hS12.1 ta274) (by exact om_cc59603c b19.2 b19.1) (by exact om_bdf2c77f b7.2 b7.1 b19.2 b19.1 h20)) ?_
        intro v276 c277
        have b278 := iv17 hS12.1 ta274 c277
        have p279 := Tx.by ((TxA.kp hT hS12 ta0 rfl rfl rfl (by decide +kernel) (by decide +kernel)) _ d275) (by exact om_cc59603c b19.2 b19.1) (by exact om_a830ecb4 p8 h20) c277
        have p280 := Tx.at ((TxA.kp hT hS12 ta0 rfl rfl rfl (by decide +kernel) (by decide +kernel)) _ d275) (by exact om_cc59603c b19.2 b19.1) (by exact om_a830ecb4 p8 h20) c277
        refine q_bipush dX7_step_20 (by decide +kernel) ?_
        intro v281 h282
        refine q_icmp_ne 38 dX7_step_22 (by decide) (fun h283 => ?_) (fun h283 => ?_)
        · skip
          have e284 : tkS gB gp = v14.toInt := by have q := tkS_fin (B := gB) (s := v14.toInt) (by exact om_b9f345f0 p279 h282 h283); exact om_444e8b26 g16 q
          refine tr_aload_n dX7_step_38 hl9 ?_
          refine tr_aload_n dX7_step_39 hl9 ?_
          refine q_getI dX7_step_40 fl7_48 (kR7 hS12.1 ta0) c15 ?_
          refine q_putI dX7_step_43 fl7_68 (kR7 hS12.1 ta0) (Or.inl rfl) hS12 ta0 (by show (0 : Int) ≤ v14.toInt ∧ v14.toInt ≤ (900 : Int); exact om_7caca98d b19) rfl (by decide +kernel) ?_
          intro I285 hS286 e287 f288
          have c289 : I285 a0 2 = v14 := (f288 _ _ (fun q => absurd q.2 (by decide))).trans c15
          refine tr_aload_n dX7_step_46 hl9 ?_
          refine q_getI dX7_step_47 fl7_48 (kR7 hS286.1 ta0) c289 ?_
          refine tr_aload_n dX7_step_50 hl9 ?_
          refine q_getI dX7_step_51 fl7_45 (kR7 hS286.1 ta0) ((hS286.cell ta0 (by decide +kernel)).trans c6) ?_
          refine q_icmp_lt 63 dX7_step_54 (by decide) (fun h290 => ?_) (fun h290 => ?_)
          · skip
            refine tr_aload_n dX7_step_63 hl9 ?_
            refine tr_getR dX7_step_64 fl7_18 (kR7 hS286.1 ta0) d275 ?_
            refine tr_aload_n dX7_step_67 hl9 ?_
            refine q_getI dX7_step_68 fl7_48 (kR7 hS286.1 ta0) c289 ?_
            refine q_bald dX7_step_71 (kR17 hS286.1 ta274) (ti_in (nR17 hS286.1 ta274) (by exact om_cc59603c b19.2 b19.1) (by exact om_bdf2c77f b7.2 b7.1 b19.2 b19.1 h20)) ?_
            intro v291 c292
            have b293 := iv17 hS286.1 ta274 c292
            have p294 := Tx.by ((TxA.kp hT hS286 ta0 rfl rfl rfl (by decide +kernel) (by decide +kernel)) _ d275) (by exact om_cc59603c b19.2 b19.1) (by exact om_a830ecb4 p8 h20) c292
            have p295 := Tx.at ((TxA.kp hT hS286 ta0 rfl rfl rfl (by decide +kernel) (by decide +kernel)) _ d275) (by exact om_cc59603c b19.2 b19.1) (by exact om_a830ecb4 p8 h20) c292
            refine tr_istore_n dX7_step_72 (by decide) (by decide) ?_
            refine tr_iload_n dX7_step_73 rfl ?_
            refine q_bipush dX7_step_74 (by decide +kernel) ?_
            intro v296 h297
            refine q_icmp_lt 106 dX7_step_76 (by decide) (fun h298 => ?_) (fun h298 => ?_)
            · skip
              refine tr_iload_n dX7_step_106 rfl ?_
              refine q_bipush dX7_step_107 (by decide +kernel) ?_
              intro v299 h300
              refine q_icmp_lt 138 dX7_step_109 (by decide) (fun h301 => ?_) (fun h301 => ?_)
              · skip
                refine tr_aload_n dX7_step_138 hl9 ?_
                refine tr_iload_n dX7_step_139 rfl ?_
                refine q_bipush dX7_step_140 (by decide +kernel) ?_
                intro v302 h303
                refine q_icmp_ne 149 dX7_step_142 (by decide) (fun h304 => ?_) (fun h304 => ?_)
                · skip
                  refine tr_iload_n dX7_step_149 rfl ?_
                  refine q_bipush dX7_step_150 (by decide +kernel) ?_
                  intro v305 h306
                  refine q_icmp_ne 159 dX7_step_152 (by decide) (fun h307 => ?_) (fun h307 => ?_)
                  · skip
                    refine q_iconst dX7_step_159 (by decide) ?_
                    intro v308 h309
                    refine q_putI dX7_step_160 fl7_58 (kR7 hS286.1 ta0) (Or.inl rfl) hS286 ta0 (by show (0 : Int) ≤ v308.toInt ∧ v308.toInt ≤ (5 : Int); exact om_441a285e h309) rfl (by decide +kernel) ?_
                    intro I310 hS311 e312 f313
                    have c314 : I310 a0 2 = v14 := (f313 _ _ (fun q => absurd q.2 (by decide))).trans c289
                    have c315 : I310 a0 4 = v14 := (f313 _ _ (fun q => absurd q.2 (by decide))).trans e287
                    refine tr_aload_n dX7_step_163 hl9 ?_
                    refine tr_dup dX7_step_164 rfl ?_
                    refine q_getI dX7_step_165 fl7_48 (kR7 hS311.1 ta0) c314 ?_
                    refine q_iconst dX7_step_168 (by decide) ?_
                    intro v316 h317
                    refine q_iaddE dX7_step_169 (by intro j1 j2 j3 j4; exact om_c7cba203 b7.2 b7.1 b19.2 b19.1 h20 h317) ?_
                    intro v318 h319
                    refine q_putI dX7_step_170 fl7_48 (kR7 hS311.1 ta0) (Or.inl rfl) hS311 ta0 (by show (0 : Int) ≤ v318.toInt ∧ v318.toInt ≤ (900 : Int); exact om_2221b2eb b7.2 b7.1 b19.2 b19.1 h20 h317 h319) rfl (by decide +kernel) ?_
                    intro I320 hS321 e322 f323
                    have c324 : I320 a0 4 = v14 := (f323 _ _ (fun q => absurd q.2 (by decide))).trans c315
                    have c325 : I320 a0 3 = v308 := (f323 _ _ (fun q => absurd q.2 (by decide))).trans e312
                    obtain ⟨y326, c327⟩ : ∃ v, L11 a0 5 = v := ⟨_, rfl⟩
                    obtain ⟨v328, c329⟩ : ∃ v, I320 a0 6 = v := ⟨_, rfl⟩
                    exact tr_vret hZ dX7_step_173 rfl (by decide) (by decide) ⟨rfl, rfl, rfl, rfl, rfl, hS321, hL13, (by (try rw [e322]); simp only [tkK, tkN, e284]; exact om_236d5def p8 h20 b278.2 b278.1 p279 p294 h297 h298 h300 h301 h317 h319), (by (try rw [c324]); first | done | with_reducible assumption | exact om_7847aadf e284), (by (try rw [c325]); simp only [tkK, tkN, e284]; exact om_288a3e4f p8 h20 b278.2 b278.1 p279 p294 h297 h298 h300 h301 h306 h307 h309 h317 h319), (by (try rw [c327]); intro z; first | (rw [tkW_X, e284]; fail) | (exfalso; revert z; simp only [tkK, e284]; exact om_99fddd09 p8 h20 b278.2 b278.1 p279 p294 h297 h298 h300 h301 h317 h319)), (by (try rw [c329]); intro z; first | (rw [tkV_Y, e284]; fail) | (exfalso; revert z; simp only [tkK, e284]; exact om_5b82984b p8 h20 b278.2 b278.1 p279 p294 h300 h301 h317 h319)), trivial⟩
                  · skip
                    refine q_iconst dX7_step_155 (by decide) ?_
                    intro v330 h331
                    refine tr_goto 160 dX7_step_156 (by decide) ?_
                    refine q_putI dX7_step_160 fl7_58 (kR7 hS286.1 ta0) (Or.inl rfl) hS286 ta0 (by show (0 : Int) ≤ v330.toInt ∧ v330.toInt ≤ (5 : Int); exact om_72a63b95 h331) rfl (by decide +kernel) ?_
                    intro I332 hS333 e334 f335
                    have c336 : I332 a0 2 = v14 := (f335 _ _ (fun q => absurd q.2 (by decide))).trans c289
                    have c337 : I332 a0 4 = v14 := (f335 _ _ (fun q => absurd q.2 (by decide))).trans e287
                    refine tr_aload_n dX7_step_163 hl9 ?_
                    refine tr_dup dX7_step_164 rfl ?_
                    refine q_getI dX7_step_165 fl7_48 (kR7 hS333.1 ta0) c336 ?_
                    refine q_iconst dX7_step_168 (by decide) ?_
                    intro v338 h339
                    refine q_iaddE dX7_step_169 (by intro j1 j2 j3 j4; exact om_c7cba203 b7.2 b7.1 b19.2 b19.1 h20 h339) ?_
                    intro v340 h341
                    refine q_putI dX7_step_170 fl7_48 (kR7 hS333.1 ta0) (Or.inl rfl) hS333 ta0 (by show (0 : Int) ≤ v340.toInt ∧ v340.toInt ≤ (900 : Int); exact om_2221b2eb b7.2 b7.1 b19.2 b19.1 h20 h339 h341) rfl (by decide +kernel) ?_
                    intro I342 hS343 e344 f345
                    have c346 : I342 a0 4 = v14 := (f345 _ _ (fun q => absurd q.2 (by decide))).trans c337
                    have c347 : I342 a0 3 = v330 := (f345 _ _ (fun q => absurd q.2 (by decide))).trans e334
                    obtain ⟨y348, c349⟩ : ∃ v, L11 a0 5 = v := ⟨_, rfl⟩
                    obtain ⟨v350, c351⟩ : ∃ v, I342 a0 6 = v := ⟨_, rfl⟩
                    exact tr_vret hZ dX7_step_173 rfl (by decide) (by decide) ⟨rfl, rfl, rfl, rfl, rfl, hS343, hL13, (by (try rw [e344]); simp only [tkK, tkN, e284]; exact om_05f547e3 p8 h20 p294 h306 h307 h339 h341), (by (try rw [c346]); first | done | with_reducible assumption | exact om_7847aadf e284), (by (try rw [c347]); simp only [tkK, tkN, e284]; exact om_f374b6ae p8 h20 p294 h306 h307 h331 h339 h341), (by (try rw [c349]); intro z; first | (rw [tkW_X, e284]; fail) | (exfalso; revert z; simp only [tkK, e284]; exact om_82b64163 p8 h20 p294 h306 h307 h339 h341)), (by (try rw [c351]); intro z; first | (rw [tkV_Y, e284]; fail) | (exfalso; revert z; simp only [tkK, e284]; exact om_7d7971fe p8 h20 p294 h306 h307 h339 h341)), trivial⟩
                · skip
                  exfalso; exact om_8cc8b3df h300 h301 h303 h304
              · skip
                refine tr_iload_n dX7_step_112 rfl ?_
                refine q_bipush dX7_step_113 (by decide +kernel) ?_
                intro v352 h353
                refine q_icmp_gt 138 dX7_step_115 (by decide) (fun h354 => ?_) (fun h354 => ?_)
                · skip
                  refine tr_aload_n dX7_step_138 hl9 ?_
                  refine tr_iload_n dX7_step_139 rfl ?_
                  refine q_bipush dX7_step_140 (by decide +kernel) ?_
                  intro v355 h356
                  refine q_icmp_ne 149 dX7_step_142 (by decide) (fun h357 => ?_) (fun h357 => ?_)
                  · skip
                    refine tr_iload_n dX7_step_149 rfl ?_
                    refine q_bipush dX7_step_150 (by decide +kernel) ?_
                    intro v358 h359
                    refine q_icmp_ne 159 dX7_step_152 (by decide) (fun h360 => ?_) (fun h360 => ?_)
                    · skip
                      refine q_iconst dX7_step_159 (by decide) ?_
                      intro v361 h362
                      refine q_putI dX7_step_160 fl7_58 (kR7 hS286.1 ta0) (Or.inl rfl) hS286 ta0 (by show (0 : Int) ≤ v361.toInt ∧ v361.toInt ≤ (5 : Int); exact om_441a285e h362) rfl (by decide +kernel) ?_
                      intro I363 hS364 e365 f366
                      have c367 : I363 a0 2 = v14 := (f366 _ _ (fun q => absurd q.2 (by decide))).trans c289
                      have c368 : I363 a0 4 = v14 := (f366 _ _ (fun q => absurd q.2 (by decide))).trans e287
                      refine tr_aload_n dX7_step_163 hl9 ?_
                      refine tr_dup dX7_step_164 rfl ?_
                      refine q_getI dX7_step_165 fl7_48 (kR7 hS364.1 ta0) c367 ?_
                      refine q_iconst dX7_step_168 (by decide) ?_
                      intro v369 h370
                      refine q_iaddE dX7_step_169 (by intro j1 j2 j3 j4; exact om_c7cba203 b7.2 b7.1 b19.2 b19.1 h20 h370) ?_
                      intro v371 h372
                      refine q_putI dX7_step_170 fl7_48 (kR7 hS364.1 ta0) (Or.inl rfl) hS364 ta0 (by show (0 : Int) ≤ v371.toInt ∧ v371.toInt ≤ (900 : Int); exact om_2221b2eb b7.2 b7.1 b19.2 b19.1 h20 h370 h372) rfl (by decide +kernel) ?_
                      intro I373 hS374 e375 f376
                      have c377 : I373 a0 4 = v14 := (f376 _ _ (fun q => absurd q.2 (by decide))).trans c368
                      have c378 : I373 a0 3 = v361 := (f376 _ _ (fun q => absurd q.2 (by decide))).trans e365
                      obtain ⟨y379, c380⟩ : ∃ v, L11 a0 5 = v := ⟨_, rfl⟩
                      obtain ⟨v381, c382⟩ : ∃ v, I373 a0 6 = v := ⟨_, rfl⟩
                      exact tr_vret hZ dX7_step_173 rfl (by decide) (by decide) ⟨rfl, rfl, rfl, rfl, rfl, hS374, hL13, (by (try rw [e375]); simp only [tkK, tkN, e284]; exact om_012b5225 p8 h20 b278.2 b278.1 p279 p294 h297 h298 h353 h354 h370 h372), (by (try rw [c377]); first | done | with_reducible assumption | exact om_7847aadf e284), (by (try rw [c378]); simp only [tkK, tkN, e284]; exact om_7c211288 p8 h20 b278.2 b278.1 p279 p294 h297 h298 h300 h301 h353 h354 h356 h357 h359 h360 h362 h370 h372), (by (try rw [c380]); intro z; first | (rw [tkW_X, e284]; fail) | (exfalso; revert z; simp only [tkK, e284]; exact om_18e706cc p8 h20 b278.2 b278.1 p279 p294 h297 h298 h300 h301 h370 h372)), (by (try rw [c382]); intro z; first | (rw [tkV_Y, e284]; fail) | (exfalso; revert z; simp only [tkK, e284]; exact om_428b138a p8 h20 b278.2 b278.1 p279 p294 h300 h301 h353 h354 h370 h372)), trivial⟩
                    · skip
                      exfalso; exact om_6743089a h300 h301 h359 h360
                  · skip
                    refine q_iconst dX7_step_145 (by decide) ?_
                    intro v383 h384
                    refine tr_goto 160 dX7_step_146 (by decide) ?_
                    refine q_putI dX7_step_160 fl7_58 (kR7 hS286.1 ta0) (Or.inl rfl) hS286 ta0 (by show (0 : Int) ≤ v383.toInt ∧ v383.toInt ≤ (5 : Int); exact om_cfcdcb1e h384) rfl (by decide +kernel) ?_
                    intro I385 hS386 e387 f388
                    have c389 : I385 a0 2 = v14 := (f388 _ _ (fun q => absurd q.2 (by decide))).trans c289
                    have c390 : I385 a0 4 = v14 := (f388 _ _ (fun q => absurd q.2 (by decide))).trans e287
                    refine tr_aload_n dX7_step_163 hl9 ?_
                    refine tr_dup dX7_step_164 rfl ?_
                    refine q_getI dX7_step_165 fl7_48 (kR7 hS386.1 ta0) c389 ?_
                    refine q_iconst dX7_step_168 (by decide) ?_
                    intro v391 h392
                    refine q_iaddE dX7_step_169 (by intro j1 j2 j3 j4; exact om_c7cba203 b7.2 b7.1 b19.2 b19.1 h20 h392) ?_
                    intro v393 h394
                    refine q_putI dX7_step_170 fl7_48 (kR7 hS386.1 ta0) (Or.inl rfl) hS386 ta0 (by show (0 : Int) ≤ v393.toInt ∧ v393.toInt ≤ (900 : Int); exact om_2221b2eb b7.2 b7.1 b19.2 b19.1 h20 h392 h394) rfl (by decide +kernel) ?_
                    intro I395 hS396 e397 f398
                    have c399 : I395 a0 4 = v14 := (f398 _ _ (fun q => absurd q.2 (by decide))).trans c390
                    have c400 : I395 a0 3 = v383 := (f398 _ _ (fun q => absurd q.2 (by decide))).trans e387
                    obtain ⟨y401, c402⟩ : ∃ v, L11 a0 5 = v := ⟨_, rfl⟩
                    obtain ⟨v403, c404⟩ : ∃ v, I395 a0 6 = v := ⟨_, rfl⟩
                    exact tr_vret hZ dX7_step_173 rfl (by decide) (by decide) ⟨rfl, rfl, rfl, rfl, rfl, hS396, hL13, (by (try rw [e397]); simp only [tkK, tkN, e284]; exact om_299bb092 p8 h20 p294 h356 h357 h392 h394), (by (try rw [c399]); first | done | with_reducible assumption | exact om_7847aadf e284), (by (try rw [c400]); simp only [tkK, tkN, e284]; exact om_262ae80d p8 h20 p294 h356 h357 h384 h392 h394), (by (try rw [c402]); intro z; first | (rw [tkW_X, e284]; fail) | (exfalso; revert z; simp only [tkK, e284]; exact om_faaf0f34 p8 h20 p294 h356 h357 h392 h394)), (by (try rw [c404]); intro z; first | (rw [tkV_Y, e284]; fail) | (exfalso; revert z; simp only [tkK, e284]; exact om_7ff7d63a p8 h20 p294 h356 h357 h392 h394)), trivial⟩
                · skip
                  refine tr_aload_n dX7_step_118 hl9 ?_
                  refine tr_aload_n dX7_step_119 hl9 ?_
                  refine q_callVi hE (M' := mX7_stepWhole) (as := []) dX7_step_120 lk7_75 inX7_stepWhole seX7_stepWhole myX7_stepWhole (by decide) ⟨by decide, by decide⟩ rfl (kR7 hS286.1 ta0) (Nat.le_of_ble_eq_true rfl) rfl rfl (by decide) (by decide) (fk_X7_stepWhole hS286.1 (gB) ta0 (TxA.kp hT hS286 ta0 rfl rfl rfl (by decide +kernel) (by decide +kernel)) (by (try rw [((hS286.cell ta0 (by decide +kernel)).trans c6)]); first | done | with_reducible assumption | omega) (by (try rw [e287]); (try rw [c289]); first | done | with_reducible assumption | omega)) ?_
                  rintro v410 cn' K' N' I405 R406 L407 ⟨rfl, rfl, rfl, rfl, rfl, g408, p411, p412, p413, -⟩
                  have hS414 := hS286.tr g408 (by decide +kernel) (by decide +kernel)
                  have c415 : I405 a0 4 = v14 := (g408.cell ta0 (by decide +kernel)).trans e287
                  rw [c289] at p411
                  obtain ⟨v416, c417⟩ : ∃ v, I405 a0 2 = v := ⟨_, rfl⟩
                  have b418 := iv7_2 hS414.1 ta0 c417
                  rw [c417] at p412
                  rw [c289] at p412
                  obtain ⟨v419, c420⟩ : ∃ v, I405 a0 6 = v := ⟨_, rfl⟩
                  rw [c420] at p413
                  rw [c289] at p413
                  refine q_iconst dX7_step_123 (by decide) ?_
                  intro v421 h422
                  refine q_icmp_gt 131 dX7_step_124 (by decide) (fun h423 => ?_) (fun h423 => ?_)
                  · skip
                    refine q_iconst dX7_step_131 (by decide) ?_
                    intro v424 h425
                    refine q_putI dX7_step_132 fl7_58 (kR7 hS414.1 ta0) (Or.inl rfl) hS414 ta0 (by show (0 : Int) ≤ v424.toInt ∧ v424.toInt ≤ (5 : Int); exact om_441a285e h425) rfl (by decide +kernel) ?_
                    intro I426 hS427 e428 f429
                    have c430 : I426 a0 4 = v14 := (f429 _ _ (fun q => absurd q.2 (by decide))).trans c415
                    have c431 : I426 a0 2 = v416 := (f429 _ _ (fun q => absurd q.2 (by decide))).trans c417
                    have c432 : I426 a0 6 = v419 := (f429 _ _ (fun q => absurd q.2 (by decide))).trans c420
                    refine tr_goto 173 dX7_step_135 (by decide) ?_
                    obtain ⟨y433, c434⟩ : ∃ v, L11 a0 5 = v := ⟨_, rfl⟩
                    exact tr_vret hZ dX7_step_173 rfl (by decide) (by decide) ⟨rfl, rfl, rfl, rfl, rfl, hS427, hL13, (by (try rw [c431]); simp only [tkK, tkN, e284]; exact om_1802a6ce p8 h20 b278.2 b278.1 p279 p294 h297 h298 h300 h301 h353 h354 p411 p412 h422 h423), (by (try rw [c430]); first | done | with_reducible assumption | exact om_7847aadf e284), (by (try rw [e428]); simp only [tkK, tkN, e284]; exact om_a6ec7a0a p8 h20 b278.2 b278.1 p279 p294 h297 h298 h300 h301 h353 h354 p411 p412 h422 h423 h425), (by (try rw [c434]); intro z; first | (rw [tkW_X, e284]; fail) | (exfalso; revert z; simp only [tkK, e284]; exact om_aabfca26 p8 h20 b278.2 b278.1 p279 p294 h297 h298 h300 h301 h353 h354 p411 p412)), (by (try rw [c432]); intro z; first | (rw [tkV_Y, e284]; exact om_acd7a85a p413) | (exfalso; revert z; simp only [tkK, e284]; repeat' (first | split | omega))), trivial⟩
                  · skip
                    refine q_iconst dX7_step_127 (by decide) ?_
                    intro v435 h436
                    refine tr_goto 132 dX7_step_128 (by decide) ?_
                    refine q_putI dX7_step_132 fl7_58 (kR7 hS414.1 ta0) (Or.inl rfl) hS414 ta0 (by show (0 : Int) ≤ v435.toInt ∧ v435.toInt ≤ (5 : Int); exact om_3fee6963 h436) rfl (by decide +kernel) ?_
                    intro I437 hS438 e439 f440
                    have c441 : I437 a0 4 = v14 := (f440 _ _ (fun q => absurd q.2 (by decide))).trans c415
                    have c442 : I437 a0 2 = v416 := (f440 _ _ (fun q => absurd q.2 (by decide))).trans c417
                    have c443 : I437 a0 6 = v419 := (f440 _ _ (fun q => absurd q.2 (by decide))).trans c420
                    refine tr_goto 173 dX7_step_135 (by decide) ?_
                    obtain ⟨y444, c445⟩ : ∃ v, L11 a0 5 = v := ⟨_, rfl⟩
                    exact tr_vret hZ dX7_step_173 rfl (by decide) (by decide) ⟨rfl, rfl, rfl, rfl, rfl, hS438, hL13, (by (try rw [c442]); simp only [tkK, tkN, e284]; exact om_b5ad5fc8 p8 h20 b278.2 b278.1 p279 p294 h297 h298 h300 h301 h353 h354 p411 p412), (by (try rw [c441]); first | done | with_reducible assumption | exact om_7847aadf e284), (by (try rw [e439]); simp only [tkK, tkN, e284]; exact om_8a9663a7 p8 h20 b278.2 b278.1 p279 p294 h297 h298 h300 h301 h353 h354 p411 p412 h422 h423 h436), (by (try rw [c445]); intro z; first | (rw [tkW_X, e284]; fail) | (exfalso; revert z; simp only [tkK, e284]; exact om_aabfca26 p8 h20 b278.2 b278.1 p279 p294 h297 h298 h300 h301 h353 h354 p411 p412)), (by (try rw [c443]); intro z; first | (rw [tkV_Y, e284]; exact om_acd7a85a p413) | (exfalso; revert z; simp only [tkK, e284]; repeat' (first | split | omega))), trivial⟩
            · skip
              refine tr_iload_n dX7_step_79 rfl ?_
              refine q_bipush dX7_step_80 (by decide +kernel) ?_
              intro v446 h447
              refine q_icmp_gt 106 dX7_step_82 (by decide) (fun h448 => ?_) (fun h448 => ?_)
              · skip
                refine tr_iload_n dX7_step_106 rfl ?_
                refine q_bipush dX7_step_107 (by decide +kernel) ?_
                intro v449 h450
                refine q_icmp_lt 138 dX7_step_109 (by decide) (fun h451 => ?_) (fun h451 => ?_)
                · skip
                  exfalso; exact om_9b87bec6 h297 h298 h450 h451
                · skip
                  refine tr_iload_n dX7_step_112 rfl ?_
                  refine q_bipush dX7_step_113 (by decide +kernel) ?_
                  intro v452 h453
                  refine q_icmp_gt 138 dX7_step_115 (by decide) (fun h454 => ?_) (fun h454 => ?_)
                  · skip
                    refine tr_aload_n dX7_step_138 hl9 ?_
                    refine tr_iload_n dX7_step_139 rfl ?_
                    refine q_bipush dX7_step_140 (by decide +kernel) ?_
                    intro v455 h456
                    refine q_icmp_ne 149 dX7_step_142 (by decide) (fun h457 => ?_) (fun h457 => ?_)
                    · skip
                      refine tr_iload_n dX7_step_149 rfl ?_
                      refine q_bipush dX7_step_150 (by decide +kernel) ?_
                      intro v458 h459
                      refine q_icmp_ne 159 dX7_step_152 (by decide) (fun h460 => ?_) (fun h460 => ?_)
                      · skip
                        refine q_iconst dX7_step_159 (by decide) ?_
                        intro v461 h462
                        refine q_putI dX7_step_160 fl7_58 (kR7 hS286.1 ta0) (Or.inl rfl) hS286 ta0 (by show (0 : Int) ≤ v461.toInt ∧ v461.toInt ≤ (5 : Int); exact om_441a285e h462) rfl (by decide +kernel) ?_
                        intro I463 hS464 e465 f466
                        have c467 : I463 a0 2 = v14 := (f466 _ _ (fun q => absurd q.2 (by decide))).trans c289
                        have c468 : I463 a0 4 = v14 := (f466 _ _ (fun q => absurd q.2 (by decide))).trans e287
                        refine tr_aload_n dX7_step_163 hl9 ?_
                        refine tr_dup dX7_step_164 rfl ?_
                        refine q_getI dX7_step_165 fl7_48 (kR7 hS464.1 ta0) c467 ?_
                        refine q_iconst dX7_step_168 (by decide) ?_
                        intro v469 h470
                        refine q_iaddE dX7_step_169 (by intro j1 j2 j3 j4; exact om_c7cba203 b7.2 b7.1 b19.2 b19.1 h20 h470) ?_
                        intro v471 h472
                        refine q_putI dX7_step_170 fl7_48 (kR7 hS464.1 ta0) (Or.inl rfl) hS464 ta0 (by show (0 : Int) ≤ v471.toInt ∧ v471.toInt ≤ (900 : Int); exact om_2221b2eb b7.2 b7.1 b19.2 b19.1 h20 h470 h472) rfl (by decide +kernel) ?_
                        intro I473 hS474 e475 f476
                        have c477 : I473 a0 4 = v14 := (f476 _ _ (fun q => absurd q.2 (by decide))).trans c468
                        have c478 : I473 a0 3 = v461 := (f476 _ _ (fun q => absurd q.2 (by decide))).trans e465
                        obtain ⟨y479, c480⟩ : ∃ v, L11 a0 5 = v := ⟨_, rfl⟩
                        obtain ⟨v481, c482⟩ : ∃ v, I473 a0 6 = v := ⟨_, rfl⟩
                        exact tr_vret hZ dX7_step_173 rfl (by decide) (by decide) ⟨rfl, rfl, rfl, rfl, rfl, hS474, hL13, (by (try rw [e475]); simp only [tkK, tkN, e284]; exact om_b77abcc7 p8 h20 b278.2 b278.1 p279 p294 h447 h448 h453 h454 h470 h472), (by (try rw [c477]); first | done | with_reducible assumption | exact om_7847aadf e284), (by (try rw [c478]); simp only [tkK, tkN, e284]; exact om_f2901d6b p8 h20 b278.2 b278.1 p279 p294 h447 h448 h453 h454 h462 h470 h472), (by (try rw [c480]); intro z; first | (rw [tkW_X, e284]; fail) | (exfalso; revert z; simp only [tkK, e284]; exact om_e4ba970e p8 h20 b278.2 b278.1 p279 p294 h447 h448 h470 h472)), (by (try rw [c482]); intro z; first | (rw [tkV_Y, e284]; fail) | (exfalso; revert z; simp only [tkK, e284]; exact om_aa233431 p8 h20 b278.2 b278.1 p279 p294 h447 h448 h453 h454 h470 h472)), trivial⟩
                      · skip
                        exfalso; exact om_a70d46dc h447 h448 h459 h460
                    · skip
                      exfalso; exact om_2dcef1a6 h447 h448 h456 h457
                  · skip
                    exfalso; exact om_0944d658 h297 h298 h453 h454
              · skip
                refine tr_aload_n dX7_step_85 hl9 ?_
                refine tr_aload_n dX7_step_86 hl9 ?_
                refine q_callVi hE (M' := mX7_stepWord) (as := []) dX7_step_87 lk7_71 inX7_stepWord seX7_stepWord myX7_stepWord (by decide) ⟨by decide, by decide⟩ rfl (kR7 hS286.1 ta0) (Nat.le_of_ble_eq_true rfl) rfl rfl (by decide) (by decide) (fk_X7_stepWord hS286.1 (gB) ta0 (TxA.kp hT hS286 ta0 rfl rfl rfl (by decide +kernel) (by decide +kernel)) (by (try rw [((hS286.cell ta0 (by decide +kernel)).trans c6)]); first | done | with_reducible assumption | omega) (by (try rw [e287]); (try rw [c289]); first | done | with_reducible assumption | omega)) ?_
                rintro v488 cn' K' N' I483 R484 L485 ⟨rfl, rfl, rfl, rfl, g486, gl487, p489, p490, p491, -⟩
                have hS492 := hS286.tr g486 (by decide +kernel) (by decide +kernel)
                have c493 : I483 a0 4 = v14 := (g486.cell ta0 (by decide +kernel)).trans e287
                have hL494 := hL13.tr gl487 (by decide +kernel)
                rw [c289] at p489
                obtain ⟨v495, c496⟩ : ∃ v, I483 a0 2 = v := ⟨_, rfl⟩
                have b497 := iv7_2 hS492.1 ta0 c496
                rw [c496] at p490
                rw [c289] at p490
                obtain ⟨y498, c499⟩ : ∃ v, L485 a0 5 = v := ⟨_, rfl⟩
                rw [c499] at p491
                rw [c289] at p491
                refine q_bipush dX7_step_90 (by decide +kernel) ?_
                intro v500 h501
                refine q_icmp_gt 99 dX7_step_92 (by decide) (fun h502 => ?_) (fun h502 => ?_)
                · skip
                  refine q_iconst dX7_step_99 (by decide) ?_
                  intro v503 h504
                  refine q_putI dX7_step_100 fl7_58 (kR7 hS492.1 ta0) (Or.inl rfl) hS492 ta0 (by show (0 : Int) ≤ v503.toInt ∧ v503.toInt ≤ (5 : Int); exact om_441a285e h504) rfl (by decide +kernel) ?_
                  intro I505 hS506 e507 f508
                  have c509 : I505 a0 4 = v14 := (f508 _ _ (fun q => absurd q.2 (by decide))).trans c493
                  have c510 : I505 a0 2 = v495 := (f508 _ _ (fun q => absurd q.2 (by decide))).trans c496
                  refine tr_goto 173 dX7_step_103 (by decide) ?_
                  obtain ⟨v511, c512⟩ : ∃ v, I505 a0 6 = v := ⟨_, rfl⟩
                  exact tr_vret hZ dX7_step_173 rfl (by decide) (by decide) ⟨rfl, rfl, rfl, rfl, rfl, hS506, hL494, (by (try rw [c510]); simp only [tkK, tkN, e284]; exact om_3fc89b46 p8 h20 b278.2 b278.1 p279 p294 h297 h298 h447 h448 p489 p490 h501 h502), (by (try rw [c509]); first | done | with_reducible assumption | exact om_7847aadf e284), (by (try rw [e507]); simp only [tkK, tkN, e284]; exact om_219e2023 p8 h20 b278.2 b278.1 p279 p294 h297 h298 p489 p490 h501 h502 h504), (by (try rw [c499]); intro z; first | (rw [tkW_X, e284]; exact om_acd7a85a p491) | (exfalso; revert z; simp only [tkK, e284]; repeat' (first | split | omega))), (by (try rw [c512]); intro z; first | (rw [tkV_Y, e284]; fail) | (exfalso; revert z; simp only [tkK, e284]; exact om_e281b2ce p8 h20 b278.2 b278.1 p279 p294 h297 h298 p489 p490)), trivial⟩
                · skip
                  refine q_iconst dX7_step_95 (by decide) ?_
                  intro v513 h514
                  refine tr_goto 100 dX7_step_96 (by decide) ?_
                  refine q_putI dX7_step_100 fl7_58 (kR7 hS492.1 ta0) (Or.inl rfl) hS492 ta0 (by show (0 : Int) ≤ v513.toInt ∧ v513.toInt ≤ (5 : Int); exact om_5c756936 h514) rfl (by decide +kernel) ?_
                  intro I515 hS516 e517 f518
                  have c519 : I515 a0 4 = v14 := (f518 _ _ (fun q => absurd q.2 (by decide))).trans c493
                  have c520 : I515 a0 2 = v495 := (f518 _ _ (fun q => absurd q.2 (by decide))).trans c496
                  refine tr_goto 173 dX7_step_103 (by decide) ?_
                  obtain ⟨v521, c522⟩ : ∃ v, I515 a0 6 = v := ⟨_, rfl⟩
                  exact tr_vret hZ dX7_step_173 rfl (by decide) (by decide) ⟨rfl, rfl, rfl, rfl, rfl, hS516, hL494, (by (try rw [c520]); simp only [tkK, tkN, e284]; exact om_70f24ea8 p8 h20 b278.2 b278.1 p279 p294 h297 h298 h447 h448 p489 p490), (by (try rw [c519]); first | done | with_reducible assumption | exact om_7847aadf e284), (by (try rw [e517]); simp only [tkK, tkN, e284]; exact om_23224380 p8 h20 b278.2 b278.1 p279 p294 h297 h298 h447 h448 p489 p490 h501 h502 h514), (by (try rw [c499]); intro z; first | (rw [tkW_X, e284]; exact om_acd7a85a p491) | (exfalso; revert z; simp only [tkK, e284]; repeat' (first | split | omega))), (by (try rw [c522]); intro z; first | (rw [tkV_Y, e284]; fail) | (exfalso; revert z; simp only [tkK, e284]; exact om_e281b2ce p8 h20 b278.2 b278.1 p279 p294 h297 h298 p489 p490)), trivial⟩
          · skip
            refine tr_aload_n dX7_step_57 hl9 ?_
            refine q_iconst dX7_step_58 (by decide) ?_
            intro v523 h524
            refine q_putI dX7_step_59 fl7_58 (kR7 hS286.1 ta0) (Or.inl rfl) hS286 ta0 (by show (0 : Int) ≤ v523.toInt ∧ v523.toInt ≤ (5 : Int); exact om_816ef5b3 h20 h290) rfl (by decide +kernel) ?_
            intro I525 hS526 e527 f528
            have c529 : I525 a0 2 = v14 := (f528 _ _ (fun q => absurd q.2 (by decide))).trans c289
            have c530 : I525 a0 4 = v14 := (f528 _ _ (fun q => absurd q.2 (by decide))).trans e287
            obtain ⟨y531, c532⟩ : ∃ v, L11 a0 5 = v := ⟨_, rfl⟩
            obtain ⟨v533, c534⟩ : ∃ v, I525 a0 6 = v := ⟨_, rfl⟩
            exact tr_vret hZ dX7_step_62 rfl (by decide) (by decide) ⟨rfl, rfl, rfl, rfl, rfl, hS526, hL13, (by (try rw [c529]); simp only [tkK, tkN, e284]; exact om_e1e22ae5 h20 h290), (by (try rw [c530]); first | done | with_reducible assumption | exact om_ebdcdc70 h20 h290), (by (try rw [e527]); simp only [tkK, tkN, e284]; exact om_d6bd2847 h20 h290 h524), (by (try rw [c532]); intro z; first | (rw [tkW_X, e284]; exact om_596813ad h20 h290) | (exfalso; revert z; simp only [tkK, e284]; repeat' (first | split | omega))), (by (try rw [c534]); intro z; first | (rw [tkV_Y, e284]; exact om_596813ad h20 h290) | (exfalso; revert z; simp only [tkK, e284]; repeat' (first | split | omega))), trivial⟩
        · skip
          refine tr_aload_n dX7_step_25 hl9 ?_
          refine tr_dup dX7_step_26 rfl ?_
          refine q_getI dX7_step_27 fl7_48 (kR7 hS12.1 ta0) c15 ?_
          refine q_iconst dX7_step_30 (by decide) ?_
          intro v535 h536
          refine q_iaddE dX7_step_31 (by intro j1 j2 j3 j4; exact om_c7cba203 b7.2 b7.1 b19.2 b19.1 h20 h536) ?_
          intro v537 h538
          refine q_putI dX7_step_32 fl7_48 (kR7 hS12.1 ta0) (Or.inl rfl) hS12 ta0 (by show (0 : Int) ≤ v537.toInt ∧ v537.toInt ≤ (900 : Int); exact om_2221b2eb b7.2 b7.1 b19.2 b19.1 h20 h536 h538) rfl (by decide +kernel) ?_
          intro I539 hS540 e541 f542
          refine tr_goto 0 dX7_step_35 (by decide) ?_
          exact ih17 _ I539 L11 v537 hl9 hS540 hL13 e541 (by have q := tkS_on (B := gB) (s := v14.toInt) (t := v537.toInt) (by exact om_87d88185 p279 h282 h283) (by exact om_73462c49 h536 h538); exact om_9fa72578 g16 q) (by exact om_41fdf379 b7.2 b7.1 hm17 b19.2 b19.1 h20 h536 h538)
  exact lp17 _ _ I0 L0 v1 rfl hS0 hL0 c2 (congrArg (tkS gB) (by exact om_acd7a85a p4)) (Nat.lt_succ_self _)
def wik_X7_takeWhole : List Nat := [450, 451, 452, 454, 455, 463, 464]
def wrk_X7_takeWhole : List Nat := []
def wlk_X7_takeWhole : List Nat := [453]
set_option maxHeartbeats 4000000 in
theorem fk_X7_takeWhole {l : Launch} {T : Nat → Nat} {cn : Nat} {K N : Nat → Nat} {I0 : cz_I} {R0 : cz_R} {L0 : cz_L} {d : Int} (hW0 : Wf T cn K N I0 R0 d) (gB : cz_B) (gs : Int) {a0 : Nat} (ta0 : T a0 = 7) {x1 : Int32} (hx1 : 0 ≤ x1.toInt ∧ x1.toInt ≤ 240) {x2 : Int32} (hx2 : (-1) ≤ x2.toInt ∧ x2.toInt ≤ 240) (hT : ∀ t, R0 a0 0 = some t → Tx I0 t gB) (pre0 : (I0 a0 2).toInt = (tkN gB gs)) (pre1 : (I0 a0 4).toInt = (tkS gB gs)) (pre2 : (I0 a0 3).toInt = (tkK gB gs)) (pre3 : (AtW ((tkK gB gs)) ((L0 a0 5).toInt) ((tkW gB gs)))) (pre4 : (AtV ((tkK gB gs)) ((I0 a0 6).toInt) ((tkV gB gs)))) (pre5 : (I0 a0 1).toInt = (gB.2)) : ConE l mX7_takeWhole [.ref a0, .int x1, .int x2] cn K N I0 R0 L0 (ca_i (fun v cn' K' N' I' R' L' => cn = cn' ∧ K = K' ∧ N = N' ∧ R0 = R' ∧ St T cn K N d wik_X7_takeWhole wrk_X7_takeWhole I0 R0 I' R0 ∧ LgS T wlk_X7_takeWhole L0 L' ∧ (0 ≤ v.toInt ∧ v.toInt ≤ 1) ∧ (((v.toInt = 1) ∧ ((I' a0 15).toInt = (I0 a0 15).toInt) ∧ ((tkK gB gs) = 2) ∧ (x1.toInt ≤ (tkV gB gs)) ∧ ((tkV gB gs) ≤ x2.toInt) ∧ ((I' a0 7).toInt = (tkV gB gs)) ∧ ((I' a0 2).toInt = (tkN gB (tkN gB gs))) ∧ ((I' a0 4).toInt = (tkS gB (tkN gB gs))) ∧ ((I' a0 3).toInt = (tkK gB (tkN gB gs))) ∧ ((AtW ((tkK gB (tkN gB gs))) ((L' a0 5).toInt) ((tkW gB (tkN gB gs))))) ∧ ((AtV ((tkK gB (tkN gB gs))) ((I' a0 6).toInt) ((tkV gB (tkN gB gs))))) ∧ True) ∨ ((v.toInt = 0) ∧ ((tkK gB gs) ≠ 2) ∧ ((I' a0 15).toInt = 1) ∧ ((I' a0 16).toInt = (tkS gB gs)) ∧ True) ∨ ((v.toInt = 0) ∧ ((tkK gB gs) = 2) ∧ (((tkV gB gs) < x1.toInt ∨ x2.toInt < (tkV gB gs))) ∧ ((I' a0 15).toInt = 4) ∧ ((I' a0 16).toInt = (tkS gB gs)) ∧ True)) ∧ True)) := by
  refine ConE.of (by decide +kernel) rfl (Nat.le_of_ble_eq_true rfl) rfl (fun X hX hZ hE => ?_)
  subst hX
  have hS0 : St T cn K N d wik_X7_takeWhole wrk_X7_takeWhole I0 R0 I0 R0 := St.rf0 hW0
  have hL0 : LgS T wlk_X7_takeWhole L0 L0 := LgS.rf0
  obtain ⟨v1, c2⟩ : ∃ v, I0 a0 2 = v := ⟨_, rfl⟩
  have b3 := iv7_2 hS0.1 ta0 c2
  have p4 := pre0
  rw [c2] at p4
  obtain ⟨v5, c6⟩ : ∃ v, I0 a0 4 = v := ⟨_, rfl⟩
  have b7 := iv7_4 hS0.1 ta0 c6
  have p8 := pre1
  rw [c6] at p8
  obtain ⟨v9, c10⟩ : ∃ v, I0 a0 3 = v := ⟨_, rfl⟩
  have b11 := iv7_3 hS0.1 ta0 c10
  have p12 := pre2
  rw [c10] at p12
  obtain ⟨y13, c14⟩ : ∃ v, L0 a0 5 = v := ⟨_, rfl⟩
  have p15 := pre3
  rw [c14] at p15
  obtain ⟨v16, c17⟩ : ∃ v, I0 a0 6 = v := ⟨_, rfl⟩
  have p18 := pre4
  rw [c17] at p18
  obtain ⟨v19, c20⟩ : ∃ v, I0 a0 1 = v := ⟨_, rfl⟩
  have b21 := iv7_1 hW0 ta0 c20
  have p22 := pre5
  rw [c20] at p22
  obtain ⟨v23, c24⟩ : ∃ v, I0 a0 15 = v := ⟨_, rfl⟩
  refine tr_aload_n dX7_takeWhole_0 rfl ?_
  refine tr_iload_n dX7_takeWhole_1 rfl ?_
  refine tr_iload_n dX7_takeWhole_2 rfl ?_
  refine q_callVi hE (M' := mX7_seesWhole) (as := [_, _]) dX7_takeWhole_3 lk7_105 inX7_seesWhole seX7_seesWhole myX7_seesWhole (by decide) ⟨by decide, by decide⟩ rfl (kR7 hS0.1 ta0) (Nat.le_of_ble_eq_true rfl) rfl rfl (by decide) (by decide) (fk_X7_seesWhole hS0.1 (gB) (gs) ta0 (by (try rw [c2]); first | done | with_reducible assumption | omega) (by (try rw [c6]); first | done | with_reducible assumption | omega) (by (try rw [c10]); first | done | with_reducible assumption | omega) (by (try rw [c14]); first | done | assumption) (by (try rw [c17]); first | done | assumption)) ?_
  rintro v30 cn' K' N' I25 R26 L27 ⟨rfl, rfl, rfl, rfl, rfl, g28, h31, dj32, -⟩
  have hS33 := hS0.tr g28 (by decide +kernel) (by decide +kernel)
  have c34 : I25 a0 2 = v1 := (g28.cell ta0 (by decide +kernel)).trans c2
  have c35 : I25 a0 4 = v5 := (g28.cell ta0 (by decide +kernel)).trans c6
  have c36 : I25 a0 3 = v9 := (g28.cell ta0 (by decide +kernel)).trans c10
  have c37 : I25 a0 6 = v16 := (g28.cell ta0 (by decide +kernel)).trans c17
  rcases dj32 with ⟨p38, p39, p40, p41, p42, p43, -⟩ | ⟨p44, p45, p46, p47, -⟩ | ⟨p48, p49, p50, p51, p52, -⟩
  · skip
    obtain ⟨v53, c54⟩ : ∃ v, I25 a0 15 = v := ⟨_, rfl⟩
    rw [c54] at p39
    rw [c24] at p39
    rw [c17] at p43
    refine q_if_ne 11 dX7_takeWhole_6 (by decide) (fun h55 => ?_) (fun h55 => ?_)
    · skip
      refine tr_aload_n dX7_takeWhole_11 rfl ?_
      refine tr_aload_n dX7_takeWhole_12 rfl ?_
      have p56 := p18 (by exact om_80d827e6 p40)
      refine q_getI dX7_takeWhole_13 fl7_86 (kR7 hS33.1 ta0) c37 ?_
      refine q_putI dX7_takeWhole_16 fl7_109 (kR7 hS33.1 ta0) (Or.inl rfl) hS33 ta0 (by show (0 : Int) ≤ v16.toInt ∧ v16.toInt ≤ (240 : Int); exact om_f917343d hx1.2 hx1.1 hx2.2 hx2.1 p41 p42 p43) rfl (by decide +kernel) ?_
      intro I57 hS58 e59 f60
      have c61 : I57 a0 2 = v1 := (f60 _ _ (fun q => absurd q.2 (by decide))).trans c34
      have c62 : I57 a0 4 = v5 := (f60 _ _ (fun q => absurd q.2 (by decide))).trans c35
      have c63 : I57 a0 3 = v9 := (f60 _ _ (fun q => absurd q.2 (by decide))).trans c36
      have c64 : I57 a0 6 = v16 := (f60 _ _ (fun q => absurd q.2 (by decide))).trans c37
      have c65 : I57 a0 15 = v53 := (f60 _ _ (fun q => absurd q.2 (by decide))).trans c54
      refine tr_aload_n dX7_takeWhole_19 rfl ?_
      refine q_callVv hE (M' := mX7_step) (as := []) dX7_takeWhole_20 lk7_51 inX7_step seX7_step myX7_step (by decide) ⟨by decide, by decide⟩ rfl (kR7 hS58.1 ta0) (Nat.le_of_ble_eq_true rfl) rfl rfl (by decide) (by decide) (fk_X7_step hS58.1 (gB) ((tkN gB gs)) ta0 (TxA.kp hT hS58 ta0 rfl rfl rfl (by decide +kernel) (by decide +kernel)) (by (try rw [c61]); first | done | with_reducible assumption | omega) (by (try rw [((hS58.cell ta0 (by decide +kernel)).trans c20)]); first | done | with_reducible assumption | omega)) ?_
      rintro cn' K' N' I66 R67 L68 ⟨rfl, rfl, rfl, rfl, g69, gl70, p72, p73, p74, p75, p76, -⟩
      have hS77 := hS58.tr g69 (by decide +kernel) (by decide +kernel)
      have c78 : I66 a0 15 = v53 := (g69.cell ta0 (by decide +kernel)).trans c65
      have c79 : I66 a0 7 = v16 := (g69.cell ta0 (by decide +kernel)).trans e59
      have hL80 := hL0.tr gl70 (by decide +kernel)
      obtain ⟨v81, c82⟩ : ∃ v, I66 a0 2 = v := ⟨_, rfl⟩
      have b83 := iv7_2 hS77.1 ta0 c82
      rw [c82] at p72
      obtain ⟨v84, c85⟩ : ∃ v, I66 a0 4 = v := ⟨_, rfl⟩
      have b86 := iv7_4 hS77.1 ta0 c85
      rw [c85] at p73
      obtain ⟨v87, c88⟩ : ∃ v, I66 a0 3 = v := ⟨_, rfl⟩
      have b89 := iv7_3 hS77.1 ta0 c88
      rw [c88] at p74
      obtain ⟨y90, c91⟩ : ∃ v, L68 a0 5 = v := ⟨_, rfl⟩
      rw [c91] at p75
      obtain ⟨v92, c93⟩ : ∃ v, I66 a0 6 = v := ⟨_, rfl⟩
      rw [c93] at p76
      refine q_iconst dX7_takeWhole_23 (by decide) ?_
      intro v94 h95
      obtain ⟨v96, c97⟩ : ∃ v, I66 a0 16 = v := ⟨_, rfl⟩
      exact tr_zret hZ dX7_takeWhole_24 rfl (ti_b01 (by exact om_f9079521 h95) (by exact om_e6632817 h95)) (by decide) (by decide) ⟨v94, rfl, rfl, rfl, rfl, rfl, hS77, hL80, (by exact om_d753bc65 h95), (Or.inl ⟨(by first | done | with_reducible assumption | omega), (by (try rw [c78]); (try rw [c24]); first | done | with_reducible assumption | omega), (by first | done | with_reducible assumption | omega), (by first | done | with_reducible assumption | omega), (by first | done | with_reducible assumption | omega), (by (try rw [c79]); first | done | with_reducible assumption | omega), (by (try rw [c82]); first | done | with_reducible assumption | omega), (by (try rw [c85]); first | done | with_reducible assumption | omega), (by (try rw [c88]); first | done | with_reducible assumption | omega), (by (try rw [c91]); first | done | assumption), (by (try rw [c93]); first | done | assumption), trivial⟩), trivial⟩
    · skip
      exfalso; exact om_3624102b p38 h55
  · skip
    obtain ⟨v98, c99⟩ : ∃ v, I25 a0 15 = v := ⟨_, rfl⟩
    rw [c99] at p46
    obtain ⟨v100, c101⟩ : ∃ v, I25 a0 16 = v := ⟨_, rfl⟩
    rw [c101] at p47
    refine q_if_ne 11 dX7_takeWhole_6 (by decide) (fun h102 => ?_) (fun h102 => ?_)
    · skip
      exfalso; exact om_3a97d4a5 p44 h102
    · skip
      refine q_iconst dX7_takeWhole_9 (by decide) ?_
      intro v103 h104
      obtain ⟨v105, c106⟩ : ∃ v, I25 a0 7 = v := ⟨_, rfl⟩
      have b107 := iv7_7 hS33.1 ta0 c106
      exact tr_zret hZ dX7_takeWhole_10 rfl (ti_b01 (by exact om_d99fa9e4 h104) (by exact om_d3de7ec9 h104)) (by decide) (by decide) ⟨v103, rfl, rfl, rfl, rfl, rfl, hS33, hL0, (by exact om_3b50ecb9 h104), (Or.inr (Or.inl ⟨(by first | done | with_reducible assumption | omega), (by first | done | with_reducible assumption | omega), (by (try rw [c99]); first | done | with_reducible assumption | omega), (by (try rw [c101]); first | done | with_reducible assumption | omega), trivial⟩)), trivial⟩
  · skip
    obtain ⟨v108, c109⟩ : ∃ v, I25 a0 15 = v := ⟨_, rfl⟩
    rw [c109] at p51
    obtain ⟨v110, c111⟩ : ∃ v, I25 a0 16 = v := ⟨_, rfl⟩
    rw [c111] at p52
    refine q_if_ne 11 dX7_takeWhole_6 (by decide) (fun h112 => ?_) (fun h112 => ?_)
    · skip
      exfalso; exact om_3a97d4a5 p48 h112
    · skip
      refine q_iconst dX7_takeWhole_9 (by decide) ?_
      intro v113 h114
      obtain ⟨v115, c116⟩ : ∃ v, I25 a0 7 = v := ⟨_, rfl⟩
      have b117 := iv7_7 hS33.1 ta0 c116
      exact tr_zret hZ dX7_takeWhole_10 rfl (ti_b01 (by exact om_d99fa9e4 h114) (by exact om_d3de7ec9 h114)) (by decide) (by decide) ⟨v113, rfl, rfl, rfl, rfl, rfl, hS33, hL0, (by exact om_3b50ecb9 h114), (Or.inr (Or.inr (⟨(by first | done | with_reducible assumption | omega), (by first | done | with_reducible assumption | omega), (by first | done | with_reducible assumption | omega), (by (try rw [c109]); first | done | with_reducible assumption | omega), (by (try rw [c111]); first | done | with_reducible assumption | omega), trivial⟩))), trivial⟩
set_option maxHeartbeats 4000000 in
theorem fk_X7_seesWord {l : Launch} {T : Nat → Nat} {cn : Nat} {K N : Nat → Nat} {I0 : cz_I} {R0 : cz_R} {L0 : cz_L} {d : Int} (hW0 : Wf T cn K N I0 R0 d) (gB : cz_B) (gs : Int) {a0 : Nat} (ta0 : T a0 = 7) {u1 : UInt32} (hu1 : u1.toNat < cz_NS) (pre0 : (I0 a0 3).toInt = (tkK gB gs)) (pre1 : (AtW ((tkK gB gs)) ((L0 a0 5).toInt) ((tkW gB gs)))) : ConE l mX7_seesWord [.ref a0, .float u1] cn K N I0 R0 L0 (ca_i (fun v cn' K' N' I' R' L' => cn = cn' ∧ K = K' ∧ N = N' ∧ I0 = I' ∧ R0 = R' ∧ L0 = L' ∧ (0 ≤ v.toInt ∧ v.toInt ≤ 1) ∧ (((v.toInt = 1) ∧ ((tkK gB gs) = 1) ∧ ((tkW gB gs) = (pkI u1)) ∧ True) ∨ ((v.toInt = 0) ∧ (((tkK gB gs) ≠ 1 ∨ (tkW gB gs) ≠ (pkI u1))) ∧ True)) ∧ True)) := by
  refine ConE.of (by decide +kernel) rfl (Nat.le_of_ble_eq_true rfl) rfl (fun X hX hZ hE => ?_)
  subst hX
  obtain ⟨v1, c2⟩ : ∃ v, I0 a0 3 = v := ⟨_, rfl⟩
  have b3 := iv7_3 hW0 ta0 c2
  have p4 := pre0
  rw [c2] at p4
  obtain ⟨y5, c6⟩ : ∃ v, L0 a0 5 = v := ⟨_, rfl⟩
  have p7 := pre1
  rw [c6] at p7
  refine tr_aload_n dX7_seesWord_0 rfl ?_
  refine q_getI dX7_seesWord_1 fl7_58 (kR7 hW0 ta0) c2 ?_
  refine q_iconst dX7_seesWord_4 (by decide) ?_
  intro v8 h9
  refine q_icmp_ne 24 dX7_seesWord_5 (by decide) (fun h10 => ?_) (fun h10 => ?_)
  · skip
    refine q_iconst dX7_seesWord_24 (by decide) ?_
    intro v11 h12
    exact tr_zret hZ dX7_seesWord_25 rfl (ti_b01 (by exact om_d99fa9e4 h12) (by exact om_d3de7ec9 h12)) (by decide) (by decide) ⟨v11, rfl, rfl, rfl, rfl, rfl, rfl, rfl, (by exact om_3b50ecb9 h12), (Or.inr (⟨(by first | done | with_reducible assumption | omega), (by first | done | with_reducible assumption | exact om_3ea573a1 p4 h9 h10), trivial⟩)), trivial⟩
  · skip
    refine tr_aload_n dX7_seesWord_8 rfl ?_
    have p13 := p7 (by exact om_94131590 p4 h9 h10)
    refine q_getLE dX7_seesWord_9 fl7_78 (kR7 hW0 ta0) c6 ?_
    refine tr_aload_nS dX7_seesWord_12 rfl ?_
    refine q_callSl hE (M' := mX7_packed) (as := [_]) dX7_seesWord_13 lk7_97 inX7_packed myX7_packed ⟨by decide, by decide⟩ rfl (Nat.le_of_ble_eq_true rfl) rfl rfl (by decide) (by decide) (f_X7_packed   hu1) ?_
    rintro y19 cn' K' N' I14 R15 L16 ⟨rfl, rfl, rfl, rfl, rfl, rfl, p20, -⟩
    refine q_lcmpNe 24 dX7_seesWord_16 dX7_seesWord_17 (by decide) (fun h21 => ?_) (fun h21 => ?_)
    · skip
      refine q_iconst dX7_seesWord_24 (by decide) ?_
      intro v22 h23
      exact tr_zret hZ dX7_seesWord_25 rfl (ti_b01 (by exact om_d99fa9e4 h23) (by exact om_d3de7ec9 h23)) (by decide) (by decide) ⟨v22, rfl, rfl, rfl, rfl, rfl, rfl, rfl, (by exact om_3b50ecb9 h23), (Or.inr (⟨(by first | done | with_reducible assumption | omega), (by first | done | with_reducible assumption | exact om_6ffed65e p13 p20 h21), trivial⟩)), trivial⟩
    · skip
      refine q_iconst dX7_seesWord_20 (by decide) ?_
      intro v24 h25
      refine tr_goto 25 dX7_seesWord_21 (by decide) ?_
      exact tr_zret hZ dX7_seesWord_25 rfl (ti_b01 (by exact om_f9079521 h25) (by exact om_e6632817 h25)) (by decide) (by decide) ⟨v24, rfl, rfl, rfl, rfl, rfl, rfl, rfl, (by exact om_d753bc65 h25), (Or.inl ⟨(by first | done | with_reducible assumption | omega), (by first | done | with_reducible assumption | exact om_94131590 p4 h9 h10), (by first | done | with_reducible assumption | exact om_57afb6b5 p13 p20 h21), trivial⟩), trivial⟩
def wik_X7_takeWord : List Nat := [450, 451, 452, 454, 463, 464]
def wrk_X7_takeWord : List Nat := []
def wlk_X7_takeWord : List Nat := [453]
set_option maxHeartbeats 4000000 in
theorem fk_X7_takeWord {l : Launch} {T : Nat → Nat} {cn : Nat} {K N : Nat → Nat} {I0 : cz_I} {R0 : cz_R} {L0 : cz_L} {d : Int} (hW0 : Wf T cn K N I0 R0 d) (gB : cz_B) (gs : Int) {a0 : Nat} (ta0 : T a0 = 7) {u1 : UInt32} (hu1 : u1.toNat < cz_NS) (hT : ∀ t, R0 a0 0 = some t → Tx I0 t gB) (pre0 : (I0 a0 2).toInt = (tkN gB gs)) (pre1 : (I0 a0 4).toInt = (tkS gB gs)) (pre2 : (I0 a0 3).toInt = (tkK gB gs)) (pre3 : (AtW ((tkK gB gs)) ((L0 a0 5).toInt) ((tkW gB gs)))) (pre4 : (AtV ((tkK gB gs)) ((I0 a0 6).toInt) ((tkV gB gs)))) (pre5 : (I0 a0 1).toInt = (gB.2)) : ConE l mX7_takeWord [.ref a0, .float u1] cn K N I0 R0 L0 (ca_i (fun v cn' K' N' I' R' L' => cn = cn' ∧ K = K' ∧ N = N' ∧ R0 = R' ∧ St T cn K N d wik_X7_takeWord wrk_X7_takeWord I0 R0 I' R0 ∧ LgS T wlk_X7_takeWord L0 L' ∧ (0 ≤ v.toInt ∧ v.toInt ≤ 1) ∧ (((v.toInt = 1) ∧ ((I' a0 15).toInt = (I0 a0 15).toInt) ∧ ((tkK gB gs) = 1) ∧ ((tkW gB gs) = (pkI u1)) ∧ ((I' a0 2).toInt = (tkN gB (tkN gB gs))) ∧ ((I' a0 4).toInt = (tkS gB (tkN gB gs))) ∧ ((I' a0 3).toInt = (tkK gB (tkN gB gs))) ∧ ((AtW ((tkK gB (tkN gB gs))) ((L' a0 5).toInt) ((tkW gB (tkN gB gs))))) ∧ ((AtV ((tkK gB (tkN gB gs))) ((I' a0 6).toInt) ((tkV gB (tkN gB gs))))) ∧ True) ∨ ((v.toInt = 0) ∧ (((tkK gB gs) ≠ 1 ∨ (tkW gB gs) ≠ (pkI u1))) ∧ ((I' a0 15).toInt = 1) ∧ ((I' a0 16).toInt = (tkS gB gs)) ∧ True)) ∧ True)) := by
  refine ConE.of (by decide +kernel) rfl (Nat.le_of_ble_eq_true rfl) rfl (fun X hX hZ hE => ?_)
  subst hX
  have hS0 : St T cn K N d wik_X7_takeWord wrk_X7_takeWord I0 R0 I0 R0 := St.rf0 hW0
  have hL0 : LgS T wlk_X7_takeWord L0 L0 := LgS.rf0
  obtain ⟨v1, c2⟩ : ∃ v, I0 a0 2 = v := ⟨_, rfl⟩
  have b3 := iv7_2 hS0.1 ta0 c2
  have p4 := pre0
  rw [c2] at p4
  obtain ⟨v5, c6⟩ : ∃ v, I0 a0 4 = v := ⟨_, rfl⟩
  have b7 := iv7_4 hS0.1 ta0 c6
  have p8 := pre1
  rw [c6] at p8
  obtain ⟨v9, c10⟩ : ∃ v, I0 a0 3 = v := ⟨_, rfl⟩
  have b11 := iv7_3 hS0.1 ta0 c10
  have p12 := pre2
  rw [c10] at p12
  obtain ⟨y13, c14⟩ : ∃ v, L0 a0 5 = v := ⟨_, rfl⟩
  have p15 := pre3
  rw [c14] at p15
  obtain ⟨v16, c17⟩ : ∃ v, I0 a0 6 = v := ⟨_, rfl⟩
  have p18 := pre4
  rw [c17] at p18
  obtain ⟨v19, c20⟩ : ∃ v, I0 a0 1 = v := ⟨_, rfl⟩
  have b21 := iv7_1 hW0 ta0 c20
  have p22 := pre5
  rw [c20] at p22
  obtain ⟨v23, c24⟩ : ∃ v, I0 a0 15 = v := ⟨_, rfl⟩
  refine tr_aload_n dX7_takeWord_0 rfl ?_
  refine tr_aload_nS dX7_takeWord_1 rfl ?_
  refine q_callVi hE (M' := mX7_seesWord) (as := [_]) dX7_takeWord_2 lk7_101 inX7_seesWord seX7_seesWord myX7_seesWord (by decide) ⟨by decide, by decide⟩ rfl (kR7 hS0.1 ta0) (Nat.le_of_ble_eq_true rfl) rfl rfl (by decide) (by decide) (fk_X7_seesWord hS0.1 (gB) (gs) ta0 hu1 (by (try rw [c10]); first | done | with_reducible assumption | omega) (by (try rw [c14]); first | done | assumption)) ?_
  rintro v30 cn' K' N' I25 R26 L27 ⟨rfl, rfl, rfl, rfl, rfl, rfl, h31, dj32, -⟩
  rcases dj32 with ⟨p33, p34, p35, -⟩ | ⟨p36, p37, -⟩
  · skip
    refine q_if_ne 14 dX7_takeWord_5 (by decide) (fun h38 => ?_) (fun h38 => ?_)
    · skip
      refine tr_aload_n dX7_takeWord_14 rfl ?_
      refine q_callVv hE (M' := mX7_step) (as := []) dX7_takeWord_15 lk7_51 inX7_step seX7_step myX7_step (by decide) ⟨by decide, by decide⟩ rfl (kR7 hS0.1 ta0) (Nat.le_of_ble_eq_true rfl) rfl rfl (by decide) (by decide) (fk_X7_step hS0.1 (gB) ((tkN gB gs)) ta0 (TxA.kp hT hS0 ta0 rfl rfl rfl (by decide +kernel) (by decide +kernel)) (by (try rw [c2]); first | done | with_reducible assumption | omega) (by (try rw [c20]); first | done | with_reducible assumption | omega)) ?_
      rintro cn' K' N' I39 R40 L41 ⟨rfl, rfl, rfl, rfl, g42, gl43, p45, p46, p47, p48, p49, -⟩
      have hS50 := hS0.tr g42 (by decide +kernel) (by decide +kernel)
      have c51 : I39 a0 15 = v23 := (g42.cell ta0 (by decide +kernel)).trans c24
      have hL52 := hL0.tr gl43 (by decide +kernel)
      obtain ⟨v53, c54⟩ : ∃ v, I39 a0 2 = v := ⟨_, rfl⟩
      have b55 := iv7_2 hS50.1 ta0 c54
      rw [c54] at p45
      obtain ⟨v56, c57⟩ : ∃ v, I39 a0 4 = v := ⟨_, rfl⟩
      have b58 := iv7_4 hS50.1 ta0 c57
      rw [c57] at p46
      obtain ⟨v59, c60⟩ : ∃ v, I39 a0 3 = v := ⟨_, rfl⟩
      have b61 := iv7_3 hS50.1 ta0 c60
      rw [c60] at p47
      obtain ⟨y62, c63⟩ : ∃ v, L41 a0 5 = v := ⟨_, rfl⟩
      rw [c63] at p48
      obtain ⟨v64, c65⟩ : ∃ v, I39 a0 6 = v := ⟨_, rfl⟩
      rw [c65] at p49
      refine q_iconst dX7_takeWord_18 (by decide) ?_
      intro v66 h67
      obtain ⟨v68, c69⟩ : ∃ v, I39 a0 16 = v := ⟨_, rfl⟩
      exact tr_zret hZ dX7_takeWord_19 rfl (ti_b01 (by exact om_f9079521 h67) (by exact om_e6632817 h67)) (by decide) (by decide) ⟨v66, rfl, rfl, rfl, rfl, rfl, hS50, hL52, (by exact om_d753bc65 h67), (Or.inl ⟨(by first | done | with_reducible assumption | omega), (by (try rw [c51]); (try rw [c24]); first | done | with_reducible assumption | omega), (by first | done | with_reducible assumption | omega), (by first | done | with_reducible assumption | omega), (by (try rw [c54]); first | done | with_reducible assumption | omega), (by (try rw [c57]); first | done | with_reducible assumption | omega), (by (try rw [c60]); first | done | with_reducible assumption | omega), (by (try rw [c63]); first | done | assumption), (by (try rw [c65]); first | done | assumption), trivial⟩), trivial⟩
    · skip
      exfalso; exact om_3624102b p33 h38
  · skip
    refine q_if_ne 14 dX7_takeWord_5 (by decide) (fun h70 => ?_) (fun h70 => ?_)
    · skip
      exfalso; exact om_3a97d4a5 p36 h70
    · skip
      refine tr_aload_n dX7_takeWord_8 rfl ?_
      refine q_iconst dX7_takeWord_9 (by decide) ?_
      intro v71 h72
      refine q_callVi hE (M' := mX7_fail) (as := [_]) dX7_takeWord_10 lk7_64 inX7_fail seX7_fail myX7_fail (by decide) ⟨by decide, by decide⟩ rfl (kR7 hS0.1 ta0) (Nat.le_of_ble_eq_true rfl) rfl rfl (by decide) (by decide) (fk_X7_fail hS0.1  ta0 (by exact om_95922198 h72)) ?_
      rintro v78 cn' K' N' I73 R74 L75 ⟨rfl, rfl, rfl, rfl, rfl, g76, h79, p80, p81, p82, -⟩
      have hS83 := hS0.tr g76 (by decide +kernel) (by decide +kernel)
      have c84 : I73 a0 2 = v1 := (g76.cell ta0 (by decide +kernel)).trans c2
      have c85 : I73 a0 4 = v5 := (g76.cell ta0 (by decide +kernel)).trans c6
      have c86 : I73 a0 3 = v9 := (g76.cell ta0 (by decide +kernel)).trans c10
      have c87 : I73 a0 6 = v16 := (g76.cell ta0 (by decide +kernel)).trans c17
      obtain ⟨v88, c89⟩ : ∃ v, I73 a0 15 = v := ⟨_, rfl⟩
      rw [c89] at p81
      obtain ⟨v90, c91⟩ : ∃ v, I73 a0 16 = v := ⟨_, rfl⟩
      rw [c91] at p82
      rw [c6] at p82
      exact tr_zret hZ dX7_takeWord_13 rfl (ti_b01 (by exact om_d99fa9e4 p80) (by exact om_d3de7ec9 p80)) (by decide) (by decide) ⟨v78, rfl, rfl, rfl, rfl, rfl, hS83, hL0, (by exact om_be53a44c h79), (Or.inr (⟨(by first | done | with_reducible assumption | omega), (by first | done | with_reducible assumption | omega), (by (try rw [c89]); first | done | with_reducible assumption | exact om_9fbcd811 h72 p81), (by (try rw [c91]); first | done | with_reducible assumption | exact om_9fa72578 p8 p82), trivial⟩)), trivial⟩
def wik_X7_takeSpan : List Nat := [450, 451, 452, 454, 455, 456, 457, 463, 464]
def wrk_X7_takeSpan : List Nat := []
def wlk_X7_takeSpan : List Nat := [453]
set_option maxHeartbeats 4000000 in
theorem fk_X7_takeSpan {l : Launch} {T : Nat → Nat} {cn : Nat} {K N : Nat → Nat} {I0 : cz_I} {R0 : cz_R} {L0 : cz_L} {d : Int} (hW0 : Wf T cn K N I0 R0 d) (gB : cz_B) (gs : Int) (gQ : Nat → Int) {a0 : Nat} (ta0 : T a0 = 7) (hT : ∀ t, R0 a0 0 = some t → Tx I0 t gB) (pre0 : (I0 a0 2).toInt = (tkN gB gs)) (pre1 : (I0 a0 4).toInt = (tkS gB gs)) (pre2 : (I0 a0 3).toInt = (tkK gB gs)) (pre3 : (AtW ((tkK gB gs)) ((L0 a0 5).toInt) ((tkW gB gs)))) (pre4 : (AtV ((tkK gB gs)) ((I0 a0 6).toInt) ((tkV gB gs)))) (pre5 : (I0 a0 1).toInt = (gB.2)) (pre6 : ∀ b1, R0 a0 10 = some b1 → (I0 b1 0).toInt = (gQ 0)) : ConE l mX7_takeSpan [.ref a0] cn K N I0 R0 L0 (ca_i (fun v cn' K' N' I' R' L' => cn = cn' ∧ K = K' ∧ N = N' ∧ R0 = R' ∧ St T cn K N d wik_X7_takeSpan wrk_X7_takeSpan I0 R0 I' R0 ∧ LgS T wlk_X7_takeSpan L0 L' ∧ (0 ≤ v.toInt ∧ v.toInt ≤ 1) ∧ (((v.toInt = 1) ∧ ((I' a0 15).toInt = (I0 a0 15).toInt) ∧ ((spF gB gQ gs) = 0) ∧ ((I' a0 8).toInt = (tkV gB gs)) ∧ ((I' a0 9).toInt = (tkV gB (tkN gB (tkN gB gs)))) ∧ ((I' a0 2).toInt = (tkN gB (tkN gB (tkN gB (tkN gB gs))))) ∧ ((I' a0 4).toInt = (tkS gB (tkN gB (tkN gB (tkN gB gs))))) ∧ ((I' a0 3).toInt = (tkK gB (tkN gB (tkN gB (tkN gB gs))))) ∧ ((AtW ((tkK gB (tkN gB (tkN gB (tkN gB gs))))) ((L' a0 5).toInt) ((tkW gB (tkN gB (tkN gB (tkN gB gs))))))) ∧ ((AtV ((tkK gB (tkN gB (tkN gB (tkN gB gs))))) ((I' a0 6).toInt) ((tkV gB (tkN gB (tkN gB (tkN gB gs))))))) ∧ True) ∨ ((v.toInt = 0) ∧ ((spF gB gQ gs) ≠ 0) ∧ ((I' a0 15).toInt = (spF gB gQ gs)) ∧ ((I' a0 16).toInt = (spP gB gQ gs)) ∧ True)) ∧ True)) := by
  refine ConE.of (by decide +kernel) rfl (Nat.le_of_ble_eq_true rfl) rfl (fun X hX hZ hE => ?_)
  subst hX
  have hS0 : St T cn K N d wik_X7_takeSpan wrk_X7_takeSpan I0 R0 I0 R0 := St.rf0 hW0
  have hL0 : LgS T wlk_X7_takeSpan L0 L0 := LgS.rf0
  obtain ⟨v1, c2⟩ : ∃ v, I0 a0 2 = v := ⟨_, rfl⟩
  have b3 := iv7_2 hS0.1 ta0 c2
  have p4 := pre0
  rw [c2] at p4
  obtain ⟨v5, c6⟩ : ∃ v, I0 a0 4 = v := ⟨_, rfl⟩
  have b7 := iv7_4 hS0.1 ta0 c6
  have p8 := pre1
  rw [c6] at p8
  obtain ⟨v9, c10⟩ : ∃ v, I0 a0 3 = v := ⟨_, rfl⟩
  have b11 := iv7_3 hS0.1 ta0 c10
  have p12 := pre2
  rw [c10] at p12
  obtain ⟨y13, c14⟩ : ∃ v, L0 a0 5 = v := ⟨_, rfl⟩
  have p15 := pre3
  rw [c14] at p15
  obtain ⟨v16, c17⟩ : ∃ v, I0 a0 6 = v := ⟨_, rfl⟩
  have p18 := pre4
  rw [c17] at p18
  obtain ⟨v19, c20⟩ : ∃ v, I0 a0 1 = v := ⟨_, rfl⟩
  have b21 := iv7_1 hW0 ta0 c20
  have p22 := pre5
  rw [c20] at p22
  obtain ⟨a23, d24, ta23⟩ := rf7_10 hW0 ta0
  obtain ⟨v25, c26⟩ : ∃ v, I0 a23 0 = v := ⟨_, rfl⟩
  have b27 := iv2_0 hW0 ta23 c26
  have p28 := pre6 _ d24
  rw [c26] at p28
  obtain ⟨v29, c30⟩ : ∃ v, I0 a0 15 = v := ⟨_, rfl⟩
  refine tr_aload_n dX7_takeSpan_0 rfl ?_
  refine q_iconst dX7_takeSpan_1 (by decide) ?_
  intro v31 h32
  refine tr_aload_n dX7_takeSpan_2 rfl ?_
  refine tr_getR dX7_takeSpan_3 fl7_22 (kR7 hS0.1 ta0) d24 ?_
  refine q_getI dX7_takeSpan_6 fl7_118 (kR2 hS0.1 ta23) c26 ?_
  refine q_iconst dX7_takeSpan_9 (by decide) ?_
  intro v33 h34
  refine q_isubE dX7_takeSpan_10 (by intro j1 j2 j3 j4; exact om_37812ee5 b27.2 b27.1 p28 h34) ?_
  intro v35 h36
  refine q_callVi hE (M' := mX7_takeWhole) (as := [_, _]) dX7_takeSpan_11 lk7_115 inX7_takeWhole seX7_takeWhole myX7_takeWhole (by decide) ⟨by decide, by decide⟩ rfl (kR7 hS0.1 ta0) (Nat.le_of_ble_eq_true rfl) rfl rfl (by decide) (by decide) (fk_X7_takeWhole hS0.1 (gB) (gs) ta0 (by exact om_9ed8f7f4 h32) (by exact om_fc024398 b27.2 b27.1 p28 h34 h36) (TxA.kp hT hS0 ta0 rfl rfl rfl (by decide +kernel) (by decide +kernel)) (by (try rw [c2]); first | done | with_reducible assumption | omega) (by (try rw [c6]); first | done | with_reducible assumption | omega) (by (try rw [c10]); first | done | with_reducible assumption | omega) (by (try rw [c14]); first | done | assumption) (by (try rw [c17]); first | done | assumption) (by (try rw [c20]); first | done | with_reducible assumption | omega)) ?_
  rintro v42 cn' K' N' I37 R38 L39 ⟨rfl, rfl, rfl, rfl, g40, gl41, h43, dj44, -⟩
  have hS45 := hS0.tr g40 (by decide +kernel) (by decide +kernel)
  have hL46 := hL0.tr gl41 (by decide +kernel)
  rcases dj44 with ⟨p47, p48, p49, p50, p51, p52, p53, p54, p55, p56, p57, -⟩ | ⟨p58, p59, p60, p61, -⟩ | ⟨p62, p63, p64, p65, p66, -⟩
  · skip
    obtain ⟨v67, c68⟩ : ∃ v, I37 a0 15 = v := ⟨_, rfl⟩
    rw [c68] at p48
    rw [c30] at p48
    obtain ⟨v69, c70⟩ : ∃ v, I37 a0 7 = v := ⟨_, rfl⟩
    have b71 := iv7_7 hS45.1 ta0 c70
    rw [c70] at p52
    obtain ⟨v72, c73⟩ : ∃ v, I37 a0 2 = v := ⟨_, rfl⟩
    have b74 := iv7_2 hS45.1 ta0 c73
    rw [c73] at p53
    obtain ⟨v75, c76⟩ : ∃ v, I37 a0 4 = v := ⟨_, rfl⟩
    have b77 := iv7_4 hS45.1 ta0 c76
    rw [c76] at p54
    obtain ⟨v78, c79⟩ : ∃ v, I37 a0 3 = v := ⟨_, rfl⟩
    have b80 := iv7_3 hS45.1 ta0 c79
    rw [c79] at p55
    obtain ⟨y81, c82⟩ : ∃ v, L39 a0 5 = v := ⟨_, rfl⟩
    rw [c82] at p56
    obtain ⟨v83, c84⟩ : ∃ v, I37 a0 6 = v := ⟨_, rfl⟩
    rw [c84] at p57
    refine q_if_ne 19 dX7_takeSpan_14 (by decide) (fun h85 => ?_) (fun h85 => ?_)
    · skip
      refine tr_aload_n dX7_takeSpan_19 rfl ?_
      refine tr_aload_n dX7_takeSpan_20 rfl ?_
      refine q_getI dX7_takeSpan_21 fl7_109 (kR7 hS45.1 ta0) c70 ?_
      refine q_putI dX7_takeSpan_24 fl7_121 (kR7 hS45.1 ta0) (Or.inl rfl) hS45 ta0 (by show (0 : Int) ≤ v69.toInt ∧ v69.toInt ≤ (240 : Int); exact om_d956ef70 b71) rfl (by decide +kernel) ?_
      intro I86 hS87 e88 f89
      have c90 : I86 a0 15 = v67 := (f89 _ _ (fun q => absurd q.2 (by decide))).trans c68
      have c91 : I86 a0 7 = v69 := (f89 _ _ (fun q => absurd q.2 (by decide))).trans c70
      have c92 : I86 a0 2 = v72 := (f89 _ _ (fun q => absurd q.2 (by decide))).trans c73
      have c93 : I86 a0 4 = v75 := (f89 _ _ (fun q => absurd q.2 (by decide))).trans c76
      have c94 : I86 a0 3 = v78 := (f89 _ _ (fun q => absurd q.2 (by decide))).trans c79
      have c95 : I86 a0 6 = v83 := (f89 _ _ (fun q => absurd q.2 (by decide))).trans c84
      refine tr_aload_n dX7_takeSpan_27 rfl ?_
      refine tr_ldcS dX7_takeSpan_28 ld7_124 ?_
      refine q_callVi hE (M' := mX7_takeWord) (as := [_]) dX7_takeSpan_30 lk7_126 inX7_takeWord seX7_takeWord myX7_takeWord (by decide) ⟨by decide, by decide⟩ rfl (kR7 hS87.1 ta0) (Nat.le_of_ble_eq_true rfl) rfl rfl (by decide) (by decide) (fk_X7_takeWord hS87.1 (gB) ((tkN gB gs)) ta0 (by decide) (TxA.kp hT hS87 ta0 rfl rfl rfl (by decide +kernel) (by decide +kernel)) (by (try rw [c92]); first | done | with_reducible assumption | omega) (by (try rw [c93]); first | done | with_reducible assumption | omega) (by (try rw [c94]); first | done | with_reducible assumption | omega) (by (try rw [c82]); first | done | assumption) (by (try rw [c95]); first | done | assumption) (by (try rw [((hS87.cell ta0 (by decide +kernel)).trans c20)]); first | done | with_reducible assumption | omega)) ?_
      rintro v101 cn' K' N' I96 R97 L98 ⟨rfl, rfl, rfl, rfl, g99, gl100, h102, dj103, -⟩
      (try rw [pk_25] at dj103)
      have hS104 := hS87.tr g99 (by decide +kernel) (by decide +kernel)
      have c105 : I96 a0 7 = v69 := (g99.cell ta0 (by decide +kernel)).trans c91
      have c106 : I96 a0 8 = v69 := (g99.cell ta0 (by decide +kernel)).trans e88
      have hL107 := hL46.tr gl100 (by decide +kernel)
      rcases dj103 with ⟨p108, p109, p110, p111, p112, p113, p114, p115, p116, -⟩ | ⟨p117, p118, p119, p120, -⟩
      · skip
        obtain ⟨v121, c122⟩ : ∃ v, I96 a0 15 = v := ⟨_, rfl⟩
        rw [c122] at p109
        rw [c90] at p109
        obtain ⟨v123, c124⟩ : ∃ v, I96 a0 2 = v := ⟨_, rfl⟩
        have b125 := iv7_2 hS104.1 ta0 c124
        rw [c124] at p112
        obtain ⟨v126, c127⟩ : ∃ v, I96 a0 4 = v := ⟨_, rfl⟩
        have b128 := iv7_4 hS104.1 ta0 c127
        rw [c127] at p113
        obtain ⟨v129, c130⟩ : ∃ v, I96 a0 3 = v := ⟨_, rfl⟩
        have b131 := iv7_3 hS104.1 ta0 c130
        rw [c130] at p114
        obtain ⟨y132, c133⟩ : ∃ v, L98 a0 5 = v := ⟨_, rfl⟩
        rw [c133] at p115
        obtain ⟨v134, c135⟩ : ∃ v, I96 a0 6 = v := ⟨_, rfl⟩
        rw [c135] at p116
        refine q_if_eq 56 dX7_takeSpan_33 (by decide) (fun h136 => ?_) (fun h136 => ?_)
        · skip
          exfalso; exact om_3624102b p108 h136
        · skip
          refine tr_aload_n dX7_takeSpan_36 rfl ?_
          refine tr_aload_n dX7_takeSpan_37 rfl ?_
          refine q_getI dX7_takeSpan_38 fl7_121 (kR7 hS104.1 ta0) c106 ?_
          refine q_iconst dX7_takeSpan_41 (by decide) ?_
          intro v137 h138
          refine q_iaddE dX7_takeSpan_42 (by intro j1 j2 j3 j4; exact om_67e9a63b b27.2 b27.1 p28 h32 h34 h36 p50 p51 p52 b71.2 h138) ?_
          intro v139 h140
          refine tr_aload_n dX7_takeSpan_43 rfl ?_
          refine tr_getR dX7_takeSpan_44 fl7_22 (kR7 hS104.1 ta0) d24 ?_
          refine q_getI dX7_takeSpan_47 fl7_118 (kR2 hS104.1 ta23) ((hS104.cell ta23 (by decide +kernel)).trans c26) ?_
          refine q_callVi hE (M' := mX7_takeWhole) (as := [_, _]) dX7_takeSpan_50 lk7_115 inX7_takeWhole seX7_takeWhole myX7_takeWhole (by decide) ⟨by decide, by decide⟩ rfl (kR7 hS104.1 ta0) (Nat.le_of_ble_eq_true rfl) rfl rfl (by decide) (by decide) (fk_X7_takeWhole hS104.1 (gB) ((tkN gB (tkN gB gs))) ta0 (by exact om_e7a0c29f b27.2 b27.1 p28 h32 h34 h36 p50 p51 p52 b71.2 h138 h140) (by exact om_07207620 b27.2 b27.1 p28 h34 h36) (TxA.kp hT hS104 ta0 rfl rfl rfl (by decide +kernel) (by decide +kernel)) (by (try rw [c124]); first | done | with_reducible assumption | omega) (by (try rw [c127]); first | done | with_reducible assumption | omega) (by (try rw [c130]); first | done | with_reducible assumption | omega) (by (try rw [c133]); first | done | assumption) (by (try rw [c135]); first | done | assumption) (by (try rw [((hS104.cell ta0 (by decide +kernel)).trans c20)]); first | done | with_reducible assumption | omega)) ?_
          rintro v146 cn' K' N' I141 R142 L143 ⟨rfl, rfl, rfl, rfl, g144, gl145, h147, dj148, -⟩
          have hS149 := hS104.tr g144 (by decide +kernel) (by decide +kernel)
          have c150 : I141 a0 8 = v69 := (g144.cell ta0 (by decide +kernel)).trans c106
          have hL151 := hL107.tr gl145 (by decide +kernel)
          rcases dj148 with ⟨p152, p153, p154, p155, p156, p157, p158, p159, p160, p161, p162, -⟩ | ⟨p163, p164, p165, p166, -⟩ | ⟨p167, p168, p169, p170, p171, -⟩
          · skip
            obtain ⟨v172, c173⟩ : ∃ v, I141 a0 15 = v := ⟨_, rfl⟩
            rw [c173] at p153
            rw [c122] at p153
            obtain ⟨v174, c175⟩ : ∃ v, I141 a0 7 = v := ⟨_, rfl⟩
            have b176 := iv7_7 hS149.1 ta0 c175
            rw [c175] at p157
            obtain ⟨v177, c178⟩ : ∃ v, I141 a0 2 = v := ⟨_, rfl⟩
            have b179 := iv7_2 hS149.1 ta0 c178
            rw [c178] at p158
            obtain ⟨v180, c181⟩ : ∃ v, I141 a0 4 = v := ⟨_, rfl⟩
            have b182 := iv7_4 hS149.1 ta0 c181
            rw [c181] at p159
            obtain ⟨v183, c184⟩ : ∃ v, I141 a0 3 = v := ⟨_, rfl⟩
            have b185 := iv7_3 hS149.1 ta0 c184
            rw [c184] at p160
            obtain ⟨y186, c187⟩ : ∃ v, L143 a0 5 = v := ⟨_, rfl⟩
            rw [c187] at p161
            obtain ⟨v188, c189⟩ : ∃ v, I141 a0 6 = v := ⟨_, rfl⟩
            rw [c189] at p162
            refine q_if_ne 58 dX7_takeSpan_53 (by decide) (fun h190 => ?_) (fun h190 => ?_)
            · skip
              refine tr_aload_n dX7_takeSpan_58 rfl ?_
              refine tr_aload_n dX7_takeSpan_59 rfl ?_
              refine q_getI dX7_takeSpan_60 fl7_109 (kR7 hS149.1 ta0) c175 ?_
              refine q_putI dX7_takeSpan_63 fl7_129 (kR7 hS149.1 ta0) (Or.inl rfl) hS149 ta0 (by show (0 : Int) ≤ v174.toInt ∧ v174.toInt ≤ (240 : Int); exact om_d956ef70 b176) rfl (by decide +kernel) ?_
              intro I191 hS192 e193 f194
              have c195 : I191 a0 8 = v69 := (f194 _ _ (fun q => absurd q.2 (by decide))).trans c150
              have c196 : I191 a0 15 = v172 := (f194 _ _ (fun q => absurd q.2 (by decide))).trans c173
              have c197 : I191 a0 7 = v174 := (f194 _ _ (fun q => absurd q.2 (by decide))).trans c175
              have c198 : I191 a0 2 = v177 := (f194 _ _ (fun q => absurd q.2 (by decide))).trans c178
              have c199 : I191 a0 4 = v180 := (f194 _ _ (fun q => absurd q.2 (by decide))).trans c181
              have c200 : I191 a0 3 = v183 := (f194 _ _ (fun q => absurd q.2 (by decide))).trans c184
              have c201 : I191 a0 6 = v188 := (f194 _ _ (fun q => absurd q.2 (by decide))).trans c189
              refine q_iconst dX7_takeSpan_66 (by decide) ?_
              intro v202 h203
              obtain ⟨v204, c205⟩ : ∃ v, I191 a0 16 = v := ⟨_, rfl⟩
              exact tr_zret hZ dX7_takeSpan_67 rfl (ti_b01 (by exact om_f9079521 h203) (by exact om_e6632817 h203)) (by decide) (by decide) ⟨v202, rfl, rfl, rfl, rfl, rfl, hS192, hL151, (by exact om_d753bc65 h203), (Or.inl ⟨(by first | done | with_reducible assumption | omega), (by (try rw [c196]); (try rw [c30]); first | done | with_reducible assumption | exact om_1c22ab7e p48 p109 p153), (by first | done | with_reducible assumption | fail | (exact om_e4109b52 p12 p28 h32 h34 h36 p49 p50 p51 p52 b71.2 p110 p111 h138 h140 p154 p155 p156 p157)), (by (try rw [c195]); first | done | with_reducible assumption | omega), (by (try rw [e193]); first | done | with_reducible assumption | omega), (by (try rw [c198]); first | done | with_reducible assumption | omega), (by (try rw [c199]); first | done | with_reducible assumption | omega), (by (try rw [c200]); first | done | with_reducible assumption | omega), (by (try rw [c187]); first | done | assumption), (by (try rw [c201]); first | done | assumption), trivial⟩), trivial⟩
            · skip
              exfalso; exact om_3624102b p152 h190
          · skip
            obtain ⟨v206, c207⟩ : ∃ v, I141 a0 15 = v := ⟨_, rfl⟩
            rw [c207] at p165
            obtain ⟨v208, c209⟩ : ∃ v, I141 a0 16 = v := ⟨_, rfl⟩
            rw [c209] at p166
            refine q_if_ne 58 dX7_takeSpan_53 (by decide) (fun h210 => ?_) (fun h210 => ?_)
            · skip
              exfalso; exact om_3a97d4a5 p163 h210
            · skip
              refine q_iconst dX7_takeSpan_56 (by decide) ?_
              intro v211 h212
              obtain ⟨v213, c214⟩ : ∃ v, I141 a0 9 = v := ⟨_, rfl⟩
              have b215 := iv7_9 hS149.1 ta0 c214
              obtain ⟨v216, c217⟩ : ∃ v, I141 a0 2 = v := ⟨_, rfl⟩
              have b218 := iv7_2 hS149.1 ta0 c217
              obtain ⟨v219, c220⟩ : ∃ v, I141 a0 4 = v := ⟨_, rfl⟩
              have b221 := iv7_4 hS149.1 ta0 c220
              obtain ⟨v222, c223⟩ : ∃ v, I141 a0 3 = v := ⟨_, rfl⟩
              have b224 := iv7_3 hS149.1 ta0 c223
              obtain ⟨y225, c226⟩ : ∃ v, L143 a0 5 = v := ⟨_, rfl⟩
              obtain ⟨v227, c228⟩ : ∃ v, I141 a0 6 = v := ⟨_, rfl⟩
              exact tr_zret hZ dX7_takeSpan_57 rfl (ti_b01 (by exact om_d99fa9e4 h212) (by exact om_d3de7ec9 h212)) (by decide) (by decide) ⟨v211, rfl, rfl, rfl, rfl, rfl, hS149, hL151, (by exact om_3b50ecb9 h212), (Or.inr (⟨(by first | done | with_reducible assumption | omega), (by first | done | with_reducible assumption | fail | (exact om_8e37b1cd p164)), (by (try rw [c207]); first | done | with_reducible assumption | fail | (exact om_92a6bb0d p28 h32 h34 h36 p50 p51 p52 b71.2 h138 h140 p164 p165)), (by (try rw [c209]); first | done | with_reducible assumption | fail | (exact om_e101f569 p12 p28 h32 h34 h36 p49 p50 p51 p52 b71.2 p110 p111 h138 h140 p164 p166)), trivial⟩)), trivial⟩
          · skip
            obtain ⟨v229, c230⟩ : ∃ v, I141 a0 15 = v := ⟨_, rfl⟩
            rw [c230] at p170
            obtain ⟨v231, c232⟩ : ∃ v, I141 a0 16 = v := ⟨_, rfl⟩
            rw [c232] at p171
            refine q_if_ne 58 dX7_takeSpan_53 (by decide) (fun h233 => ?_) (fun h233 => ?_)
            · skip
              exfalso; exact om_3a97d4a5 p167 h233
            · skip
              refine q_iconst dX7_takeSpan_56 (by decide) ?_
              intro v234 h235
              obtain ⟨v236, c237⟩ : ∃ v, I141 a0 9 = v := ⟨_, rfl⟩
              have b238 := iv7_9 hS149.1 ta0 c237
              obtain ⟨v239, c240⟩ : ∃ v, I141 a0 2 = v := ⟨_, rfl⟩
              have b241 := iv7_2 hS149.1 ta0 c240
              obtain ⟨v242, c243⟩ : ∃ v, I141 a0 4 = v := ⟨_, rfl⟩
              have b244 := iv7_4 hS149.1 ta0 c243
              obtain ⟨v245, c246⟩ : ∃ v, I141 a0 3 = v := ⟨_, rfl⟩
              have b247 := iv7_3 hS149.1 ta0 c246
              obtain ⟨y248, c249⟩ : ∃ v, L143 a0 5 = v := ⟨_, rfl⟩
              obtain ⟨v250, c251⟩ : ∃ v, I141 a0 6 = v := ⟨_, rfl⟩
              exact tr_zret hZ dX7_takeSpan_57 rfl (ti_b01 (by exact om_d99fa9e4 h235) (by exact om_d3de7ec9 h235)) (by decide) (by decide) ⟨v234, rfl, rfl, rfl, rfl, rfl, hS149, hL151, (by exact om_3b50ecb9 h235), (Or.inr (⟨(by first | done | with_reducible assumption | omega), (by first | done | with_reducible assumption | fail | (exact om_99956186 p28 h34 h36 p52 h138 h140 p168 p169)), (by (try rw [c230]); first | done | with_reducible assumption | fail | (exact om_19f5d414 p12 p28 h34 h36 p49 p52 p110 p111 h138 h140 p168 p169 p170)), (by (try rw [c232]); first | done | with_reducible assumption | fail | (exact om_4db1125d p12 p28 h32 h34 h36 p49 p50 p51 p52 b71.2 p110 p111 p113 b128.2 b128.1 h138 h140 p168 p169 p171)), trivial⟩)), trivial⟩
      · skip
        obtain ⟨v252, c253⟩ : ∃ v, I96 a0 15 = v := ⟨_, rfl⟩
        rw [c253] at p119
        obtain ⟨v254, c255⟩ : ∃ v, I96 a0 16 = v := ⟨_, rfl⟩
        rw [c255] at p120
        refine q_if_eq 56 dX7_takeSpan_33 (by decide) (fun h256 => ?_) (fun h256 => ?_)
        · skip
          refine q_iconst dX7_takeSpan_56 (by decide) ?_
          intro v257 h258
          obtain ⟨v259, c260⟩ : ∃ v, I96 a0 9 = v := ⟨_, rfl⟩
          have b261 := iv7_9 hS104.1 ta0 c260
          obtain ⟨v262, c263⟩ : ∃ v, I96 a0 2 = v := ⟨_, rfl⟩
          have b264 := iv7_2 hS104.1 ta0 c263
          obtain ⟨v265, c266⟩ : ∃ v, I96 a0 4 = v := ⟨_, rfl⟩
          have b267 := iv7_4 hS104.1 ta0 c266
          obtain ⟨v268, c269⟩ : ∃ v, I96 a0 3 = v := ⟨_, rfl⟩
          have b270 := iv7_3 hS104.1 ta0 c269
          obtain ⟨y271, c272⟩ : ∃ v, L98 a0 5 = v := ⟨_, rfl⟩
          obtain ⟨v273, c274⟩ : ∃ v, I96 a0 6 = v := ⟨_, rfl⟩
          exact tr_zret hZ dX7_takeSpan_57 rfl (ti_b01 (by exact om_d99fa9e4 h258) (by exact om_d3de7ec9 h258)) (by decide) (by decide) ⟨v257, rfl, rfl, rfl, rfl, rfl, hS104, hL107, (by exact om_3b50ecb9 h258), (Or.inr (⟨(by first | done | with_reducible assumption | omega), (by first | done | with_reducible assumption | fail | (exact om_3f43d25f p118)), (by (try rw [c253]); first | done | with_reducible assumption | fail | (exact om_20fce943 p28 h32 h34 h36 p50 p51 p52 b71.2 p118 p119)), (by (try rw [c255]); first | done | with_reducible assumption | fail | (exact om_6ca748b0 p12 p28 h32 h34 h36 p49 p50 p51 p52 b71.2 p54 b77.2 b77.1 p118 p120)), trivial⟩)), trivial⟩
        · skip
          exfalso; exact om_3a97d4a5 p117 h256
    · skip
      exfalso; exact om_3624102b p47 h85
  · skip
    obtain ⟨v275, c276⟩ : ∃ v, I37 a0 15 = v := ⟨_, rfl⟩
    rw [c276] at p60
    obtain ⟨v277, c278⟩ : ∃ v, I37 a0 16 = v := ⟨_, rfl⟩
    rw [c278] at p61
    refine q_if_ne 19 dX7_takeSpan_14 (by decide) (fun h279 => ?_) (fun h279 => ?_)
    · skip
      exfalso; exact om_3a97d4a5 p58 h279
    · skip
      refine q_iconst dX7_takeSpan_17 (by decide) ?_
      intro v280 h281
      obtain ⟨v282, c283⟩ : ∃ v, I37 a0 8 = v := ⟨_, rfl⟩
      have b284 := iv7_8 hS45.1 ta0 c283
      obtain ⟨v285, c286⟩ : ∃ v, I37 a0 9 = v := ⟨_, rfl⟩
      have b287 := iv7_9 hS45.1 ta0 c286
      obtain ⟨v288, c289⟩ : ∃ v, I37 a0 2 = v := ⟨_, rfl⟩
      have b290 := iv7_2 hS45.1 ta0 c289
      obtain ⟨v291, c292⟩ : ∃ v, I37 a0 4 = v := ⟨_, rfl⟩
      have b293 := iv7_4 hS45.1 ta0 c292
      obtain ⟨v294, c295⟩ : ∃ v, I37 a0 3 = v := ⟨_, rfl⟩
      have b296 := iv7_3 hS45.1 ta0 c295
      obtain ⟨y297, c298⟩ : ∃ v, L39 a0 5 = v := ⟨_, rfl⟩
      obtain ⟨v299, c300⟩ : ∃ v, I37 a0 6 = v := ⟨_, rfl⟩
      exact tr_zret hZ dX7_takeSpan_18 rfl (ti_b01 (by exact om_d99fa9e4 h281) (by exact om_d3de7ec9 h281)) (by decide) (by decide) ⟨v280, rfl, rfl, rfl, rfl, rfl, hS45, hL46, (by exact om_3b50ecb9 h281), (Or.inr (⟨(by first | done | with_reducible assumption | omega), (by first | done | with_reducible assumption | fail | (exact om_15a2d279 p59)), (by (try rw [c276]); first | done | with_reducible assumption | fail | (exact om_d2a018bf p59 p60)), (by (try rw [c278]); first | done | with_reducible assumption | fail | (exact om_0b64776b p59 p61)), trivial⟩)), trivial⟩
  · skip
    obtain ⟨v301, c302⟩ : ∃ v, I37 a0 15 = v := ⟨_, rfl⟩
    rw [c302] at p65
    obtain ⟨v303, c304⟩ : ∃ v, I37 a0 16 = v := ⟨_, rfl⟩
    rw [c304] at p66
    refine q_if_ne 19 dX7_takeSpan_14 (by decide) (fun h305 => ?_) (fun h305 => ?_)
    · skip
      exfalso; exact om_3a97d4a5 p62 h305
    · skip
      refine q_iconst dX7_takeSpan_17 (by decide) ?_
      intro v306 h307
      obtain ⟨v308, c309⟩ : ∃ v, I37 a0 8 = v := ⟨_, rfl⟩
      have b310 := iv7_8 hS45.1 ta0 c309
      obtain ⟨v311, c312⟩ : ∃ v, I37 a0 9 = v := ⟨_, rfl⟩
      have b313 := iv7_9 hS45.1 ta0 c312
      obtain ⟨v314, c315⟩ : ∃ v, I37 a0 2 = v := ⟨_, rfl⟩
      have b316 := iv7_2 hS45.1 ta0 c315
      obtain ⟨v317, c318⟩ : ∃ v, I37 a0 4 = v := ⟨_, rfl⟩
      have b319 := iv7_4 hS45.1 ta0 c318
      obtain ⟨v320, c321⟩ : ∃ v, I37 a0 3 = v := ⟨_, rfl⟩
      have b322 := iv7_3 hS45.1 ta0 c321
      obtain ⟨y323, c324⟩ : ∃ v, L39 a0 5 = v := ⟨_, rfl⟩
      obtain ⟨v325, c326⟩ : ∃ v, I37 a0 6 = v := ⟨_, rfl⟩
      exact tr_zret hZ dX7_takeSpan_18 rfl (ti_b01 (by exact om_d99fa9e4 h307) (by exact om_d3de7ec9 h307)) (by decide) (by decide) ⟨v306, rfl, rfl, rfl, rfl, rfl, hS45, hL46, (by exact om_3b50ecb9 h307), (Or.inr (⟨(by first | done | with_reducible assumption | omega), (by first | done | with_reducible assumption | fail | (exact om_7f8d2602 p28 h32 h34 h36 p64)), (by (try rw [c302]); first | done | with_reducible assumption | fail | (exact om_60a5ef1b p12 p28 h32 h34 h36 p63 p64 p65)), (by (try rw [c304]); first | done | with_reducible assumption | fail | (exact om_f8cf3d55 b7.2 b7.1 p8 p28 h32 h34 h36 p64 p66)), trivial⟩)), trivial⟩
def wik_X7_takeComma : List Nat := [450, 451, 452, 454, 463, 464]
def wrk_X7_takeComma : List Nat := []
def wlk_X7_takeComma : List Nat := [453]
set_option maxHeartbeats 4000000 in
theorem fk_X7_takeComma {l : Launch} {T : Nat → Nat} {cn : Nat} {K N : Nat → Nat} {I0 : cz_I} {R0 : cz_R} {L0 : cz_L} {d : Int} (hW0 : Wf T cn K N I0 R0 d) (gB : cz_B) (gs : Int) {a0 : Nat} (ta0 : T a0 = 7) (hT : ∀ t, R0 a0 0 = some t → Tx I0 t gB) (pre0 : (I0 a0 2).toInt = (tkN gB gs)) (pre1 : (I0 a0 4).toInt = (tkS gB gs)) (pre2 : (I0 a0 3).toInt = (tkK gB gs)) (pre3 : (AtW ((tkK gB gs)) ((L0 a0 5).toInt) ((tkW gB gs)))) (pre4 : (AtV ((tkK gB gs)) ((I0 a0 6).toInt) ((tkV gB gs)))) (pre5 : (I0 a0 1).toInt = (gB.2)) : ConE l mX7_takeComma [.ref a0] cn K N I0 R0 L0 (ca_i (fun v cn' K' N' I' R' L' => cn = cn' ∧ K = K' ∧ N = N' ∧ R0 = R' ∧ St T cn K N d wik_X7_takeComma wrk_X7_takeComma I0 R0 I' R0 ∧ LgS T wlk_X7_takeComma L0 L' ∧ (0 ≤ v.toInt ∧ v.toInt ≤ 1) ∧ (((v.toInt = 1) ∧ ((I' a0 15).toInt = (I0 a0 15).toInt) ∧ ((tkK gB gs) = 4) ∧ ((I' a0 2).toInt = (tkN gB (tkN gB gs))) ∧ ((I' a0 4).toInt = (tkS gB (tkN gB gs))) ∧ ((I' a0 3).toInt = (tkK gB (tkN gB gs))) ∧ ((AtW ((tkK gB (tkN gB gs))) ((L' a0 5).toInt) ((tkW gB (tkN gB gs))))) ∧ ((AtV ((tkK gB (tkN gB gs))) ((I' a0 6).toInt) ((tkV gB (tkN gB gs))))) ∧ True) ∨ ((v.toInt = 0) ∧ ((tkK gB gs) ≠ 4) ∧ ((I' a0 15).toInt = 1) ∧ ((I' a0 16).toInt = (tkS gB gs)) ∧ True)) ∧ True)) := by
  refine ConE.of (by decide +kernel) rfl (Nat.le_of_ble_eq_true rfl) rfl (fun X hX hZ hE => ?_)
  subst hX
  have hS0 : St T cn K N d wik_X7_takeComma wrk_X7_takeComma I0 R0 I0 R0 := St.rf0 hW0
  have hL0 : LgS T wlk_X7_takeComma L0 L0 := LgS.rf0
  obtain ⟨v1, c2⟩ : ∃ v, I0 a0 2 = v := ⟨_, rfl⟩
  have b3 := iv7_2 hS0.1 ta0 c2
  have p4 := pre0
  rw [c2] at p4
  obtain ⟨v5, c6⟩ : ∃ v, I0 a0 4 = v := ⟨_, rfl⟩
  have b7 := iv7_4 hS0.1 ta0 c6
  have p8 := pre1
  rw [c6] at p8
  obtain ⟨v9, c10⟩ : ∃ v, I0 a0 3 = v := ⟨_, rfl⟩
  have b11 := iv7_3 hS0.1 ta0 c10
  have p12 := pre2
  rw [c10] at p12
  obtain ⟨y13, c14⟩ : ∃ v, L0 a0 5 = v := ⟨_, rfl⟩
  have p15 := pre3
  rw [c14] at p15
  obtain ⟨v16, c17⟩ : ∃ v, I0 a0 6 = v := ⟨_, rfl⟩
  have p18 := pre4
  rw [c17] at p18
  obtain ⟨v19, c20⟩ : ∃ v, I0 a0 1 = v := ⟨_, rfl⟩
  have b21 := iv7_1 hW0 ta0 c20
  have p22 := pre5
  rw [c20] at p22
  obtain ⟨v23, c24⟩ : ∃ v, I0 a0 15 = v := ⟨_, rfl⟩
  refine tr_aload_n dX7_takeComma_0 rfl ?_
  refine q_getI dX7_takeComma_1 fl7_58 (kR7 hS0.1 ta0) c10 ?_
  refine q_iconst dX7_takeComma_4 (by decide) ?_
  intro v25 h26
  refine q_icmp_eq 14 dX7_takeComma_5 (by decide) (fun h27 => ?_) (fun h27 => ?_)
  · skip
    refine tr_aload_n dX7_takeComma_14 rfl ?_
    refine q_callVv hE (M' := mX7_step) (as := []) dX7_takeComma_15 lk7_51 inX7_step seX7_step myX7_step (by decide) ⟨by decide, by decide⟩ rfl (kR7 hS0.1 ta0) (Nat.le_of_ble_eq_true rfl) rfl rfl (by decide) (by decide) (fk_X7_step hS0.1 (gB) ((tkN gB gs)) ta0 (TxA.kp hT hS0 ta0 rfl rfl rfl (by decide +kernel) (by decide +kernel)) (by (try rw [c2]); first | done | with_reducible assumption | omega) (by (try rw [c20]); first | done | with_reducible assumption | omega)) ?_
    rintro cn' K' N' I28 R29 L30 ⟨rfl, rfl, rfl, rfl, g31, gl32, p34, p35, p36, p37, p38, -⟩
    have hS39 := hS0.tr g31 (by decide +kernel) (by decide +kernel)
    have c40 : I28 a0 15 = v23 := (g31.cell ta0 (by decide +kernel)).trans c24
    have hL41 := hL0.tr gl32 (by decide +kernel)
    obtain ⟨v42, c43⟩ : ∃ v, I28 a0 2 = v := ⟨_, rfl⟩
    have b44 := iv7_2 hS39.1 ta0 c43
    rw [c43] at p34
    obtain ⟨v45, c46⟩ : ∃ v, I28 a0 4 = v := ⟨_, rfl⟩
    have b47 := iv7_4 hS39.1 ta0 c46
    rw [c46] at p35
    obtain ⟨v48, c49⟩ : ∃ v, I28 a0 3 = v := ⟨_, rfl⟩
    have b50 := iv7_3 hS39.1 ta0 c49
    rw [c49] at p36
    obtain ⟨y51, c52⟩ : ∃ v, L30 a0 5 = v := ⟨_, rfl⟩
    rw [c52] at p37
    obtain ⟨v53, c54⟩ : ∃ v, I28 a0 6 = v := ⟨_, rfl⟩
    rw [c54] at p38
    refine q_iconst dX7_takeComma_18 (by decide) ?_
    intro v55 h56
    obtain ⟨v57, c58⟩ : ∃ v, I28 a0 16 = v := ⟨_, rfl⟩
    exact tr_zret hZ dX7_takeComma_19 rfl (ti_b01 (by exact om_f9079521 h56) (by exact om_e6632817 h56)) (by decide) (by decide) ⟨v55, rfl, rfl, rfl, rfl, rfl, hS39, hL41, (by exact om_d753bc65 h56), (Or.inl ⟨(by first | done | with_reducible assumption | omega), (by (try rw [c40]); (try rw [c24]); first | done | with_reducible assumption | omega), (by first | done | with_reducible assumption | exact om_fbe22704 p12 h26 h27), (by (try rw [c43]); first | done | with_reducible assumption | omega), (by (try rw [c46]); first | done | with_reducible assumption | omega), (by (try rw [c49]); first | done | with_reducible assumption | omega), (by (try rw [c52]); first | done | assumption), (by (try rw [c54]); first | done | assumption), trivial⟩), trivial⟩
  · skip
    refine tr_aload_n dX7_takeComma_8 rfl ?_
    refine q_iconst dX7_takeComma_9 (by decide) ?_
    intro v59 h60
    refine q_callVi hE (M' := mX7_fail) (as := [_]) dX7_takeComma_10 lk7_64 inX7_fail seX7_fail myX7_fail (by decide) ⟨by decide, by decide⟩ rfl (kR7 hS0.1 ta0) (Nat.le_of_ble_eq_true rfl) rfl rfl (by decide) (by decide) (fk_X7_fail hS0.1  ta0 (by exact om_95922198 h60)) ?_
    rintro v66 cn' K' N' I61 R62 L63 ⟨rfl, rfl, rfl, rfl, rfl, g64, h67, p68, p69, p70, -⟩
    have hS71 := hS0.tr g64 (by decide +kernel) (by decide +kernel)
    have c72 : I61 a0 2 = v1 := (g64.cell ta0 (by decide +kernel)).trans c2
    have c73 : I61 a0 4 = v5 := (g64.cell ta0 (by decide +kernel)).trans c6
    have c74 : I61 a0 3 = v9 := (g64.cell ta0 (by decide +kernel)).trans c10
    have c75 : I61 a0 6 = v16 := (g64.cell ta0 (by decide +kernel)).trans c17
    obtain ⟨v76, c77⟩ : ∃ v, I61 a0 15 = v := ⟨_, rfl⟩
    rw [c77] at p69
    obtain ⟨v78, c79⟩ : ∃ v, I61 a0 16 = v := ⟨_, rfl⟩
    rw [c79] at p70
    rw [c6] at p70
    exact tr_zret hZ dX7_takeComma_13 rfl (ti_b01 (by exact om_d99fa9e4 p68) (by exact om_d3de7ec9 p68)) (by decide) (by decide) ⟨v66, rfl, rfl, rfl, rfl, rfl, hS71, hL0, (by exact om_be53a44c h67), (Or.inr (⟨(by first | done | with_reducible assumption | omega), (by first | done | with_reducible assumption | exact om_83cb7c2f p12 h26 h27), (by (try rw [c77]); first | done | with_reducible assumption | exact om_9fbcd811 h60 p69), (by (try rw [c79]); first | done | with_reducible assumption | exact om_9fa72578 p8 p70), trivial⟩)), trivial⟩
def wik_X7_takeHut : List Nat := [450, 451, 452, 454, 455, 463, 464]
def wrk_X7_takeHut : List Nat := []
def wlk_X7_takeHut : List Nat := [453]
set_option maxHeartbeats 4000000 in
theorem fk_X7_takeHut {l : Launch} {T : Nat → Nat} {cn : Nat} {K N : Nat → Nat} {I0 : cz_I} {R0 : cz_R} {L0 : cz_L} {d : Int} (hW0 : Wf T cn K N I0 R0 d) (gB : cz_B) (gs : Int) (gQ : Nat → Int) {a0 : Nat} (ta0 : T a0 = 7) (hT : ∀ t, R0 a0 0 = some t → Tx I0 t gB) (pre0 : (I0 a0 2).toInt = (tkN gB gs)) (pre1 : (I0 a0 4).toInt = (tkS gB gs)) (pre2 : (I0 a0 3).toInt = (tkK gB gs)) (pre3 : (AtW ((tkK gB gs)) ((L0 a0 5).toInt) ((tkW gB gs)))) (pre4 : (AtV ((tkK gB gs)) ((I0 a0 6).toInt) ((tkV gB gs)))) (pre5 : (I0 a0 1).toInt = (gB.2)) (pre6 : ∀ b1, R0 a0 10 = some b1 → (I0 b1 1).toInt = (gQ 1)) : ConE l mX7_takeHut [.ref a0] cn K N I0 R0 L0 (ca_i (fun v cn' K' N' I' R' L' => cn = cn' ∧ K = K' ∧ N = N' ∧ R0 = R' ∧ St T cn K N d wik_X7_takeHut wrk_X7_takeHut I0 R0 I' R0 ∧ LgS T wlk_X7_takeHut L0 L' ∧ (0 ≤ v.toInt ∧ v.toInt ≤ 1) ∧ (((v.toInt = 1) ∧ ((I' a0 15).toInt = (I0 a0 15).toInt) ∧ ((tkK gB gs) = 2) ∧ (0 ≤ (tkV gB gs)) ∧ ((tkV gB gs) ≤ (gQ 1) - 1) ∧ ((I' a0 7).toInt = (tkV gB gs)) ∧ ((I' a0 2).toInt = (tkN gB (tkN gB gs))) ∧ ((I' a0 4).toInt = (tkS gB (tkN gB gs))) ∧ ((I' a0 3).toInt = (tkK gB (tkN gB gs))) ∧ ((AtW ((tkK gB (tkN gB gs))) ((L' a0 5).toInt) ((tkW gB (tkN gB gs))))) ∧ ((AtV ((tkK gB (tkN gB gs))) ((I' a0 6).toInt) ((tkV gB (tkN gB gs))))) ∧ True) ∨ ((v.toInt = 0) ∧ ((tkK gB gs) ≠ 2) ∧ ((I' a0 15).toInt = 1) ∧ ((I' a0 16).toInt = (tkS gB gs)) ∧ True) ∨ ((v.toInt = 0) ∧ ((tkK gB gs) = 2) ∧ (((tkV gB gs) < 0 ∨ (gQ 1) - 1 < (tkV gB gs))) ∧ ((I' a0 15).toInt = 4) ∧ ((I' a0 16).toInt = (tkS gB gs)) ∧ True)) ∧ True)) := by
  refine ConE.of (by decide +kernel) rfl (Nat.le_of_ble_eq_true rfl) rfl (fun X hX hZ hE => ?_)
  subst hX
  have hS0 : St T cn K N d wik_X7_takeHut wrk_X7_takeHut I0 R0 I0 R0 := St.rf0 hW0
  have hL0 : LgS T wlk_X7_takeHut L0 L0 := LgS.rf0
  obtain ⟨v1, c2⟩ : ∃ v, I0 a0 2 = v := ⟨_, rfl⟩
  have b3 := iv7_2 hS0.1 ta0 c2
  have p4 := pre0
  rw [c2] at p4
  obtain ⟨v5, c6⟩ : ∃ v, I0 a0 4 = v := ⟨_, rfl⟩
  have b7 := iv7_4 hS0.1 ta0 c6
  have p8 := pre1
  rw [c6] at p8
  obtain ⟨v9, c10⟩ : ∃ v, I0 a0 3 = v := ⟨_, rfl⟩
  have b11 := iv7_3 hS0.1 ta0 c10
  have p12 := pre2
  rw [c10] at p12
  obtain ⟨y13, c14⟩ : ∃ v, L0 a0 5 = v := ⟨_, rfl⟩
  have p15 := pre3
  rw [c14] at p15
  obtain ⟨v16, c17⟩ : ∃ v, I0 a0 6 = v := ⟨_, rfl⟩
  have p18 := pre4
  rw [c17] at p18
  obtain ⟨v19, c20⟩ : ∃ v, I0 a0 1 = v := ⟨_, rfl⟩
  have b21 := iv7_1 hW0 ta0 c20
  have p22 := pre5
  rw [c20] at p22
  obtain ⟨a23, d24, ta23⟩ := rf7_10 hW0 ta0
  obtain ⟨v25, c26⟩ : ∃ v, I0 a23 1 = v := ⟨_, rfl⟩
  have b27 := iv2_1 hW0 ta23 c26
  have p28 := pre6 _ d24
  rw [c26] at p28
  obtain ⟨v29, c30⟩ : ∃ v, I0 a0 15 = v := ⟨_, rfl⟩
  refine tr_aload_n dX7_takeHut_0 rfl ?_
  refine q_iconst dX7_takeHut_1 (by decide) ?_
  intro v31 h32
  refine tr_aload_n dX7_takeHut_2 rfl ?_
  refine tr_getR dX7_takeHut_3 fl7_22 (kR7 hS0.1 ta0) d24 ?_
  refine q_getI dX7_takeHut_6 fl7_112 (kR2 hS0.1 ta23) c26 ?_
  refine q_iconst dX7_takeHut_9 (by decide) ?_
  intro v33 h34
  refine q_isubE dX7_takeHut_10 (by intro j1 j2 j3 j4; exact om_1b9d7214 b27.2 b27.1 p28 h34) ?_
  intro v35 h36
  refine q_callVi hE (M' := mX7_takeWhole) (as := [_, _]) dX7_takeHut_11 lk7_115 inX7_takeWhole seX7_takeWhole myX7_takeWhole (by decide) ⟨by decide, by decide⟩ rfl (kR7 hS0.1 ta0) (Nat.le_of_ble_eq_true rfl) rfl rfl (by decide) (by decide) (fk_X7_takeWhole hS0.1 (gB) (gs) ta0 (by exact om_9ed8f7f4 h32) (by exact om_dd24deae b27.2 b27.1 p28 h34 h36) (TxA.kp hT hS0 ta0 rfl rfl rfl (by decide +kernel) (by decide +kernel)) (by (try rw [c2]); first | done | with_reducible assumption | omega) (by (try rw [c6]); first | done | with_reducible assumption | omega) (by (try rw [c10]); first | done | with_reducible assumption | omega) (by (try rw [c14]); first | done | assumption) (by (try rw [c17]); first | done | assumption) (by (try rw [c20]); first | done | with_reducible assumption | omega)) ?_
  rintro v42 cn' K' N' I37 R38 L39 ⟨rfl, rfl, rfl, rfl, g40, gl41, h43, dj44, -⟩
  have hS45 := hS0.tr g40 (by decide +kernel) (by decide +kernel)
  have hL46 := hL0.tr gl41 (by decide +kernel)
  rcases dj44 with ⟨p47, p48, p49, p50, p51, p52, p53, p54, p55, p56, p57, -⟩ | ⟨p58, p59, p60, p61, -⟩ | ⟨p62, p63, p64, p65, p66, -⟩
  · skip
    obtain ⟨v67, c68⟩ : ∃ v, I37 a0 15 = v := ⟨_, rfl⟩
    rw [c68] at p48
    rw [c30] at p48
    obtain ⟨v69, c70⟩ : ∃ v, I37 a0 7 = v := ⟨_, rfl⟩
    have b71 := iv7_7 hS45.1 ta0 c70
    rw [c70] at p52
    obtain ⟨v72, c73⟩ : ∃ v, I37 a0 2 = v := ⟨_, rfl⟩
    have b74 := iv7_2 hS45.1 ta0 c73
    rw [c73] at p53
    obtain ⟨v75, c76⟩ : ∃ v, I37 a0 4 = v := ⟨_, rfl⟩
    have b77 := iv7_4 hS45.1 ta0 c76
    rw [c76] at p54
    obtain ⟨v78, c79⟩ : ∃ v, I37 a0 3 = v := ⟨_, rfl⟩
    have b80 := iv7_3 hS45.1 ta0 c79
    rw [c79] at p55
    obtain ⟨y81, c82⟩ : ∃ v, L39 a0 5 = v := ⟨_, rfl⟩
    rw [c82] at p56
    obtain ⟨v83, c84⟩ : ∃ v, I37 a0 6 = v := ⟨_, rfl⟩
    rw [c84] at p57
    obtain ⟨v85, c86⟩ : ∃ v, I37 a0 16 = v := ⟨_, rfl⟩
    exact tr_zret hZ dX7_takeHut_14 rfl (ti_b01 (by exact om_f9079521 p47) (by exact om_e6632817 p47)) (by decide) (by decide) ⟨v42, rfl, rfl, rfl, rfl, rfl, hS45, hL46, (by exact om_be53a44c h43), (Or.inl ⟨(by first | done | with_reducible assumption | omega), (by (try rw [c68]); (try rw [c30]); first | done | with_reducible assumption | omega), (by first | done | with_reducible assumption | omega), (by first | done | with_reducible assumption | exact om_2d8c8d56 h32 p50 p52 b71.2), (by first | done | with_reducible assumption | exact om_33c73cec p28 h34 h36 p51 p52), (by (try rw [c70]); first | done | with_reducible assumption | omega), (by (try rw [c73]); first | done | with_reducible assumption | omega), (by (try rw [c76]); first | done | with_reducible assumption | omega), (by (try rw [c79]); first | done | with_reducible assumption | omega), (by (try rw [c82]); first | done | assumption), (by (try rw [c84]); first | done | assumption), trivial⟩), trivial⟩
  · skip
    obtain ⟨v87, c88⟩ : ∃ v, I37 a0 15 = v := ⟨_, rfl⟩
    rw [c88] at p60
    obtain ⟨v89, c90⟩ : ∃ v, I37 a0 16 = v := ⟨_, rfl⟩
    rw [c90] at p61
    obtain ⟨v91, c92⟩ : ∃ v, I37 a0 7 = v := ⟨_, rfl⟩
    have b93 := iv7_7 hS45.1 ta0 c92
    obtain ⟨v94, c95⟩ : ∃ v, I37 a0 2 = v := ⟨_, rfl⟩
    have b96 := iv7_2 hS45.1 ta0 c95
    obtain ⟨v97, c98⟩ : ∃ v, I37 a0 4 = v := ⟨_, rfl⟩
    have b99 := iv7_4 hS45.1 ta0 c98
    obtain ⟨v100, c101⟩ : ∃ v, I37 a0 3 = v := ⟨_, rfl⟩
    have b102 := iv7_3 hS45.1 ta0 c101
    obtain ⟨y103, c104⟩ : ∃ v, L39 a0 5 = v := ⟨_, rfl⟩
    obtain ⟨v105, c106⟩ : ∃ v, I37 a0 6 = v := ⟨_, rfl⟩
    exact tr_zret hZ dX7_takeHut_14 rfl (ti_b01 (by exact om_d99fa9e4 p58) (by exact om_d3de7ec9 p58)) (by decide) (by decide) ⟨v42, rfl, rfl, rfl, rfl, rfl, hS45, hL46, (by exact om_be53a44c h43), (Or.inr (Or.inl ⟨(by first | done | with_reducible assumption | omega), (by first | done | with_reducible assumption | omega), (by (try rw [c88]); first | done | with_reducible assumption | omega), (by (try rw [c90]); first | done | with_reducible assumption | omega), trivial⟩)), trivial⟩
  · skip
    obtain ⟨v107, c108⟩ : ∃ v, I37 a0 15 = v := ⟨_, rfl⟩
    rw [c108] at p65
    obtain ⟨v109, c110⟩ : ∃ v, I37 a0 16 = v := ⟨_, rfl⟩
    rw [c110] at p66
    obtain ⟨v111, c112⟩ : ∃ v, I37 a0 7 = v := ⟨_, rfl⟩
    have b113 := iv7_7 hS45.1 ta0 c112
    obtain ⟨v114, c115⟩ : ∃ v, I37 a0 2 = v := ⟨_, rfl⟩
    have b116 := iv7_2 hS45.1 ta0 c115
    obtain ⟨v117, c118⟩ : ∃ v, I37 a0 4 = v := ⟨_, rfl⟩
    have b119 := iv7_4 hS45.1 ta0 c118
    obtain ⟨v120, c121⟩ : ∃ v, I37 a0 3 = v := ⟨_, rfl⟩
    have b122 := iv7_3 hS45.1 ta0 c121
    obtain ⟨y123, c124⟩ : ∃ v, L39 a0 5 = v := ⟨_, rfl⟩
    obtain ⟨v125, c126⟩ : ∃ v, I37 a0 6 = v := ⟨_, rfl⟩
    exact tr_zret hZ dX7_takeHut_14 rfl (ti_b01 (by exact om_d99fa9e4 p62) (by exact om_d3de7ec9 p62)) (by decide) (by decide) ⟨v42, rfl, rfl, rfl, rfl, rfl, hS45, hL46, (by exact om_be53a44c h43), (Or.inr (Or.inr (⟨(by first | done | with_reducible assumption | omega), (by first | done | with_reducible assumption | omega), (by first | done | with_reducible assumption | exact om_d7b3392e p28 h32 h34 h36 p64), (by (try rw [c108]); first | done | with_reducible assumption | omega), (by (try rw [c110]); first | done | with_reducible assumption | omega), trivial⟩))), trivial⟩
