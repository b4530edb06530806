set_option maxHeartbeats 4000000 in
theorem fk_X12_in {l : Launch} {T : Nat → Nat} {cn : Nat} {K N : Nat → Nat} {I0 : cz_I} {R0 : cz_R} {L0 : cz_L} {d : Int} (hW0 : Wf T cn K N I0 R0 d)  {x0 : Int32} {x1 : Int32} {x2 : Int32} : ConE l mX12_in [.int x0, .int x1, .int x2] cn K N I0 R0 L0 (ca_i (fun v cn' K' N' I' R' L' => cn = cn' ∧ K = K' ∧ N = N' ∧ I0 = I' ∧ R0 = R' ∧ L0 = L' ∧ (0 ≤ v.toInt ∧ v.toInt ≤ 1) ∧ (((v.toInt = 1) ∧ (x1.toInt ≤ x0.toInt) ∧ (x0.toInt ≤ x2.toInt) ∧ True) ∨ ((v.toInt = 0) ∧ ((x0.toInt < x1.toInt ∨ x0.toInt > x2.toInt)) ∧ True)) ∧ True)) := by
  refine ConE.of (by decide +kernel) rfl (Nat.le_of_ble_eq_true rfl) rfl (fun X hX hZ hE => ?_)
  subst hX
  refine tr_iload_n dX12_in_0 rfl ?_
  refine tr_iload_n dX12_in_1 rfl ?_
  refine q_icmp_lt 14 dX12_in_2 (by decide) (fun h1 => ?_) (fun h1 => ?_)
  · skip
    refine q_iconst dX12_in_14 (by decide) ?_
    intro v2 h3
    exact tr_zret hZ dX12_in_15 rfl (ti_b01 (by exact om_d99fa9e4 h3) (by exact om_d3de7ec9 h3)) (by decide) (by decide) ⟨v2, rfl, rfl, rfl, rfl, rfl, rfl, rfl, (by exact om_3b50ecb9 h3), (Or.inr (⟨(by first | done | with_reducible assumption | omega), (by first | done | with_reducible assumption | exact om_cf5198fe h1), trivial⟩)), trivial⟩
  · skip
    refine tr_iload_n dX12_in_5 rfl ?_
    refine tr_iload_n dX12_in_6 rfl ?_
    refine q_icmp_gt 14 dX12_in_7 (by decide) (fun h4 => ?_) (fun h4 => ?_)
    · skip
      refine q_iconst dX12_in_14 (by decide) ?_
      intro v5 h6
      exact tr_zret hZ dX12_in_15 rfl (ti_b01 (by exact om_d99fa9e4 h6) (by exact om_d3de7ec9 h6)) (by decide) (by decide) ⟨v5, rfl, rfl, rfl, rfl, rfl, rfl, rfl, (by exact om_3b50ecb9 h6), (Or.inr (⟨(by first | done | with_reducible assumption | omega), (by first | done | with_reducible assumption | exact om_e7b24d0a h4), trivial⟩)), trivial⟩
    · skip
      refine q_iconst dX12_in_10 (by decide) ?_
      intro v7 h8
      refine tr_goto 15 dX12_in_11 (by decide) ?_
      exact tr_zret hZ dX12_in_15 rfl (ti_b01 (by exact om_f9079521 h8) (by exact om_e6632817 h8)) (by decide) (by decide) ⟨v7, rfl, rfl, rfl, rfl, rfl, rfl, rfl, (by exact om_d753bc65 h8), (Or.inl ⟨(by first | done | with_reducible assumption | omega), (by first | done | with_reducible assumption | omega), (by first | done | with_reducible assumption | omega), trivial⟩), trivial⟩
def wik_X12_flaw : List Nat := [969, 973, 974]
def wrk_X12_flaw : List Nat := []
set_option maxHeartbeats 4000000 in
theorem fk_X12_flaw {l : Launch} {T : Nat → Nat} {cn : Nat} {K N : Nat → Nat} {I0 : cz_I} {R0 : cz_R} {L0 : cz_L} {d : Int} (hW0 : Wf T cn K N I0 R0 d)  {a0 : Nat} (ta0 : T a0 = 15) {x1 : Int32} (hx1 : 1 ≤ x1.toInt ∧ x1.toInt ≤ 6) (pre0 : (I0 a0 9).toInt ≠ 5) : ConE l mX12_flaw [.ref a0, .int x1] cn K N I0 R0 L0 (ca_v (fun cn' K' N' I' R' L' => cn = cn' ∧ K = K' ∧ N = N' ∧ R0 = R' ∧ L0 = L' ∧ St T cn K N d wik_X12_flaw wrk_X12_flaw I0 R0 I' R0 ∧ ((I' a0 9).toInt = 5) ∧ ((I' a0 13).toInt = x1.toInt) ∧ ((I' a0 14).toInt = (I0 a0 10).toInt) ∧ True)) := by
  refine ConE.of (by decide +kernel) rfl (Nat.le_of_ble_eq_true rfl) rfl (fun X hX hZ hE => ?_)
  subst hX
  have hS0 : St T cn K N d wik_X12_flaw wrk_X12_flaw I0 R0 I0 R0 := St.rf0 hW0
  obtain ⟨v1, c2⟩ : ∃ v, I0 a0 9 = v := ⟨_, rfl⟩
  have b3 := iv15_9 hS0.1 ta0 c2
  have p4 := pre0
  rw [c2] at p4
  obtain ⟨v5, c6⟩ : ∃ v, I0 a0 10 = v := ⟨_, rfl⟩
  have b7 := iv15_10 hW0 ta0 c6
  refine tr_aload_n dX12_flaw_0 rfl ?_
  refine q_getI dX12_flaw_1 fl12_99 (kR15 hS0.1 ta0) c2 ?_
  refine q_iconst dX12_flaw_4 (by decide) ?_
  intro v8 h9
  refine q_icmp_ne 9 dX12_flaw_5 (by decide) (fun h10 => ?_) (fun h10 => ?_)
  · skip
    refine tr_aload_n dX12_flaw_9 rfl ?_
    refine tr_iload_n dX12_flaw_10 rfl ?_
    refine q_putI dX12_flaw_11 fl12_128 (kR15 hS0.1 ta0) (Or.inl rfl) hS0 ta0 (iokF rfl) rfl (by decide +kernel) ?_
    intro I11 hS12 e13 f14
    have c15 : I11 a0 9 = v1 := (f14 _ _ (fun q => absurd q.2 (by decide))).trans c2
    refine tr_aload_n dX12_flaw_14 rfl ?_
    refine tr_aload_n dX12_flaw_15 rfl ?_
    refine q_getI dX12_flaw_16 fl12_108 (kR15 hS12.1 ta0) ((hS12.cell ta0 (by decide +kernel)).trans c6) ?_
    refine q_putI dX12_flaw_19 fl12_131 (kR15 hS12.1 ta0) (Or.inl rfl) hS12 ta0 (iokF rfl) rfl (by decide +kernel) ?_
    intro I16 hS17 e18 f19
    have c20 : I16 a0 9 = v1 := (f19 _ _ (fun q => absurd q.2 (by decide))).trans c15
    have c21 : I16 a0 13 = x1 := (f19 _ _ (fun q => absurd q.2 (by decide))).trans e13
    refine tr_aload_n dX12_flaw_22 rfl ?_
    refine q_iconst dX12_flaw_23 (by decide) ?_
    intro v22 h23
    refine q_putI dX12_flaw_24 fl12_99 (kR15 hS17.1 ta0) (Or.inl rfl) hS17 ta0 (by show (0 : Int) ≤ v22.toInt ∧ v22.toInt ≤ (5 : Int); exact om_441a285e h23) rfl (by decide +kernel) ?_
    intro I24 hS25 e26 f27
    have c28 : I24 a0 13 = x1 := (f27 _ _ (fun q => absurd q.2 (by decide))).trans c21
    have c29 : I24 a0 14 = v5 := (f27 _ _ (fun q => absurd q.2 (by decide))).trans e18
    exact tr_vret hZ dX12_flaw_27 rfl (by decide) (by decide) ⟨rfl, rfl, rfl, rfl, rfl, rfl, hS25, (by (try rw [e26]); first | done | with_reducible assumption | omega), (by (try rw [c28]); first | done | with_reducible assumption | omega), (by (try rw [c29]); (try rw [c6]); first | done | with_reducible assumption | omega), trivial⟩
  · skip
    exfalso; exact om_13ec4a14 p4 h9 h10
set_option maxHeartbeats 4000000 in
theorem fk_X12_byteAt {l : Launch} {T : Nat → Nat} {cn : Nat} {K N : Nat → Nat} {I0 : cz_I} {R0 : cz_R} {L0 : cz_L} {d : Int} (hW0 : Wf T cn K N I0 R0 d) (gB : cz_B) {a0 : Nat} (ta0 : T a0 = 15) {x1 : Int32} (hx1 : 0 ≤ x1.toInt ∧ x1.toInt ≤ 900) (hT : ∀ t, R0 a0 5 = some t → Tx I0 t gB) (pre0 : (I0 a0 7).toInt = (gB.2)) : ConE l mX12_byteAt [.ref a0, .int x1] cn K N I0 R0 L0 (ca_i (fun v cn' K' N' I' R' L' => cn = cn' ∧ K = K' ∧ N = N' ∧ I0 = I' ∧ R0 = R' ∧ L0 = L' ∧ (((x1.toInt < (I0 a0 7).toInt) ∧ (v.toInt = (tkb gB x1.toInt)) ∧ (0 ≤ v.toInt) ∧ (v.toInt ≤ 127) ∧ True) ∨ ((x1.toInt < (I0 a0 7).toInt) ∧ ((tkb gB x1.toInt) < 0) ∧ (v.toInt ≥ 128) ∧ (v.toInt ≤ 255) ∧ True) ∨ ((x1.toInt ≥ (I0 a0 7).toInt) ∧ (v.toInt = -1) ∧ ((tkb gB x1.toInt) = -1) ∧ True)) ∧ True)) := by
  refine ConE.of (by decide +kernel) rfl (Nat.le_of_ble_eq_true rfl) rfl (fun X hX hZ hE => ?_)
  subst hX
  obtain ⟨v1, c2⟩ : ∃ v, I0 a0 7 = v := ⟨_, rfl⟩
  have b3 := iv15_7 hW0 ta0 c2
  have p4 := pre0
  rw [c2] at p4
  have tout := @tkb_out gB x1.toInt
  refine tr_iload_n dX12_byteAt_0 rfl ?_
  refine tr_aload_n dX12_byteAt_1 rfl ?_
  refine q_getI dX12_byteAt_2 fl12_84 (kR15 hW0 ta0) c2 ?_
  refine q_icmp_ge 21 dX12_byteAt_5 (by decide) (fun h5 => ?_) (fun h5 => ?_)
  · skip
    refine q_iconst dX12_byteAt_21 (by decide) ?_
    intro v6 h7
    exact tr_iret hZ dX12_byteAt_22 rfl (by decide) (by decide) ⟨v6, rfl, rfl, rfl, rfl, rfl, rfl, rfl, (Or.inr (Or.inr (⟨(by (try rw [c2]); first | done | with_reducible assumption | omega), (by first | done | with_reducible assumption | omega), (by first | done | with_reducible assumption | exact om_f847994e p4 tout h5), trivial⟩))), trivial⟩
  · skip
    refine tr_aload_n dX12_byteAt_8 rfl ?_
    obtain ⟨a8, d9, ta8⟩ := rf15_5 hW0 ta0
    refine tr_getR dX12_byteAt_9 fl12_13 (kR15 hW0 ta0) d9 ?_
    refine tr_iload_n dX12_byteAt_12 rfl ?_
    refine q_bald dX12_byteAt_13 (kR76 hW0 ta8) (ti_in (nR76 hW0 ta8) (by exact om_cc59603c hx1.2 hx1.1) (by exact om_331d1cef hx1.2 hx1.1 b3.2 b3.1 h5)) ?_
    intro v10 c11
    have b12 := iv76 hW0 ta8 c11
    have p13 := Tx.by (hT _ d9) (by exact om_cc59603c hx1.2 hx1.1) (by exact om_a830ecb4 p4 h5) c11
    have p14 := Tx.at (hT _ d9) (by exact om_cc59603c hx1.2 hx1.1) (by exact om_a830ecb4 p4 h5) c11
    refine q_sipush dX12_byteAt_14 (by decide +kernel) ?_
    intro v15 h16
    refine q_iandE dX12_byteAt_17 ?_
    intro v17 h18
    have p19 := and255 (x := v10) (y := v15) (by exact om_b171958d b12) (by exact om_9adeb93b h16)
    rw [← h18] at p19
    rcases p19 with p19 | p19
    · skip
      refine tr_goto 22 dX12_byteAt_18 (by decide) ?_
      exact tr_iret hZ dX12_byteAt_22 rfl (by decide) (by decide) ⟨v17, rfl, rfl, rfl, rfl, rfl, rfl, rfl, (Or.inl ⟨(by (try rw [c2]); first | done | with_reducible assumption | omega), (by first | done | with_reducible assumption | exact om_9fa72578 p13 p19.2), (by first | done | with_reducible assumption | exact om_39b08713 b12.2 b12.1 p13 p19.2 p19.1), (by first | done | with_reducible assumption | exact om_7393e27c b12.2 b12.1 p13 p19.2 p19.1), trivial⟩), trivial⟩
    · skip
      refine tr_goto 22 dX12_byteAt_18 (by decide) ?_
      exact tr_iret hZ dX12_byteAt_22 rfl (by decide) (by decide) ⟨v17, rfl, rfl, rfl, rfl, rfl, rfl, rfl, (Or.inr (Or.inl ⟨(by (try rw [c2]); first | done | with_reducible assumption | omega), (by first | done | with_reducible assumption | exact om_4a8a4bb2 b12.2 b12.1 p13 p19.2 p19.1), (by first | done | with_reducible assumption | exact om_8cd37139 b12.2 b12.1 p13 p19.2 p19.1), (by first | done | with_reducible assumption | exact om_50c4a908 b12.2 b12.1 p13 p19.2 p19.1), trivial⟩)), trivial⟩
set_option maxHeartbeats 4000000 in
theorem fk_X12_isLetter {l : Launch} {T : Nat → Nat} {cn : Nat} {K N : Nat → Nat} {I0 : cz_I} {R0 : cz_R} {L0 : cz_L} {d : Int} (hW0 : Wf T cn K N I0 R0 d)  {x0 : Int32} : ConE l mX12_isLetter [.int x0] cn K N I0 R0 L0 (ca_i (fun v cn' K' N' I' R' L' => cn = cn' ∧ K = K' ∧ N = N' ∧ I0 = I' ∧ R0 = R' ∧ L0 = L' ∧ (0 ≤ v.toInt ∧ v.toInt ≤ 1) ∧ (((v.toInt = 1) ∧ (97 ≤ x0.toInt) ∧ (x0.toInt ≤ 122) ∧ True) ∨ ((v.toInt = 0) ∧ ((x0.toInt < 97 ∨ x0.toInt > 122)) ∧ True)) ∧ True)) := by
  refine ConE.of (by decide +kernel) rfl (Nat.le_of_ble_eq_true rfl) rfl (fun X hX hZ hE => ?_)
  subst hX
  refine tr_iload_n dX12_isLetter_0 rfl ?_
  refine q_bipush dX12_isLetter_1 (by decide +kernel) ?_
  intro v1 h2
  refine q_icmp_lt 16 dX12_isLetter_3 (by decide) (fun h3 => ?_) (fun h3 => ?_)
  · skip
    refine q_iconst dX12_isLetter_16 (by decide) ?_
    intro v4 h5
    exact tr_zret hZ dX12_isLetter_17 rfl (ti_b01 (by exact om_d99fa9e4 h5) (by exact om_d3de7ec9 h5)) (by decide) (by decide) ⟨v4, rfl, rfl, rfl, rfl, rfl, rfl, rfl, (by exact om_3b50ecb9 h5), (Or.inr (⟨(by first | done | with_reducible assumption | omega), (by first | done | with_reducible assumption | exact om_162f2d97 h2 h3), trivial⟩)), trivial⟩
  · skip
    refine tr_iload_n dX12_isLetter_6 rfl ?_
    refine q_bipush dX12_isLetter_7 (by decide +kernel) ?_
    intro v6 h7
    refine q_icmp_gt 16 dX12_isLetter_9 (by decide) (fun h8 => ?_) (fun h8 => ?_)
    · skip
      refine q_iconst dX12_isLetter_16 (by decide) ?_
      intro v9 h10
      exact tr_zret hZ dX12_isLetter_17 rfl (ti_b01 (by exact om_d99fa9e4 h10) (by exact om_d3de7ec9 h10)) (by decide) (by decide) ⟨v9, rfl, rfl, rfl, rfl, rfl, rfl, rfl, (by exact om_3b50ecb9 h10), (Or.inr (⟨(by first | done | with_reducible assumption | omega), (by first | done | with_reducible assumption | exact om_9542480e h2 h3 h7 h8), trivial⟩)), trivial⟩
    · skip
      refine q_iconst dX12_isLetter_12 (by decide) ?_
      intro v11 h12
      refine tr_goto 17 dX12_isLetter_13 (by decide) ?_
      exact tr_zret hZ dX12_isLetter_17 rfl (ti_b01 (by exact om_f9079521 h12) (by exact om_e6632817 h12)) (by decide) (by decide) ⟨v11, rfl, rfl, rfl, rfl, rfl, rfl, rfl, (by exact om_d753bc65 h12), (Or.inl ⟨(by first | done | with_reducible assumption | omega), (by first | done | with_reducible assumption | exact om_b0b91004 h2 h3), (by first | done | with_reducible assumption | exact om_b4f949e4 h7 h8), trivial⟩), trivial⟩
set_option maxHeartbeats 4000000 in
theorem fk_X12_isDigit {l : Launch} {T : Nat → Nat} {cn : Nat} {K N : Nat → Nat} {I0 : cz_I} {R0 : cz_R} {L0 : cz_L} {d : Int} (hW0 : Wf T cn K N I0 R0 d)  {x0 : Int32} : ConE l mX12_isDigit [.int x0] cn K N I0 R0 L0 (ca_i (fun v cn' K' N' I' R' L' => cn = cn' ∧ K = K' ∧ N = N' ∧ I0 = I' ∧ R0 = R' ∧ L0 = L' ∧ (0 ≤ v.toInt ∧ v.toInt ≤ 1) ∧ (((v.toInt = 1) ∧ (48 ≤ x0.toInt) ∧ (x0.toInt ≤ 57) ∧ True) ∨ ((v.toInt = 0) ∧ ((x0.toInt < 48 ∨ x0.toInt > 57)) ∧ True)) ∧ True)) := by
  refine ConE.of (by decide +kernel) rfl (Nat.le_of_ble_eq_true rfl) rfl (fun X hX hZ hE => ?_)
  subst hX
  refine tr_iload_n dX12_isDigit_0 rfl ?_
  refine q_bipush dX12_isDigit_1 (by decide +kernel) ?_
  intro v1 h2
  refine q_icmp_lt 16 dX12_isDigit_3 (by decide) (fun h3 => ?_) (fun h3 => ?_)
  · skip
    refine q_iconst dX12_isDigit_16 (by decide) ?_
    intro v4 h5
    exact tr_zret hZ dX12_isDigit_17 rfl (ti_b01 (by exact om_d99fa9e4 h5) (by exact om_d3de7ec9 h5)) (by decide) (by decide) ⟨v4, rfl, rfl, rfl, rfl, rfl, rfl, rfl, (by exact om_3b50ecb9 h5), (Or.inr (⟨(by first | done | with_reducible assumption | omega), (by first | done | with_reducible assumption | exact om_8c5ebfc8 h2 h3), trivial⟩)), trivial⟩
  · skip
    refine tr_iload_n dX12_isDigit_6 rfl ?_
    refine q_bipush dX12_isDigit_7 (by decide +kernel) ?_
    intro v6 h7
    refine q_icmp_gt 16 dX12_isDigit_9 (by decide) (fun h8 => ?_) (fun h8 => ?_)
    · skip
      refine q_iconst dX12_isDigit_16 (by decide) ?_
      intro v9 h10
      exact tr_zret hZ dX12_isDigit_17 rfl (ti_b01 (by exact om_d99fa9e4 h10) (by exact om_d3de7ec9 h10)) (by decide) (by decide) ⟨v9, rfl, rfl, rfl, rfl, rfl, rfl, rfl, (by exact om_3b50ecb9 h10), (Or.inr (⟨(by first | done | with_reducible assumption | omega), (by first | done | with_reducible assumption | exact om_9c720592 h2 h3 h7 h8), trivial⟩)), trivial⟩
    · skip
      refine q_iconst dX12_isDigit_12 (by decide) ?_
      intro v11 h12
      refine tr_goto 17 dX12_isDigit_13 (by decide) ?_
      exact tr_zret hZ dX12_isDigit_17 rfl (ti_b01 (by exact om_f9079521 h12) (by exact om_e6632817 h12)) (by decide) (by decide) ⟨v11, rfl, rfl, rfl, rfl, rfl, rfl, rfl, (by exact om_d753bc65 h12), (Or.inl ⟨(by first | done | with_reducible assumption | omega), (by first | done | with_reducible assumption | exact om_2869c4d9 h2 h3), (by first | done | with_reducible assumption | exact om_6fe746d5 h7 h8), trivial⟩), trivial⟩
def wik_X12_goesOn : List Nat := [968, 969, 970, 971, 972]
def wrk_X12_goesOn : List Nat := []
def wlk_X12_goesOn : List Nat := [975]
set_option maxHeartbeats 4000000 in
theorem fk_X12_goesOn {l : Launch} {T : Nat → Nat} {cn : Nat} {K N : Nat → Nat} {I0 : cz_I} {R0 : cz_R} {L0 : cz_L} {d : Int} (hW0 : Wf T cn K N I0 R0 d) (gB : cz_B) (gp : Int) {a0 : Nat} (ta0 : T a0 = 15) (hT : ∀ t, R0 a0 5 = some t → Tx I0 t gB) (pre0 : (I0 a0 8).toInt = (gp)) (pre1 : (I0 a0 7).toInt = (gB.2)) (pre2 : (I0 a0 9).toInt ≠ 5) : ConE l mX12_goesOn [.ref a0] cn K N I0 R0 L0 (ca_v (fun cn' K' N' I' R' L' => cn = cn' ∧ K = K' ∧ N = N' ∧ R0 = R' ∧ St T cn K N d wik_X12_goesOn wrk_X12_goesOn I0 R0 I' R0 ∧ LgS T wlk_X12_goesOn L0 L' ∧ ((I' a0 9).toInt = (tkM gB gp)) ∧ ((I' a0 9).toInt ≤ 4) ∧ ((I' a0 10).toInt = (tkS gB gp)) ∧ ((I' a0 11).toInt = (tkG gB gp)) ∧ ((AtW ((tkK gB gp)) ((L' a0 15).toInt) ((tkW gB gp)))) ∧ ((AtV ((tkK gB gp)) ((I' a0 12).toInt) ((tkV gB gp)))) ∧ ((AtN ((tkK gB gp)) ((I' a0 8).toInt) ((tkN gB gp)))) ∧ True)) := by
  refine ConE.of (by decide +kernel) rfl (Nat.le_of_ble_eq_true rfl) rfl (fun X hX hZ hE => ?_)
  subst hX
  have hS0 : St T cn K N d wik_X12_goesOn wrk_X12_goesOn I0 R0 I0 R0 := St.rf0 hW0
  have hL0 : LgS T wlk_X12_goesOn L0 L0 := LgS.rf0
  obtain ⟨v1, c2⟩ : ∃ v, I0 a0 8 = v := ⟨_, rfl⟩
  have b3 := iv15_8 hS0.1 ta0 c2
  have p4 := pre0
  rw [c2] at p4
  obtain ⟨v5, c6⟩ : ∃ v, I0 a0 7 = v := ⟨_, rfl⟩
  have b7 := iv15_7 hW0 ta0 c6
  have p8 := pre1
  rw [c6] at p8
  obtain ⟨v9, c10⟩ : ∃ v, I0 a0 9 = v := ⟨_, rfl⟩
  have b11 := iv15_9 hS0.1 ta0 c10
  have p12 := pre2
  rw [c10] at p12
  refine tr_aload_n dX12_goesOn_0 rfl ?_
  refine q_getI dX12_goesOn_1 fl12_99 (kR15 hS0.1 ta0) c10 ?_
  refine q_iconst dX12_goesOn_4 (by decide) ?_
  intro v13 h14
  refine q_icmp_ne 9 dX12_goesOn_5 (by decide) (fun h15 => ?_) (fun h15 => ?_)
  · skip
    have lp27 : ∀ (fu : Nat) (ls : Nat → Option Value) (I17 : cz_I) (L18 : cz_L) (v21 : Int32) (v23 : Int32), ls 0 = some (.ref a0) → St T cn K N d wik_X12_goesOn wrk_X12_goesOn I0 R0 I17 R0 → LgS T wlk_X12_goesOn L0 L18 → I17 a0 8 = v21 → I17 a0 9 = v23 → (tkS gB v21.toInt) = (tkS gB gp) → v23.toInt ≠ 5 → (-v21.toInt + 900).toNat < fu → Tr X mX12_goesOn 9 ls [] cn K N I17 R0 L18 0 0 := by
      intro fu
      induction fu with
      | zero => intros; rename_i hz; exact absurd hz (Nat.not_lt_zero _)
      | succ fu ih27 =>
        intro ls I17 L18 v21 v23 hl16 hS19 hL20 c22 c24 g25 g26 hm27
        have b29 := iv15_8 hS19.1 ta0 c22
        have b30 := iv15_9 hS19.1 ta0 c24
        refine tr_aload_n dX12_goesOn_9 hl16 ?_
        refine tr_aload_n dX12_goesOn_10 hl16 ?_
        refine q_getI dX12_goesOn_11 fl12_102 (kR15 hS19.1 ta0) c22 ?_
        refine q_callVi hE (M' := mX12_byteAt) (as := [_]) dX12_goesOn_14 lk12_105 inX12_byteAt seX12_byteAt myX12_byteAt (by decide) ⟨by decide, by decide⟩ rfl (kR15 hS19.1 ta0) (Nat.le_of_ble_eq_true rfl) rfl rfl (by decide) (by decide) (fk_X12_byteAt hS19.1 (gB) ta0 (by exact om_7caca98d b29) (TxA.kp hT hS19 ta0 rfl rfl rfl (by decide +kernel) (by decide +kernel)) (by (try rw [((hS19.cell ta0 (by decide +kernel)).trans c6)]); first | done | with_reducible assumption | omega)) ?_
        rintro v36 cn' K' N' I31 R32 L33 ⟨rfl, rfl, rfl, rfl, rfl, rfl, dj37, -⟩
        rcases dj37 with ⟨p38, p39, p40, p41, -⟩ | ⟨p42, p43, p44, p45, -⟩ | ⟨p46, p47, p48, -⟩
        · skip
          rw [((hS19.cell ta0 (by decide +kernel)).trans c6)] at p38
          refine q_bipush dX12_goesOn_17 (by decide +kernel) ?_
          intro v49 h50
          refine q_icmp_ne 35 dX12_goesOn_19 (by decide) (fun h51 => ?_) (fun h51 => ?_)
          · skip
            have e52 : tkS gB gp = v21.toInt := by have q := tkS_fin (B := gB) (s := v21.toInt) (by exact om_b9f345f0 p39 h50 h51); exact om_444e8b26 g25 q
            refine tr_aload_n dX12_goesOn_35 hl16 ?_
            refine tr_aload_n dX12_goesOn_36 hl16 ?_
            refine q_getI dX12_goesOn_37 fl12_102 (kR15 hS19.1 ta0) c22 ?_
            refine q_putI dX12_goesOn_40 fl12_108 (kR15 hS19.1 ta0) (Or.inl rfl) hS19 ta0 (by show (0 : Int) ≤ v21.toInt ∧ v21.toInt ≤ (900 : Int); exact om_7caca98d b29) rfl (by decide +kernel) ?_
            intro I53 hS54 e55 f56
            have c57 : I53 a0 8 = v21 := (f56 _ _ (fun q => absurd q.2 (by decide))).trans c22
            have c58 : I53 a0 9 = v23 := (f56 _ _ (fun q => absurd q.2 (by decide))).trans c24
            refine tr_aload_n dX12_goesOn_43 hl16 ?_
            refine q_iconst dX12_goesOn_44 (by decide) ?_
            intro v59 h60
            refine q_putI dX12_goesOn_45 fl12_99 (kR15 hS54.1 ta0) (Or.inl rfl) hS54 ta0 (by show (0 : Int) ≤ v59.toInt ∧ v59.toInt ≤ (5 : Int); exact om_3597b99b h60) rfl (by decide +kernel) ?_
            intro I61 hS62 e63 f64
            have c65 : I61 a0 8 = v21 := (f64 _ _ (fun q => absurd q.2 (by decide))).trans c57
            have c66 : I61 a0 10 = v21 := (f64 _ _ (fun q => absurd q.2 (by decide))).trans e55
            refine tr_aload_n dX12_goesOn_48 hl16 ?_
            refine q_iconst dX12_goesOn_49 (by decide) ?_
            intro v67 h68
            refine q_putI dX12_goesOn_50 fl12_111 (kR15 hS62.1 ta0) (Or.inl rfl) hS62 ta0 (iokF rfl) rfl (by decide +kernel) ?_
            intro I69 hS70 e71 f72
            have c73 : I69 a0 8 = v21 := (f72 _ _ (fun q => absurd q.2 (by decide))).trans c65
            have c74 : I69 a0 10 = v21 := (f72 _ _ (fun q => absurd q.2 (by decide))).trans c66
            have c75 : I69 a0 9 = v59 := (f72 _ _ (fun q => absurd q.2 (by decide))).trans e63
            refine tr_aload_n dX12_goesOn_53 hl16 ?_
            refine tr_aload_n dX12_goesOn_54 hl16 ?_
            refine q_getI dX12_goesOn_55 fl12_102 (kR15 hS70.1 ta0) c73 ?_
            refine q_callVi hE (M' := mX12_byteAt) (as := [_]) dX12_goesOn_58 lk12_105 inX12_byteAt seX12_byteAt myX12_byteAt (by decide) ⟨by decide, by decide⟩ rfl (kR15 hS70.1 ta0) (Nat.le_of_ble_eq_true rfl) rfl rfl (by decide) (by decide) (fk_X12_byteAt hS70.1 (gB) ta0 (by exact om_7caca98d b29) (TxA.kp hT hS70 ta0 rfl rfl rfl (by decide +kernel) (by decide +kernel)) (by (try rw [((hS70.cell ta0 (by decide +kernel)).trans c6)]); first | done | with_reducible assumption | omega)) ?_
            rintro v81 cn' K' N' I76 R77 L78 ⟨rfl, rfl, rfl, rfl, rfl, rfl, dj82, -⟩
            rcases dj82 with ⟨p83, p84, p85, p86, -⟩ | ⟨p87, p88, p89, p90, -⟩ | ⟨p91, p92, p93, -⟩
            · skip
              rw [((hS70.cell ta0 (by decide +kernel)).trans c6)] at p83
              refine tr_istore_n dX12_goesOn_61 (by decide) (by decide) ?_
              refine q_iconst dX12_goesOn_62 (by decide) ?_
              intro v94 h95
              refine tr_istore_n dX12_goesOn_63 (by decide) (by decide) ?_
              refine tr_iload_n dX12_goesOn_64 rfl ?_
              refine q_iconst dX12_goesOn_65 (by decide) ?_
              intro v96 h97
              refine q_icmp_ne 77 dX12_goesOn_66 (by decide) (fun h98 => ?_) (fun h98 => ?_)
              · skip
                refine tr_iload_n dX12_goesOn_77 rfl ?_
                refine q_callSi hE (M' := mX12_isLetter) (as := [_]) dX12_goesOn_78 lk12_114 inX12_isLetter myX12_isLetter ⟨by decide, by decide⟩ rfl (Nat.le_of_ble_eq_true rfl) rfl rfl (by decide) (by decide) (fk_X12_isLetter hS70.1  ) ?_
                rintro v104 cn' K' N' I99 R100 L101 ⟨rfl, rfl, rfl, rfl, rfl, rfl, h105, dj106, -⟩
                rcases dj106 with ⟨p107, p108, p109, -⟩ | ⟨p110, p111, -⟩
                · skip
                  refine q_if_eq 166 dX12_goesOn_81 (by decide) (fun h112 => ?_) (fun h112 => ?_)
                  · skip
                    exfalso; exact om_3624102b p107 h112
                  · skip
                    refine tr_aload_n dX12_goesOn_84 hl16 ?_
                    obtain ⟨y113, lx114⟩ : ∃ z : Int64, z = 0 := ⟨_, rfl⟩
                    refine tr_lconst (v := y113) dX12_goesOn_85 (by rw [lx114]; rfl) ?_
                    refine q_putLE dX12_goesOn_86 fl12_118 (kR15 hS70.1 ta0) (Or.inl rfl) hL20 ta0 (by decide +kernel) ?_
                    intro L115 hL116 e117 f118
                    have lp145 : ∀ (fu : Nat) (ls : Nat → Option Value) (v119 : Int32) (I123 : cz_I) (L124 : cz_L) (v127 : Int32) (v129 : Int32) (v131 : Int32) (v133 : Int32) (y135 : Int64), ls 0 = some (.ref a0) → ls 1 = some (.int v81) → ls 2 = some (.int v119) → St T cn K N d wik_X12_goesOn wrk_X12_goesOn I0 R0 I123 R0 → LgS T wlk_X12_goesOn L0 L124 → I123 a0 8 = v127 → I123 a0 10 = v129 → I123 a0 9 = v131 → I123 a0 11 = v133 → L124 a0 15 = y135 → (tkE gB v127.toInt) = (tkE gB v129.toInt) → v131.toInt = 0 → v133.toInt = 0 → v119.toInt = v127.toInt - v129.toInt → v119.toInt ≥ 0 → (tkS gB gp) = v129.toInt → v81.toInt = (tkb gB v129.toInt) → y135 = wfo gB v129.toInt (min v119.toInt.toNat 8) → (-v127.toInt + 900).toNat < fu → Tr X mX12_goesOn 89 ls [] cn K N I123 R0 L124 0 0 := by
                      intro fu
                      induction fu with
                      | zero => intros; rename_i hz; exact absurd hz (Nat.not_lt_zero _)
                      | succ fu ih145 =>
                        intro ls v119 I123 L124 v127 v129 v131 v133 y135 hl120 hl121 hl122 hS125 hL126 c128 c130 c132 c134 c136 g137 g138 g139 g140 g141 g142 g143 rw144 hm145
                        have b147 := iv15_8 hS125.1 ta0 c128
                        have b148 := iv15_10 hS125.1 ta0 c130
                        have b149 := iv15_9 hS125.1 ta0 c132
                        refine tr_aload_n dX12_goesOn_89 hl120 ?_
                        refine tr_aload_n dX12_goesOn_90 hl120 ?_
                        refine q_getI dX12_goesOn_91 fl12_102 (kR15 hS125.1 ta0) c128 ?_
                        refine q_callVi hE (M' := mX12_byteAt) (as := [_]) dX12_goesOn_94 lk12_105 inX12_byteAt seX12_byteAt myX12_byteAt (by decide) ⟨by decide, by decide⟩ rfl (kR15 hS125.1 ta0) (Nat.le_of_ble_eq_true rfl) rfl rfl (by decide) (by decide) (fk_X12_byteAt hS125.1 (gB) ta0 (by exact om_7caca98d b147) (TxA.kp hT hS125 ta0 rfl rfl rfl (by decide +kernel) (by decide +kernel)) (by (try rw [((hS125.cell ta0 (by decide +kernel)).trans c6)]); first | done | with_reducible assumption | omega)) ?_
                        rintro v155 cn' K' N' I150 R151 L152 ⟨rfl, rfl, rfl, rfl, rfl, rfl, dj156, -⟩
                        rcases dj156 with ⟨p157, p158, p159, p160, -⟩ | ⟨p161, p162, p163, p164, -⟩ | ⟨p165, p166, p167, -⟩
                        · skip
                          rw [((hS125.cell ta0 (by decide +kernel)).trans c6)] at p157
                          refine q_callSi hE (M' := mX12_isLetter) (as := [_]) dX12_goesOn_97 lk12_114 inX12_isLetter myX12_isLetter ⟨by decide, by decide⟩ rfl (Nat.le_of_ble_eq_true rfl) rfl rfl (by decide) (by decide) (fk_X12_isLetter hS125.1  ) ?_
                          rintro v173 cn' K' N' I168 R169 L170 ⟨rfl, rfl, rfl, rfl, rfl, rfl, h174, dj175, -⟩
                          rcases dj175 with ⟨p176, p177, p178, -⟩ | ⟨p179, p180, -⟩
                          · skip
                            refine q_if_eq 152 dX12_goesOn_100 (by decide) (fun h181 => ?_) (fun h181 => ?_)
                            · skip
                              exfalso; exact om_3624102b p176 h181
                            · skip
                              refine tr_iload_n dX12_goesOn_103 hl122 ?_
                              refine q_bipush dX12_goesOn_104 (by decide +kernel) ?_
                              intro v182 h183
                              refine q_icmp_ge 136 dX12_goesOn_106 (by decide) (fun h184 => ?_) (fun h184 => ?_)
                              · skip
                                refine q_iincE dX12_goesOn_136 hl122 (by decide) (by decide) (by intro j1 j2; exact om_95e034d8 b29.2 b29.1 e52 g140 g141 g142 b147.2 b147.1 j2) ?_
                                intro v185 h186
                                refine tr_aload_n dX12_goesOn_139 hl120 ?_
                                refine tr_dup dX12_goesOn_140 rfl ?_
                                refine q_getI dX12_goesOn_141 fl12_102 (kR15 hS125.1 ta0) c128 ?_
                                refine q_iconst dX12_goesOn_144 (by decide) ?_
                                intro v187 h188
                                refine q_iaddE dX12_goesOn_145 (by intro j1 j2 j3 j4; exact om_2fae195d b7.2 b7.1 g140 b147.2 b147.1 p157 h186 h188) ?_
                                intro v189 h190
                                refine q_putI dX12_goesOn_146 fl12_102 (kR15 hS125.1 ta0) (Or.inl rfl) hS125 ta0 (by show (0 : Int) ≤ v189.toInt ∧ v189.toInt ≤ (900 : Int); exact om_96ba9c20 b7.2 b7.1 g140 b147.2 b147.1 p157 h186 h188 h190) rfl (by decide +kernel) ?_
                                intro I191 hS192 e193 f194
                                have c195 : I191 a0 10 = v129 := (f194 _ _ (fun q => absurd q.2 (by decide))).trans c130
                                have c196 : I191 a0 9 = v131 := (f194 _ _ (fun q => absurd q.2 (by decide))).trans c132
                                have c197 : I191 a0 11 = v133 := (f194 _ _ (fun q => absurd q.2 (by decide))).trans c134
                                refine tr_goto 89 dX12_goesOn_149 (by decide) ?_
                                exact ih145 _ v185 I191 L124 v189 v129 v131 v133 y135 hl120 hl121 rfl hS192 hL126 e193 c195 c196 c197 c136 (by have q := tkE_on (B := gB) (s := v127.toInt) (t := v189.toInt) (by exact om_699bad17 p158 p159 p160 p177 p178) (by exact om_a615975c g140 h186 h188 h190); exact om_9fa72578 g137 q) (by exact om_29f55913 g138) (by exact om_29f55913 g139) (by exact om_7f74235c g140 h186 h188 h190) (by exact om_484bd6cc g140 h183 h184 h186) (by exact om_acd7a85a g142) (by exact om_acd7a85a g143) (by rw [show min v185.toInt.toNat 8 = min v119.toInt.toNat 8 by exact om_29b9c973 g140 h183 h184 h186]; exact rw144) (by exact om_009ceed2 b7.2 b7.1 g140 hm145 b147.2 b147.1 p157 p176 h181 h186 h188 h190)
                              · skip
                                refine tr_aload_n dX12_goesOn_109 hl120 ?_
                                refine tr_ldc2 (v := 32) dX12_goesOn_110 ld12_93 ?_
                                obtain ⟨y198, lx199⟩ : ∃ z : Int64, z = 32 := ⟨_, rfl⟩
                                rw [← lx199]
                                refine tr_aload_n dX12_goesOn_113 hl120 ?_
                                refine q_getLE dX12_goesOn_114 fl12_118 (kR15 hS125.1 ta0) c136 ?_
                                refine tr_lmul dX12_goesOn_117 ?_
                                obtain ⟨y200, lx201⟩ : ∃ z, z = y198 * y135 := ⟨_, rfl⟩
                                rw [← lx201]
                                refine tr_aload_n dX12_goesOn_118 hl120 ?_
                                refine tr_aload_n dX12_goesOn_119 hl120 ?_
                                refine q_getI dX12_goesOn_120 fl12_102 (kR15 hS125.1 ta0) c128 ?_
                                refine q_callVi hE (M' := mX12_byteAt) (as := [_]) dX12_goesOn_123 lk12_105 inX12_byteAt seX12_byteAt myX12_byteAt (by decide) ⟨by decide, by decide⟩ rfl (kR15 hS125.1 ta0) (Nat.le_of_ble_eq_true rfl) rfl rfl (by decide) (by decide) (fk_X12_byteAt hS125.1 (gB) ta0 (by exact om_7caca98d b147) (TxA.kp hT hS125 ta0 rfl rfl rfl (by decide +kernel) (by decide +kernel)) (by (try rw [((hS125.cell ta0 (by decide +kernel)).trans c6)]); first | done | with_reducible assumption | omega)) ?_
                                rintro v207 cn' K' N' I202 R203 L204 ⟨rfl, rfl, rfl, rfl, rfl, rfl, dj208, -⟩
                                rcases dj208 with ⟨p209, p210, p211, p212, -⟩ | ⟨p213, p214, p215, p216, -⟩ | ⟨p217, p218, p219, -⟩
                                · skip
                                  rw [((hS125.cell ta0 (by decide +kernel)).trans c6)] at p209
                                  refine q_bipush dX12_goesOn_126 (by decide +kernel) ?_
                                  intro v220 h221
                                  have lx222 : v220 = (97 : Int32) := Int32.toInt_inj.mp (h221.trans rfl)
                                  refine tr_isub dX12_goesOn_128 ?_
                                  obtain ⟨v223, lx224⟩ : ∃ z, z = v207 - v220 := ⟨_, rfl⟩
                                  rw [← lx224]
                                  refine q_iconst dX12_goesOn_129 (by decide) ?_
                                  intro v225 h226
                                  have lx227 : v225 = (1 : Int32) := Int32.toInt_inj.mp (h226.trans rfl)
                                  refine tr_iadd dX12_goesOn_130 ?_
                                  obtain ⟨v228, lx229⟩ : ∃ z, z = v223 + v225 := ⟨_, rfl⟩
                                  rw [← lx229]
                                  refine tr_i2l dX12_goesOn_131 ?_
                                  obtain ⟨y230, lx231⟩ : ∃ z, z = v228.toInt64 := ⟨_, rfl⟩
                                  rw [← lx231]
                                  refine tr_ladd dX12_goesOn_132 ?_
                                  obtain ⟨y232, lx233⟩ : ∃ z, z = y200 + y230 := ⟨_, rfl⟩
                                  rw [← lx233]
                                  refine q_putLE dX12_goesOn_133 fl12_118 (kR15 hS125.1 ta0) (Or.inl rfl) hL126 ta0 (by decide +kernel) ?_
                                  intro L234 hL235 e236 f237
                                  refine q_iincE dX12_goesOn_136 hl122 (by decide) (by decide) (by intro j1 j2; exact om_ee2c3e08 g140 g141 h183 h184 j2) ?_
                                  intro v238 h239
                                  refine tr_aload_n dX12_goesOn_139 hl120 ?_
                                  refine tr_dup dX12_goesOn_140 rfl ?_
                                  refine q_getI dX12_goesOn_141 fl12_102 (kR15 hS125.1 ta0) c128 ?_
                                  refine q_iconst dX12_goesOn_144 (by decide) ?_
                                  intro v240 h241
                                  refine q_iaddE dX12_goesOn_145 (by intro j1 j2 j3 j4; exact om_2fae195d b7.2 b7.1 g140 b147.2 b147.1 p157 h239 h241) ?_
                                  intro v242 h243
                                  refine q_putI dX12_goesOn_146 fl12_102 (kR15 hS125.1 ta0) (Or.inl rfl) hS125 ta0 (by show (0 : Int) ≤ v242.toInt ∧ v242.toInt ≤ (900 : Int); exact om_96ba9c20 b7.2 b7.1 g140 b147.2 b147.1 p157 h239 h241 h243) rfl (by decide +kernel) ?_
                                  intro I244 hS245 e246 f247
                                  have c248 : I244 a0 10 = v129 := (f247 _ _ (fun q => absurd q.2 (by decide))).trans c130
                                  have c249 : I244 a0 9 = v131 := (f247 _ _ (fun q => absurd q.2 (by decide))).trans c132
                                  have c250 : I244 a0 11 = v133 := (f247 _ _ (fun q => absurd q.2 (by decide))).trans c134
                                  refine tr_goto 89 dX12_goesOn_149 (by decide) ?_
                                  exact ih145 _ v238 I244 L234 v242 v129 v131 v133 y232 hl120 hl121 rfl hS245 hL235 e246 c248 c249 c250 e236 (by have q := tkE_on (B := gB) (s := v127.toInt) (t := v242.toInt) (by exact om_9ecec034 p158 p159 p160 p177 p178 p210) (by exact om_a615975c g140 h239 h241 h243); exact om_9fa72578 g137 q) (by exact om_29f55913 g138) (by exact om_29f55913 g139) (by exact om_7f74235c g140 h239 h241 h243) (by exact om_05b96c43 g140 g141 h183 h184 h239) (by exact om_acd7a85a g142) (by exact om_acd7a85a g143) (by rw [show min v238.toInt.toNat 8 = min v119.toInt.toNat 8 + 1 by exact om_333869e0 g140 g141 h183 h184 h239, wfo_on (i := v127) (n := v207) (by exact om_e9ab0607 g140 g141 h183 h184 h239) (tkb_at (B := gB) (i := v127) (by exact om_3be578bd p8 g140 p157 h239 h241 h243) (by exact om_acd7a85a p210)), ← rw144, ← t64_2 _ (by exact om_2cfcd5a5 p211) (by exact om_9e3540cf p158 p159 p160 p177 p178 p210)]; simp only [lx114, lx199, lx201, lx222, lx224, lx227, lx229, lx231, lx233]) (by exact om_009ceed2 b7.2 b7.1 g140 hm145 b147.2 b147.1 p157 p176 h181 h239 h241 h243)
                                · skip
                                  rw [((hS125.cell ta0 (by decide +kernel)).trans c6)] at p213
                                  exfalso; exact om_b8831c22 p158 p159 p160 p177 p178 p214
                                · skip
                                  rw [((hS125.cell ta0 (by decide +kernel)).trans c6)] at p217
                                  exfalso; exact om_1dc1f359 p157 p217
                          · skip
                            refine q_if_eq 152 dX12_goesOn_100 (by decide) (fun h251 => ?_) (fun h251 => ?_)
                            · skip
                              have e252 : tkE gB v127.toInt = v127.toInt := tkE_fin (by exact om_8f7b56db p158 p159 p160 p180)
                              refine tr_iload_n dX12_goesOn_152 hl122 ?_
                              refine q_bipush dX12_goesOn_153 (by decide +kernel) ?_
                              intro v253 h254
                              refine q_icmp_gt 281 dX12_goesOn_155 (by decide) (fun h255 => ?_) (fun h255 => ?_)
                              · skip
                                have e256 : tkS gB gp = v129.toInt := by exact om_acd7a85a g142
                                have hK257 : tkK gB gp = 5 := by simp only [tkK, e256]; exact om_fdbf3892 p8 p38 p39 p40 p41 e52 p84 p108 p109 g137 g140 g141 g142 g143 e252 h254 h255
                                have hK257m := tkM_K0 hK257
                                simp only [↓reduceIte, Int.reduceEq] at hK257m
                                obtain ⟨v258, c259⟩ : ∃ v, I123 a0 12 = v := ⟨_, rfl⟩
                                exact tr_vret hZ dX12_goesOn_281 rfl (by decide) (by decide) ⟨rfl, rfl, rfl, rfl, rfl, hS125, hL126, (by (try rw [c132]); first | done | with_reducible assumption | exact om_5bac22bd g138 hK257m.1), (by (try rw [c132]); first | done | with_reducible assumption | exact om_d83c346d g138), (by (try rw [c130]); first | done | with_reducible assumption | exact om_3cb81a64 e52 g142), (by (try rw [c134]); first | done | with_reducible assumption | exact om_5bac22bd g139 hK257m.2), (by (try rw [c136]); intro z; exact om_46e278db hK257 z), (by (try rw [c259]); intro z; exact om_f6992ea5 hK257 z), (by (try rw [c128]); intro z; exact om_c4231424 hK257 z), trivial⟩
                              · skip
                                refine tr_aload_n dX12_goesOn_158 hl120 ?_
                                refine q_iconst dX12_goesOn_159 (by decide) ?_
                                intro v260 h261
                                refine q_putI dX12_goesOn_160 fl12_99 (kR15 hS125.1 ta0) (Or.inl rfl) hS125 ta0 (by show (0 : Int) ≤ v260.toInt ∧ v260.toInt ≤ (5 : Int); exact om_3fee6963 h261) rfl (by decide +kernel) ?_
                                intro I262 hS263 e264 f265
                                have c266 : I262 a0 8 = v127 := (f265 _ _ (fun q => absurd q.2 (by decide))).trans c128
                                have c267 : I262 a0 10 = v129 := (f265 _ _ (fun q => absurd q.2 (by decide))).trans c130
                                have c268 : I262 a0 11 = v133 := (f265 _ _ (fun q => absurd q.2 (by decide))).trans c134
                                refine tr_goto 281 dX12_goesOn_163 (by decide) ?_
                                have e269 : tkS gB gp = v129.toInt := by exact om_acd7a85a g142
                                have hK270 : tkK gB gp = 1 := by simp only [tkK, e269]; exact om_9a6ae6de p8 p38 p39 p40 p41 e52 p84 p108 p109 g137 g140 g142 g143 e252 h254 h255
                                have hK270m := tkM_K0 hK270
                                simp only [↓reduceIte, Int.reduceEq] at hK270m
                                have hK270n : tkN gB gp = v127.toInt := by simp only [tkN, e269]; exact om_1700578b p8 p38 p39 p40 p41 e52 p84 p108 p109 g137 g142 g143 e252
                                obtain ⟨v271, c272⟩ : ∃ v, I262 a0 12 = v := ⟨_, rfl⟩
                                exact tr_vret hZ dX12_goesOn_281 rfl (by decide) (by decide) ⟨rfl, rfl, rfl, rfl, rfl, hS263, hL126, (by (try rw [e264]); first | done | with_reducible assumption | exact om_c17e5678 h261 hK270m.1), (by (try rw [e264]); first | done | with_reducible assumption | exact om_c62082c8 h261), (by (try rw [c267]); first | done | with_reducible assumption | exact om_3cb81a64 e52 g142), (by (try rw [c268]); first | done | with_reducible assumption | exact om_5bac22bd g139 hK270m.2), (by (try rw [c136]); intro z; rw [tkW_X, e269, tkX, rw144]; congr 2; exact om_33b423d1 g137 g140 g141 e252 h254 h255 hK270n), (by (try rw [c272]); intro z; exact om_40d5ba6a hK270 z), (by (try rw [c266]); intro z; exact om_7847aadf hK270n), trivial⟩
                            · skip
                              exfalso; exact om_3a97d4a5 p179 h251
                        · skip
                          rw [((hS125.cell ta0 (by decide +kernel)).trans c6)] at p161
                          refine q_callSi hE (M' := mX12_isLetter) (as := [_]) dX12_goesOn_97 lk12_114 inX12_isLetter myX12_isLetter ⟨by decide, by decide⟩ rfl (Nat.le_of_ble_eq_true rfl) rfl rfl (by decide) (by decide) (fk_X12_isLetter hS125.1  ) ?_
                          rintro v278 cn' K' N' I273 R274 L275 ⟨rfl, rfl, rfl, rfl, rfl, rfl, h279, dj280, -⟩
                          rcases dj280 with ⟨p281, p282, p283, -⟩ | ⟨p284, p285, -⟩
                          · skip
                            exfalso; exact om_c04c063d p163 p164 p283
                          · skip
                            refine q_if_eq 152 dX12_goesOn_100 (by decide) (fun h286 => ?_) (fun h286 => ?_)
                            · skip
                              have e287 : tkE gB v127.toInt = v127.toInt := tkE_fin (by exact om_17a25ccf p162)
                              refine tr_iload_n dX12_goesOn_152 hl122 ?_
                              refine q_bipush dX12_goesOn_153 (by decide +kernel) ?_
                              intro v288 h289
                              refine q_icmp_gt 281 dX12_goesOn_155 (by decide) (fun h290 => ?_) (fun h290 => ?_)
                              · skip
                                have e291 : tkS gB gp = v129.toInt := by exact om_acd7a85a g142
                                have hK292 : tkK gB gp = 5 := by simp only [tkK, e291]; exact om_fdbf3892 p8 p38 p39 p40 p41 e52 p84 p108 p109 g137 g140 g141 g142 g143 e287 h289 h290
                                have hK292m := tkM_K0 hK292
                                simp only [↓reduceIte, Int.reduceEq] at hK292m
                                obtain ⟨v293, c294⟩ : ∃ v, I123 a0 12 = v := ⟨_, rfl⟩
                                exact tr_vret hZ dX12_goesOn_281 rfl (by decide) (by decide) ⟨rfl, rfl, rfl, rfl, rfl, hS125, hL126, (by (try rw [c132]); first | done | with_reducible assumption | exact om_5bac22bd g138 hK292m.1), (by (try rw [c132]); first | done | with_reducible assumption | exact om_d83c346d g138), (by (try rw [c130]); first | done | with_reducible assumption | exact om_3cb81a64 e52 g142), (by (try rw [c134]); first | done | with_reducible assumption | exact om_5bac22bd g139 hK292m.2), (by (try rw [c136]); intro z; exact om_46e278db hK292 z), (by (try rw [c294]); intro z; exact om_f6992ea5 hK292 z), (by (try rw [c128]); intro z; exact om_c4231424 hK292 z), trivial⟩
                              · skip
                                refine tr_aload_n dX12_goesOn_158 hl120 ?_
                                refine q_iconst dX12_goesOn_159 (by decide) ?_
                                intro v295 h296
                                refine q_putI dX12_goesOn_160 fl12_99 (kR15 hS125.1 ta0) (Or.inl rfl) hS125 ta0 (by show (0 : Int) ≤ v295.toInt ∧ v295.toInt ≤ (5 : Int); exact om_3fee6963 h296) rfl (by decide +kernel) ?_
                                intro I297 hS298 e299 f300
                                have c301 : I297 a0 8 = v127 := (f300 _ _ (fun q => absurd q.2 (by decide))).trans c128
                                have c302 : I297 a0 10 = v129 := (f300 _ _ (fun q => absurd q.2 (by decide))).trans c130
                                have c303 : I297 a0 11 = v133 := (f300 _ _ (fun q => absurd q.2 (by decide))).trans c134
                                refine tr_goto 281 dX12_goesOn_163 (by decide) ?_
                                have e304 : tkS gB gp = v129.toInt := by exact om_acd7a85a g142
                                have hK305 : tkK gB gp = 1 := by simp only [tkK, e304]; exact om_9a6ae6de p8 p38 p39 p40 p41 e52 p84 p108 p109 g137 g140 g142 g143 e287 h289 h290
                                have hK305m := tkM_K0 hK305
                                simp only [↓reduceIte, Int.reduceEq] at hK305m
                                have hK305n : tkN gB gp = v127.toInt := by simp only [tkN, e304]; exact om_1700578b p8 p38 p39 p40 p41 e52 p84 p108 p109 g137 g142 g143 e287
                                obtain ⟨v306, c307⟩ : ∃ v, I297 a0 12 = v := ⟨_, rfl⟩
                                exact tr_vret hZ dX12_goesOn_281 rfl (by decide) (by decide) ⟨rfl, rfl, rfl, rfl, rfl, hS298, hL126, (by (try rw [e299]); first | done | with_reducible assumption | exact om_c17e5678 h296 hK305m.1), (by (try rw [e299]); first | done | with_reducible assumption | exact om_c62082c8 h296), (by (try rw [c302]); first | done | with_reducible assumption | exact om_3cb81a64 e52 g142), (by (try rw [c303]); first | done | with_reducible assumption | exact om_5bac22bd g139 hK305m.2), (by (try rw [c136]); intro z; rw [tkW_X, e304, tkX, rw144]; congr 2; exact om_33b423d1 g137 g140 g141 e287 h289 h290 hK305n), (by (try rw [c307]); intro z; exact om_40d5ba6a hK305 z), (by (try rw [c301]); intro z; exact om_7847aadf hK305n), trivial⟩
                            · skip
                              exfalso; exact om_3a97d4a5 p284 h286
                        · skip
                          rw [((hS125.cell ta0 (by decide +kernel)).trans c6)] at p165
                          refine q_callSi hE (M' := mX12_isLetter) (as := [_]) dX12_goesOn_97 lk12_114 inX12_isLetter myX12_isLetter ⟨by decide, by decide⟩ rfl (Nat.le_of_ble_eq_true rfl) rfl rfl (by decide) (by decide) (fk_X12_isLetter hS125.1  ) ?_
                          rintro v313 cn' K' N' I308 R309 L310 ⟨rfl, rfl, rfl, rfl, rfl, rfl, h314, dj315, -⟩
                          rcases dj315 with ⟨p316, p317, p318, -⟩ | ⟨p319, p320, -⟩
                          · skip
                            exfalso; exact om_334c79bd p166 p317
                          · skip
                            refine q_if_eq 152 dX12_goesOn_100 (by decide) (fun h321 => ?_) (fun h321 => ?_)
                            · skip
                              have e322 : tkE gB v127.toInt = v127.toInt := tkE_fin (by exact om_e1d55a48 p8 p165)
                              refine tr_iload_n dX12_goesOn_152 hl122 ?_
                              refine q_bipush dX12_goesOn_153 (by decide +kernel) ?_
                              intro v323 h324
                              refine q_icmp_gt 281 dX12_goesOn_155 (by decide) (fun h325 => ?_) (fun h325 => ?_)
                              · skip
                                have e326 : tkS gB gp = v129.toInt := by exact om_acd7a85a g142
                                have hK327 : tkK gB gp = 5 := by simp only [tkK, e326]; exact om_83eb23db p8 p38 p39 p40 p41 e52 p84 p108 p109 g137 g140 g141 g142 g143 p165 e322 h324 h325
                                have hK327m := tkM_K0 hK327
                                simp only [↓reduceIte, Int.reduceEq] at hK327m
                                obtain ⟨v328, c329⟩ : ∃ v, I123 a0 12 = v := ⟨_, rfl⟩
                                exact tr_vret hZ dX12_goesOn_281 rfl (by decide) (by decide) ⟨rfl, rfl, rfl, rfl, rfl, hS125, hL126, (by (try rw [c132]); first | done | with_reducible assumption | exact om_5bac22bd g138 hK327m.1), (by (try rw [c132]); first | done | with_reducible assumption | exact om_d83c346d g138), (by (try rw [c130]); first | done | with_reducible assumption | exact om_3cb81a64 e52 g142), (by (try rw [c134]); first | done | with_reducible assumption | exact om_5bac22bd g139 hK327m.2), (by (try rw [c136]); intro z; exact om_46e278db hK327 z), (by (try rw [c329]); intro z; exact om_f6992ea5 hK327 z), (by (try rw [c128]); intro z; exact om_c4231424 hK327 z), trivial⟩
                              · skip
                                refine tr_aload_n dX12_goesOn_158 hl120 ?_
                                refine q_iconst dX12_goesOn_159 (by decide) ?_
                                intro v330 h331
                                refine q_putI dX12_goesOn_160 fl12_99 (kR15 hS125.1 ta0) (Or.inl rfl) hS125 ta0 (by show (0 : Int) ≤ v330.toInt ∧ v330.toInt ≤ (5 : Int); exact om_3fee6963 h331) rfl (by decide +kernel) ?_
                                intro I332 hS333 e334 f335
                                have c336 : I332 a0 8 = v127 := (f335 _ _ (fun q => absurd q.2 (by decide))).trans c128
                                have c337 : I332 a0 10 = v129 := (f335 _ _ (fun q => absurd q.2 (by decide))).trans c130
                                have c338 : I332 a0 11 = v133 := (f335 _ _ (fun q => absurd q.2 (by decide))).trans c134
                                refine tr_goto 281 dX12_goesOn_163 (by decide) ?_
                                have e339 : tkS gB gp = v129.toInt := by exact om_acd7a85a g142
                                have hK340 : tkK gB gp = 1 := by simp only [tkK, e339]; exact om_9a6ae6de p8 p38 p39 p40 p41 e52 p84 p108 p109 g137 g140 g142 g143 e322 h324 h325
                                have hK340m := tkM_K0 hK340
                                simp only [↓reduceIte, Int.reduceEq] at hK340m
                                have hK340n : tkN gB gp = v127.toInt := by simp only [tkN, e339]; exact om_978fc8c3 p8 p38 p39 p40 p41 e52 p84 p108 p109 g137 g140 g141 g142 g143 p165 e322
                                obtain ⟨v341, c342⟩ : ∃ v, I332 a0 12 = v := ⟨_, rfl⟩
                                exact tr_vret hZ dX12_goesOn_281 rfl (by decide) (by decide) ⟨rfl, rfl, rfl, rfl, rfl, hS333, hL126, (by (try rw [e334]); first | done | with_reducible assumption | exact om_c17e5678 h331 hK340m.1), (by (try rw [e334]); first | done | with_reducible assumption | exact om_c62082c8 h331), (by (try rw [c337]); first | done | with_reducible assumption | exact om_3cb81a64 e52 g142), (by (try rw [c338]); first | done | with_reducible assumption | exact om_5bac22bd g139 hK340m.2), (by (try rw [c136]); intro z; rw [tkW_X, e339, tkX, rw144]; congr 2; exact om_53d69f4e p38 e52 g137 g140 g141 g142 p165 e322 h324 h325 hK340n), (by (try rw [c342]); intro z; exact om_40d5ba6a hK340 z), (by (try rw [c336]); intro z; exact om_7847aadf hK340n), trivial⟩
                            · skip
                              exfalso; exact om_3a97d4a5 p319 h321
                    exact lp145 _ _ v94 I69 L115 v21 v21 v59 v67 y113 hl16 rfl rfl hS70 hL116 c73 c74 c75 e71 e117 (congrArg (tkE gB) (by exact om_4ee7209a)) (by exact om_29f55913 h60) (by exact om_29f55913 h68) (by exact om_9a3ffcce h95) (by exact om_d0ca1ade h95) (by exact om_acd7a85a e52) (by exact om_acd7a85a p84) (by rw [lx114, show min v94.toInt.toNat 8 = 0 by exact om_8b2b36c7 h95]; rfl) (Nat.lt_succ_self _)
                · skip
                  refine q_if_eq 166 dX12_goesOn_81 (by decide) (fun h343 => ?_) (fun h343 => ?_)
                  · skip
                    refine tr_iload_n dX12_goesOn_166 rfl ?_
                    refine q_callSi hE (M' := mX12_isDigit) (as := [_]) dX12_goesOn_167 lk12_122 inX12_isDigit myX12_isDigit ⟨by decide, by decide⟩ rfl (Nat.le_of_ble_eq_true rfl) rfl rfl (by decide) (by decide) (fk_X12_isDigit hS70.1  ) ?_
                    rintro v349 cn' K' N' I344 R345 L346 ⟨rfl, rfl, rfl, rfl, rfl, rfl, h350, dj351, -⟩
                    rcases dj351 with ⟨p352, p353, p354, -⟩ | ⟨p355, p356, -⟩
                    · skip
                      refine q_if_eq 249 dX12_goesOn_170 (by decide) (fun h357 => ?_) (fun h357 => ?_)
                      · skip
                        exfalso; exact om_3624102b p352 h357
                      · skip
                        refine tr_aload_n dX12_goesOn_173 hl16 ?_
                        refine q_iconst dX12_goesOn_174 (by decide) ?_
                        intro v358 h359
                        refine q_putI dX12_goesOn_175 fl12_125 (kR15 hS70.1 ta0) (Or.inl rfl) hS70 ta0 (iokF rfl) rfl (by decide +kernel) ?_
                        intro I360 hS361 e362 f363
                        have c364 : I360 a0 8 = v21 := (f363 _ _ (fun q => absurd q.2 (by decide))).trans c73
                        have c365 : I360 a0 10 = v21 := (f363 _ _ (fun q => absurd q.2 (by decide))).trans c74
                        have c366 : I360 a0 9 = v59 := (f363 _ _ (fun q => absurd q.2 (by decide))).trans c75
                        have c367 : I360 a0 11 = v67 := (f363 _ _ (fun q => absurd q.2 (by decide))).trans e71
                        have lp394 : ∀ (fu : Nat) (ls : Nat → Option Value) (v368 : Int32) (I372 : cz_I) (L373 : cz_L) (v376 : Int32) (v378 : Int32) (v380 : Int32) (v382 : Int32) (v384 : Int32), ls 0 = some (.ref a0) → ls 1 = some (.int v81) → ls 2 = some (.int v368) → St T cn K N d wik_X12_goesOn wrk_X12_goesOn I0 R0 I372 R0 → LgS T wlk_X12_goesOn L0 L373 → I372 a0 8 = v376 → I372 a0 10 = v378 → I372 a0 9 = v380 → I372 a0 11 = v382 → I372 a0 12 = v384 → (tkD gB v376.toInt) = (tkD gB v378.toInt) → v380.toInt = 0 → v382.toInt = 0 → v368.toInt = v376.toInt - v378.toInt → v368.toInt ≥ 0 → (tkS gB gp) = v378.toInt → v81.toInt = (tkb gB v378.toInt) → v384 = vfo gB v378.toInt (min v368.toInt.toNat 3) → (-v376.toInt + 900).toNat < fu → Tr X mX12_goesOn 178 ls [] cn K N I372 R0 L373 0 0 := by
                          intro fu
                          induction fu with
                          | zero => intros; rename_i hz; exact absurd hz (Nat.not_lt_zero _)
                          | succ fu ih394 =>
                            intro ls v368 I372 L373 v376 v378 v380 v382 v384 hl369 hl370 hl371 hS374 hL375 c377 c379 c381 c383 c385 g386 g387 g388 g389 g390 g391 g392 rw393 hm394
                            have b396 := iv15_8 hS374.1 ta0 c377
                            have b397 := iv15_10 hS374.1 ta0 c379
                            have b398 := iv15_9 hS374.1 ta0 c381
                            refine tr_aload_n dX12_goesOn_178 hl369 ?_
                            refine tr_aload_n dX12_goesOn_179 hl369 ?_
                            refine q_getI dX12_goesOn_180 fl12_102 (kR15 hS374.1 ta0) c377 ?_
                            refine q_callVi hE (M' := mX12_byteAt) (as := [_]) dX12_goesOn_183 lk12_105 inX12_byteAt seX12_byteAt myX12_byteAt (by decide) ⟨by decide, by decide⟩ rfl (kR15 hS374.1 ta0) (Nat.le_of_ble_eq_true rfl) rfl rfl (by decide) (by decide) (fk_X12_byteAt hS374.1 (gB) ta0 (by exact om_7caca98d b396) (TxA.kp hT hS374 ta0 rfl rfl rfl (by decide +kernel) (by decide +kernel)) (by (try rw [((hS374.cell ta0 (by decide +kernel)).trans c6)]); first | done | with_reducible assumption | omega)) ?_
                            rintro v404 cn' K' N' I399 R400 L401 ⟨rfl, rfl, rfl, rfl, rfl, rfl, dj405, -⟩
                            rcases dj405 with ⟨p406, p407, p408, p409, -⟩ | ⟨p410, p411, p412, p413, -⟩ | ⟨p414, p415, p416, -⟩
                            · skip
                              rw [((hS374.cell ta0 (by decide +kernel)).trans c6)] at p406
                              refine q_callSi hE (M' := mX12_isDigit) (as := [_]) dX12_goesOn_186 lk12_122 inX12_isDigit myX12_isDigit ⟨by decide, by decide⟩ rfl (Nat.le_of_ble_eq_true rfl) rfl rfl (by decide) (by decide) (fk_X12_isDigit hS374.1  ) ?_
                              rintro v422 cn' K' N' I417 R418 L419 ⟨rfl, rfl, rfl, rfl, rfl, rfl, h423, dj424, -⟩
                              rcases dj424 with ⟨p425, p426, p427, -⟩ | ⟨p428, p429, -⟩
                              · skip
                                refine q_if_eq 236 dX12_goesOn_189 (by decide) (fun h430 => ?_) (fun h430 => ?_)
                                · skip
                                  exfalso; exact om_3624102b p425 h430
                                · skip
                                  refine tr_iload_n dX12_goesOn_192 hl371 ?_
                                  refine q_iconst dX12_goesOn_193 (by decide) ?_
                                  intro v431 h432
                                  refine q_icmp_ge 220 dX12_goesOn_194 (by decide) (fun h433 => ?_) (fun h433 => ?_)
                                  · skip
                                    refine q_iincE dX12_goesOn_220 hl371 (by decide) (by decide) (by intro j1 j2; exact om_95e034d8 b29.2 b29.1 e52 g389 g390 g391 b396.2 b396.1 j2) ?_
                                    intro v434 h435
                                    refine tr_aload_n dX12_goesOn_223 hl369 ?_
                                    refine tr_dup dX12_goesOn_224 rfl ?_
                                    refine q_getI dX12_goesOn_225 fl12_102 (kR15 hS374.1 ta0) c377 ?_
                                    refine q_iconst dX12_goesOn_228 (by decide) ?_
                                    intro v436 h437
                                    refine q_iaddE dX12_goesOn_229 (by intro j1 j2 j3 j4; exact om_2fae195d b7.2 b7.1 g389 b396.2 b396.1 p406 h435 h437) ?_
                                    intro v438 h439
                                    refine q_putI dX12_goesOn_230 fl12_102 (kR15 hS374.1 ta0) (Or.inl rfl) hS374 ta0 (by show (0 : Int) ≤ v438.toInt ∧ v438.toInt ≤ (900 : Int); exact om_96ba9c20 b7.2 b7.1 g389 b396.2 b396.1 p406 h435 h437 h439) rfl (by decide +kernel) ?_
                                    intro I440 hS441 e442 f443
                                    have c444 : I440 a0 10 = v378 := (f443 _ _ (fun q => absurd q.2 (by decide))).trans c379
                                    have c445 : I440 a0 9 = v380 := (f443 _ _ (fun q => absurd q.2 (by decide))).trans c381
                                    have c446 : I440 a0 11 = v382 := (f443 _ _ (fun q => absurd q.2 (by decide))).trans c383
                                    have c447 : I440 a0 12 = v384 := (f443 _ _ (fun q => absurd q.2 (by decide))).trans c385
                                    refine tr_goto 178 dX12_goesOn_233 (by decide) ?_
                                    exact ih394 _ v434 I440 L373 v438 v378 v380 v382 v384 hl369 hl370 rfl hS441 hL375 e442 c444 c445 c446 c447 (by have q := tkD_on (B := gB) (s := v376.toInt) (t := v438.toInt) (by exact om_dcdd0318 p407 p408 p409 p426 p427) (by exact om_a615975c g389 h435 h437 h439); exact om_9fa72578 g386 q) (by exact om_29f55913 g387) (by exact om_29f55913 g388) (by exact om_7f74235c g389 h435 h437 h439) (by exact om_7ad9f4de g389 h432 h433 h435) (by exact om_acd7a85a g391) (by exact om_acd7a85a g392) (by rw [show min v434.toInt.toNat 3 = min v368.toInt.toNat 3 by exact om_8751eefb g389 h432 h433 h435]; exact rw393) (by exact om_009ceed2 b7.2 b7.1 g389 hm394 b396.2 b396.1 p406 p425 h430 h435 h437 h439)
                                  · skip
                                    refine tr_aload_n dX12_goesOn_197 hl369 ?_
                                    refine q_bipush dX12_goesOn_198 (by decide +kernel) ?_
                                    intro v448 h449
                                    refine tr_aload_n dX12_goesOn_200 hl369 ?_
                                    refine q_getI dX12_goesOn_201 fl12_125 (kR15 hS374.1 ta0) c385 ?_
                                    have lx450 : v448 = (10 : Int32) := Int32.toInt_inj.mp (h449.trans rfl)
                                    refine tr_imul dX12_goesOn_204 ?_
                                    obtain ⟨v451, lx452⟩ : ∃ z, z = v448 * v384 := ⟨_, rfl⟩
                                    rw [← lx452]
                                    refine tr_aload_n dX12_goesOn_205 hl369 ?_
                                    refine tr_aload_n dX12_goesOn_206 hl369 ?_
                                    refine q_getI dX12_goesOn_207 fl12_102 (kR15 hS374.1 ta0) c377 ?_
                                    refine q_callVi hE (M' := mX12_byteAt) (as := [_]) dX12_goesOn_210 lk12_105 inX12_byteAt seX12_byteAt myX12_byteAt (by decide) ⟨by decide, by decide⟩ rfl (kR15 hS374.1 ta0) (Nat.le_of_ble_eq_true rfl) rfl rfl (by decide) (by decide) (fk_X12_byteAt hS374.1 (gB) ta0 (by exact om_7caca98d b396) (TxA.kp hT hS374 ta0 rfl rfl rfl (by decide +kernel) (by decide +kernel)) (by (try rw [((hS374.cell ta0 (by decide +kernel)).trans c6)]); first | done | with_reducible assumption | omega)) ?_
                                    rintro v458 cn' K' N' I453 R454 L455 ⟨rfl, rfl, rfl, rfl, rfl, rfl, dj459, -⟩
                                    rcases dj459 with ⟨p460, p461, p462, p463, -⟩ | ⟨p464, p465, p466, p467, -⟩ | ⟨p468, p469, p470, -⟩
                                    · skip
                                      rw [((hS374.cell ta0 (by decide +kernel)).trans c6)] at p460
                                      refine tr_iadd dX12_goesOn_213 ?_
                                      obtain ⟨v471, lx472⟩ : ∃ z, z = v451 + v458 := ⟨_, rfl⟩
                                      rw [← lx472]
                                      refine q_bipush dX12_goesOn_214 (by decide +kernel) ?_
                                      intro v473 h474
                                      have lx475 : v473 = (48 : Int32) := Int32.toInt_inj.mp (h474.trans rfl)
                                      refine tr_isub dX12_goesOn_216 ?_
                                      obtain ⟨v476, lx477⟩ : ∃ z, z = v471 - v473 := ⟨_, rfl⟩
                                      rw [← lx477]
                                      refine q_putI dX12_goesOn_217 fl12_125 (kR15 hS374.1 ta0) (Or.inl rfl) hS374 ta0 (iokF rfl) rfl (by decide +kernel) ?_
                                      intro I478 hS479 e480 f481
                                      have c482 : I478 a0 8 = v376 := (f481 _ _ (fun q => absurd q.2 (by decide))).trans c377
                                      have c483 : I478 a0 10 = v378 := (f481 _ _ (fun q => absurd q.2 (by decide))).trans c379
                                      have c484 : I478 a0 9 = v380 := (f481 _ _ (fun q => absurd q.2 (by decide))).trans c381
                                      have c485 : I478 a0 11 = v382 := (f481 _ _ (fun q => absurd q.2 (by decide))).trans c383
                                      refine q_iincE dX12_goesOn_220 hl371 (by decide) (by decide) (by intro j1 j2; exact om_95e034d8 b29.2 b29.1 e52 g389 g390 g391 b396.2 b396.1 j2) ?_
                                      intro v486 h487
                                      refine tr_aload_n dX12_goesOn_223 hl369 ?_
                                      refine tr_dup dX12_goesOn_224 rfl ?_
                                      refine q_getI dX12_goesOn_225 fl12_102 (kR15 hS479.1 ta0) c482 ?_
                                      refine q_iconst dX12_goesOn_228 (by decide) ?_
                                      intro v488 h489
                                      refine q_iaddE dX12_goesOn_229 (by intro j1 j2 j3 j4; exact om_2fae195d b7.2 b7.1 g389 b396.2 b396.1 p406 h487 h489) ?_
                                      intro v490 h491
                                      refine q_putI dX12_goesOn_230 fl12_102 (kR15 hS479.1 ta0) (Or.inl rfl) hS479 ta0 (by show (0 : Int) ≤ v490.toInt ∧ v490.toInt ≤ (900 : Int); exact om_96ba9c20 b7.2 b7.1 g389 b396.2 b396.1 p406 h487 h489 h491) rfl (by decide +kernel) ?_
                                      intro I492 hS493 e494 f495
                                      have c496 : I492 a0 10 = v378 := (f495 _ _ (fun q => absurd q.2 (by decide))).trans c483
                                      have c497 : I492 a0 9 = v380 := (f495 _ _ (fun q => absurd q.2 (by decide))).trans c484
                                      have c498 : I492 a0 11 = v382 := (f495 _ _ (fun q => absurd q.2 (by decide))).trans c485
                                      have c499 : I492 a0 12 = v476 := (f495 _ _ (fun q => absurd q.2 (by decide))).trans e480
                                      refine tr_goto 178 dX12_goesOn_233 (by decide) ?_
                                      exact ih394 _ v486 I492 L373 v490 v378 v380 v382 v476 hl369 hl370 rfl hS493 hL375 e494 c496 c497 c498 c499 (by have q := tkD_on (B := gB) (s := v376.toInt) (t := v490.toInt) (by exact om_cb37480e p407 p408 p409 p426 p427 p461) (by exact om_a615975c g389 h487 h489 h491); exact om_9fa72578 g386 q) (by exact om_29f55913 g387) (by exact om_29f55913 g388) (by exact om_7f74235c g389 h487 h489 h491) (by exact om_7cb397fb g389 g390 h432 h433 h487) (by exact om_acd7a85a g391) (by exact om_acd7a85a g392) (by rw [show min v486.toInt.toNat 3 = min v368.toInt.toNat 3 + 1 by exact om_888e4667 g389 g390 h432 h433 h487, vfo_on (i := v376) (n := v458) (by exact om_e12deace g389 g390 h432 h433 h487) (tkb_at (B := gB) (i := v376) (by exact om_3be578bd p8 g389 p406 h487 h489 h491) (by exact om_acd7a85a p461)), ← rw393, Int32.mul_comm]; simp only [lx450, lx452, lx472, lx475, lx477]) (by exact om_009ceed2 b7.2 b7.1 g389 hm394 b396.2 b396.1 p406 p425 h430 h487 h489 h491)
                                    · skip
                                      rw [((hS374.cell ta0 (by decide +kernel)).trans c6)] at p464
                                      exfalso; exact om_2b64e428 p407 p408 p409 p426 p427 p465
                                    · skip
                                      rw [((hS374.cell ta0 (by decide +kernel)).trans c6)] at p468
                                      exfalso; exact om_1dc1f359 p406 p468
                              · skip
                                refine q_if_eq 236 dX12_goesOn_189 (by decide) (fun h500 => ?_) (fun h500 => ?_)
                                · skip
                                  have e501 : tkD gB v376.toInt = v376.toInt := tkD_fin (by exact om_558c9e08 p407 p408 p409 p429)
                                  refine tr_iload_n dX12_goesOn_236 hl371 ?_
                                  refine q_iconst dX12_goesOn_237 (by decide) ?_
                                  intro v502 h503
                                  refine q_icmp_gt 281 dX12_goesOn_238 (by decide) (fun h504 => ?_) (fun h504 => ?_)
                                  · skip
                                    have e505 : tkS gB gp = v378.toInt := by exact om_acd7a85a g391
                                    have hK506 : tkK gB gp = 5 := by simp only [tkK, e505]; exact om_c9ed07d1 p8 p38 p39 p40 p41 e52 p84 p353 p354 g386 g389 g390 g391 g392 e501 h503 h504
                                    have hK506m := tkM_K0 hK506
                                    simp only [↓reduceIte, Int.reduceEq] at hK506m
                                    obtain ⟨y507, c508⟩ : ∃ v, L373 a0 15 = v := ⟨_, rfl⟩
                                    exact tr_vret hZ dX12_goesOn_281 rfl (by decide) (by decide) ⟨rfl, rfl, rfl, rfl, rfl, hS374, hL375, (by (try rw [c381]); first | done | with_reducible assumption | exact om_5bac22bd g387 hK506m.1), (by (try rw [c381]); first | done | with_reducible assumption | exact om_d83c346d g387), (by (try rw [c379]); first | done | with_reducible assumption | exact om_3cb81a64 e52 g391), (by (try rw [c383]); first | done | with_reducible assumption | exact om_5bac22bd g388 hK506m.2), (by (try rw [c508]); intro z; exact om_46e278db hK506 z), (by (try rw [c385]); intro z; exact om_f6992ea5 hK506 z), (by (try rw [c377]); intro z; exact om_c4231424 hK506 z), trivial⟩
                                  · skip
                                    refine tr_aload_n dX12_goesOn_241 hl369 ?_
                                    refine q_iconst dX12_goesOn_242 (by decide) ?_
                                    intro v509 h510
                                    refine q_putI dX12_goesOn_243 fl12_99 (kR15 hS374.1 ta0) (Or.inl rfl) hS374 ta0 (by show (0 : Int) ≤ v509.toInt ∧ v509.toInt ≤ (5 : Int); exact om_cfcdcb1e h510) rfl (by decide +kernel) ?_
                                    intro I511 hS512 e513 f514
                                    have c515 : I511 a0 8 = v376 := (f514 _ _ (fun q => absurd q.2 (by decide))).trans c377
                                    have c516 : I511 a0 10 = v378 := (f514 _ _ (fun q => absurd q.2 (by decide))).trans c379
                                    have c517 : I511 a0 11 = v382 := (f514 _ _ (fun q => absurd q.2 (by decide))).trans c383
                                    have c518 : I511 a0 12 = v384 := (f514 _ _ (fun q => absurd q.2 (by decide))).trans c385
                                    refine tr_goto 281 dX12_goesOn_246 (by decide) ?_
                                    have e519 : tkS gB gp = v378.toInt := by exact om_acd7a85a g391
                                    have hK520 : tkK gB gp = 2 := by simp only [tkK, e519]; exact om_a40e17b6 p8 p38 p39 p40 p41 e52 p84 p353 p354 g386 g389 g391 g392 e501 h503 h504
                                    have hK520m := tkM_K0 hK520
                                    simp only [↓reduceIte, Int.reduceEq] at hK520m
                                    have hK520n : tkN gB gp = v376.toInt := by simp only [tkN, e519]; exact om_85bdfdda p8 p38 p39 p40 p41 e52 p84 p353 p354 g386 g391 g392 e501
                                    obtain ⟨y521, c522⟩ : ∃ v, L373 a0 15 = v := ⟨_, rfl⟩
                                    exact tr_vret hZ dX12_goesOn_281 rfl (by decide) (by decide) ⟨rfl, rfl, rfl, rfl, rfl, hS512, hL375, (by (try rw [e513]); first | done | with_reducible assumption | exact om_4684038f h510 hK520m.1), (by (try rw [e513]); first | done | with_reducible assumption | exact om_0a205eed h510), (by (try rw [c516]); first | done | with_reducible assumption | exact om_3cb81a64 e52 g391), (by (try rw [c517]); first | done | with_reducible assumption | exact om_5bac22bd g388 hK520m.2), (by (try rw [c522]); intro z; exact om_04391fd6 hK520 z), (by (try rw [c518]); intro z; rw [tkV_Y, e519, tkY, rw393]; congr 2; exact om_4983956f g386 g389 g390 e501 h503 h504 hK520n), (by (try rw [c515]); intro z; exact om_7847aadf hK520n), trivial⟩
                                · skip
                                  exfalso; exact om_3a97d4a5 p428 h500
                            · skip
                              rw [((hS374.cell ta0 (by decide +kernel)).trans c6)] at p410
                              refine q_callSi hE (M' := mX12_isDigit) (as := [_]) dX12_goesOn_186 lk12_122 inX12_isDigit myX12_isDigit ⟨by decide, by decide⟩ rfl (Nat.le_of_ble_eq_true rfl) rfl rfl (by decide) (by decide) (fk_X12_isDigit hS374.1  ) ?_
                              rintro v528 cn' K' N' I523 R524 L525 ⟨rfl, rfl, rfl, rfl, rfl, rfl, h529, dj530, -⟩
                              rcases dj530 with ⟨p531, p532, p533, -⟩ | ⟨p534, p535, -⟩
                              · skip
                                exfalso; exact om_48219b65 p412 p413 p533
                              · skip
                                refine q_if_eq 236 dX12_goesOn_189 (by decide) (fun h536 => ?_) (fun h536 => ?_)
                                · skip
                                  have e537 : tkD gB v376.toInt = v376.toInt := tkD_fin (by exact om_57c23433 p411)
                                  refine tr_iload_n dX12_goesOn_236 hl371 ?_
                                  refine q_iconst dX12_goesOn_237 (by decide) ?_
                                  intro v538 h539
                                  refine q_icmp_gt 281 dX12_goesOn_238 (by decide) (fun h540 => ?_) (fun h540 => ?_)
                                  · skip
                                    have e541 : tkS gB gp = v378.toInt := by exact om_acd7a85a g391
                                    have hK542 : tkK gB gp = 5 := by simp only [tkK, e541]; exact om_c9ed07d1 p8 p38 p39 p40 p41 e52 p84 p353 p354 g386 g389 g390 g391 g392 e537 h539 h540
                                    have hK542m := tkM_K0 hK542
                                    simp only [↓reduceIte, Int.reduceEq] at hK542m
                                    obtain ⟨y543, c544⟩ : ∃ v, L373 a0 15 = v := ⟨_, rfl⟩
                                    exact tr_vret hZ dX12_goesOn_281 rfl (by decide) (by decide) ⟨rfl, rfl, rfl, rfl, rfl, hS374, hL375, (by (try rw [c381]); first | done | with_reducible assumption | exact om_5bac22bd g387 hK542m.1), (by (try rw [c381]); first | done | with_reducible assumption | exact om_d83c346d g387), (by (try rw [c379]); first | done | with_reducible assumption | exact om_3cb81a64 e52 g391), (by (try rw [c383]); first | done | with_reducible assumption | exact om_5bac22bd g388 hK542m.2), (by (try rw [c544]); intro z; exact om_46e278db hK542 z), (by (try rw [c385]); intro z; exact om_f6992ea5 hK542 z), (by (try rw [c377]); intro z; exact om_c4231424 hK542 z), trivial⟩
                                  · skip
                                    refine tr_aload_n dX12_goesOn_241 hl369 ?_
                                    refine q_iconst dX12_goesOn_242 (by decide) ?_
                                    intro v545 h546
                                    refine q_putI dX12_goesOn_243 fl12_99 (kR15 hS374.1 ta0) (Or.inl rfl) hS374 ta0 (by show (0 : Int) ≤ v545.toInt ∧ v545.toInt ≤ (5 : Int); exact om_cfcdcb1e h546) rfl (by decide +kernel) ?_
                                    intro I547 hS548 e549 f550
                                    have c551 : I547 a0 8 = v376 := (f550 _ _ (fun q => absurd q.2 (by decide))).trans c377
                                    have c552 : I547 a0 10 = v378 := (f550 _ _ (fun q => absurd q.2 (by decide))).trans c379
                                    have c553 : I547 a0 11 = v382 := (f550 _ _ (fun q => absurd q.2 (by decide))).trans c383
                                    have c554 : I547 a0 12 = v384 := (f550 _ _ (fun q => absurd q.2 (by decide))).trans c385
                                    refine tr_goto 281 dX12_goesOn_246 (by decide) ?_
                                    have e555 : tkS gB gp = v378.toInt := by exact om_acd7a85a g391
                                    have hK556 : tkK gB gp = 2 := by simp only [tkK, e555]; exact om_a40e17b6 p8 p38 p39 p40 p41 e52 p84 p353 p354 g386 g389 g391 g392 e537 h539 h540
                                    have hK556m := tkM_K0 hK556
                                    simp only [↓reduceIte, Int.reduceEq] at hK556m
                                    have hK556n : tkN gB gp = v376.toInt := by simp only [tkN, e555]; exact om_85bdfdda p8 p38 p39 p40 p41 e52 p84 p353 p354 g386 g391 g392 e537
                                    obtain ⟨y557, c558⟩ : ∃ v, L373 a0 15 = v := ⟨_, rfl⟩
                                    exact tr_vret hZ dX12_goesOn_281 rfl (by decide) (by decide) ⟨rfl, rfl, rfl, rfl, rfl, hS548, hL375, (by (try rw [e549]); first | done | with_reducible assumption | exact om_4684038f h546 hK556m.1), (by (try rw [e549]); first | done | with_reducible assumption | exact om_0a205eed h546), (by (try rw [c552]); first | done | with_reducible assumption | exact om_3cb81a64 e52 g391), (by (try rw [c553]); first | done | with_reducible assumption | exact om_5bac22bd g388 hK556m.2), (by (try rw [c558]); intro z; exact om_04391fd6 hK556 z), (by (try rw [c554]); intro z; rw [tkV_Y, e555, tkY, rw393]; congr 2; exact om_4983956f g386 g389 g390 e537 h539 h540 hK556n), (by (try rw [c551]); intro z; exact om_7847aadf hK556n), trivial⟩
                                · skip
                                  exfalso; exact om_3a97d4a5 p534 h536
                            · skip
                              rw [((hS374.cell ta0 (by decide +kernel)).trans c6)] at p414
                              refine q_callSi hE (M' := mX12_isDigit) (as := [_]) dX12_goesOn_186 lk12_122 inX12_isDigit myX12_isDigit ⟨by decide, by decide⟩ rfl (Nat.le_of_ble_eq_true rfl) rfl rfl (by decide) (by decide) (fk_X12_isDigit hS374.1  ) ?_
                              rintro v564 cn' K' N' I559 R560 L561 ⟨rfl, rfl, rfl, rfl, rfl, rfl, h565, dj566, -⟩
                              rcases dj566 with ⟨p567, p568, p569, -⟩ | ⟨p570, p571, -⟩
                              · skip
                                exfalso; exact om_e1f82dd8 p415 p568
                              · skip
                                refine q_if_eq 236 dX12_goesOn_189 (by decide) (fun h572 => ?_) (fun h572 => ?_)
                                · skip
                                  have e573 : tkD gB v376.toInt = v376.toInt := tkD_fin (by exact om_3a66be59 p8 p414)
                                  refine tr_iload_n dX12_goesOn_236 hl371 ?_
                                  refine q_iconst dX12_goesOn_237 (by decide) ?_
                                  intro v574 h575
                                  refine q_icmp_gt 281 dX12_goesOn_238 (by decide) (fun h576 => ?_) (fun h576 => ?_)
                                  · skip
                                    have e577 : tkS gB gp = v378.toInt := by exact om_acd7a85a g391
                                    have hK578 : tkK gB gp = 5 := by simp only [tkK, e577]; exact om_7b75b0b1 p8 p38 p39 p40 p41 e52 p84 p353 p354 g386 g389 g390 g391 g392 p414 e573 h575 h576
                                    have hK578m := tkM_K0 hK578
                                    simp only [↓reduceIte, Int.reduceEq] at hK578m
                                    obtain ⟨y579, c580⟩ : ∃ v, L373 a0 15 = v := ⟨_, rfl⟩
                                    exact tr_vret hZ dX12_goesOn_281 rfl (by decide) (by decide) ⟨rfl, rfl, rfl, rfl, rfl, hS374, hL375, (by (try rw [c381]); first | done | with_reducible assumption | exact om_5bac22bd g387 hK578m.1), (by (try rw [c381]); first | done | with_reducible assumption | exact om_d83c346d g387), (by (try rw [c379]); first | done | with_reducible assumption | exact om_3cb81a64 e52 g391), (by (try rw [c383]); first | done | with_reducible assumption | exact om_5bac22bd g388 hK578m.2), (by (try rw [c580]); intro z; exact om_46e278db hK578 z), (by (try rw [c385]); intro z; exact om_f6992ea5 hK578 z), (by (try rw [c377]); intro z; exact om_c4231424 hK578 z), trivial⟩
                                  · skip
                                    refine tr_aload_n dX12_goesOn_241 hl369 ?_
                                    refine q_iconst dX12_goesOn_242 (by decide) ?_
                                    intro v581 h582
                                    refine q_putI dX12_goesOn_243 fl12_99 (kR15 hS374.1 ta0) (Or.inl rfl) hS374 ta0 (by show (0 : Int) ≤ v581.toInt ∧ v581.toInt ≤ (5 : Int); exact om_cfcdcb1e h582) rfl (by decide +kernel) ?_
                                    intro I583 hS584 e585 f586
                                    have c587 : I583 a0 8 = v376 := (f586 _ _ (fun q => absurd q.2 (by decide))).trans c377
                                    have c588 : I583 a0 10 = v378 := (f586 _ _ (fun q => absurd q.2 (by decide))).trans c379
                                    have c589 : I583 a0 11 = v382 := (f586 _ _ (fun q => absurd q.2 (by decide))).trans c383
                                    have c590 : I583 a0 12 = v384 := (f586 _ _ (fun q => absurd q.2 (by decide))).trans c385
                                    refine tr_goto 281 dX12_goesOn_246 (by decide) ?_
                                    have e591 : tkS gB gp = v378.toInt := by exact om_acd7a85a g391
                                    have hK592 : tkK gB gp = 2 := by simp only [tkK, e591]; exact om_a40e17b6 p8 p38 p39 p40 p41 e52 p84 p353 p354 g386 g389 g391 g392 e573 h575 h576
                                    have hK592m := tkM_K0 hK592
                                    simp only [↓reduceIte, Int.reduceEq] at hK592m
                                    have hK592n : tkN gB gp = v376.toInt := by simp only [tkN, e591]; exact om_f638c7b4 p8 p38 p39 p40 p41 e52 p84 p353 p354 g386 g389 g390 g391 g392 p414 e573
                                    obtain ⟨y593, c594⟩ : ∃ v, L373 a0 15 = v := ⟨_, rfl⟩
                                    exact tr_vret hZ dX12_goesOn_281 rfl (by decide) (by decide) ⟨rfl, rfl, rfl, rfl, rfl, hS584, hL375, (by (try rw [e585]); first | done | with_reducible assumption | exact om_4684038f h582 hK592m.1), (by (try rw [e585]); first | done | with_reducible assumption | exact om_0a205eed h582), (by (try rw [c588]); first | done | with_reducible assumption | exact om_3cb81a64 e52 g391), (by (try rw [c589]); first | done | with_reducible assumption | exact om_5bac22bd g388 hK592m.2), (by (try rw [c594]); intro z; exact om_04391fd6 hK592 z), (by (try rw [c590]); intro z; rw [tkV_Y, e591, tkY, rw393]; congr 2; exact om_caa47daa p38 e52 g386 g389 g390 g391 p414 e573 h575 h576 hK592n), (by (try rw [c587]); intro z; exact om_7847aadf hK592n), trivial⟩
                                · skip
                                  exfalso; exact om_3a97d4a5 p570 h572
                        exact lp394 _ _ v94 I360 L18 v21 v21 v59 v67 v358 hl16 rfl rfl hS361 hL20 c364 c365 c366 c367 e362 (congrArg (tkD gB) (by exact om_4ee7209a)) (by exact om_29f55913 h60) (by exact om_29f55913 h68) (by exact om_9a3ffcce h95) (by exact om_d0ca1ade h95) (by exact om_acd7a85a e52) (by exact om_acd7a85a p84) (by rw [show min v94.toInt.toNat 3 = 0 by exact om_caca7547 h95]; exact Int32.toInt_inj.mp (h359.trans rfl)) (Nat.lt_succ_self _)
                    · skip
                      refine q_if_eq 249 dX12_goesOn_170 (by decide) (fun h595 => ?_) (fun h595 => ?_)
                      · skip
                        refine tr_iload_n dX12_goesOn_249 rfl ?_
                        refine q_bipush dX12_goesOn_250 (by decide +kernel) ?_
                        intro v596 h597
                        refine q_icmp_eq 261 dX12_goesOn_252 (by decide) (fun h598 => ?_) (fun h598 => ?_)
                        · skip
                          refine tr_aload_n dX12_goesOn_261 hl16 ?_
                          refine q_iconst dX12_goesOn_262 (by decide) ?_
                          intro v599 h600
                          refine q_putI dX12_goesOn_263 fl12_99 (kR15 hS70.1 ta0) (Or.inl rfl) hS70 ta0 (by show (0 : Int) ≤ v599.toInt ∧ v599.toInt ≤ (5 : Int); exact om_72a63b95 h600) rfl (by decide +kernel) ?_
                          intro I601 hS602 e603 f604
                          have c605 : I601 a0 8 = v21 := (f604 _ _ (fun q => absurd q.2 (by decide))).trans c73
                          have c606 : I601 a0 10 = v21 := (f604 _ _ (fun q => absurd q.2 (by decide))).trans c74
                          have c607 : I601 a0 11 = v67 := (f604 _ _ (fun q => absurd q.2 (by decide))).trans e71
                          refine tr_aload_n dX12_goesOn_266 hl16 ?_
                          refine tr_iload_n dX12_goesOn_267 rfl ?_
                          refine q_putI dX12_goesOn_268 fl12_111 (kR15 hS602.1 ta0) (Or.inl rfl) hS602 ta0 (iokF rfl) rfl (by decide +kernel) ?_
                          intro I608 hS609 e610 f611
                          have c612 : I608 a0 8 = v21 := (f611 _ _ (fun q => absurd q.2 (by decide))).trans c605
                          have c613 : I608 a0 10 = v21 := (f611 _ _ (fun q => absurd q.2 (by decide))).trans c606
                          have c614 : I608 a0 9 = v599 := (f611 _ _ (fun q => absurd q.2 (by decide))).trans e603
                          refine tr_aload_n dX12_goesOn_271 hl16 ?_
                          refine tr_dup dX12_goesOn_272 rfl ?_
                          refine q_getI dX12_goesOn_273 fl12_102 (kR15 hS609.1 ta0) c612 ?_
                          refine q_iconst dX12_goesOn_276 (by decide) ?_
                          intro v615 h616
                          refine q_iaddE dX12_goesOn_277 (by intro j1 j2 j3 j4; exact om_c7cba203 b7.2 b7.1 b29.2 b29.1 p38 h616) ?_
                          intro v617 h618
                          refine q_putI dX12_goesOn_278 fl12_102 (kR15 hS609.1 ta0) (Or.inl rfl) hS609 ta0 (by show (0 : Int) ≤ v617.toInt ∧ v617.toInt ≤ (900 : Int); exact om_2221b2eb b7.2 b7.1 b29.2 b29.1 p38 h616 h618) rfl (by decide +kernel) ?_
                          intro I619 hS620 e621 f622
                          have c623 : I619 a0 10 = v21 := (f622 _ _ (fun q => absurd q.2 (by decide))).trans c613
                          have c624 : I619 a0 9 = v599 := (f622 _ _ (fun q => absurd q.2 (by decide))).trans c614
                          have c625 : I619 a0 11 = v81 := (f622 _ _ (fun q => absurd q.2 (by decide))).trans e610
                          have e626 : tkS gB gp = v21.toInt := by exact om_acd7a85a e52
                          have hK627 : tkK gB gp = 3 := by simp only [tkK, e626]; exact om_2ba46302 p8 p38 p84 h597 h598 h616 h618
                          have hK627m := tkM_K0 hK627
                          simp only [↓reduceIte, Int.reduceEq] at hK627m
                          have hK627n : tkN gB gp = v617.toInt := by simp only [tkN, e626]; exact om_4a09f9f6 p8 p38 p84 h597 h598 h616 h618
                          obtain ⟨y628, c629⟩ : ∃ v, L18 a0 15 = v := ⟨_, rfl⟩
                          obtain ⟨v630, c631⟩ : ∃ v, I619 a0 12 = v := ⟨_, rfl⟩
                          exact tr_vret hZ dX12_goesOn_281 rfl (by decide) (by decide) ⟨rfl, rfl, rfl, rfl, rfl, hS620, hL20, (by (try rw [c624]); first | done | with_reducible assumption | exact om_46d5da87 h600 hK627m.1), (by (try rw [c624]); first | done | with_reducible assumption | exact om_fd11b040 h600), (by (try rw [c623]); first | done | with_reducible assumption | exact om_7847aadf e52), (by (try rw [c625]); first | done | with_reducible assumption | exact om_43f35c22 h597 h598 hK627m.2), (by (try rw [c629]); intro z; exact om_b55070d0 hK627 z), (by (try rw [c631]); intro z; exact om_015533ca hK627 z), (by (try rw [e621]); intro z; exact om_7847aadf hK627n), trivial⟩
                        · skip
                          refine tr_iload_n dX12_goesOn_255 rfl ?_
                          refine q_bipush dX12_goesOn_256 (by decide +kernel) ?_
                          intro v632 h633
                          refine q_icmp_ne 281 dX12_goesOn_258 (by decide) (fun h634 => ?_) (fun h634 => ?_)
                          · skip
                            have e635 : tkS gB gp = v21.toInt := by exact om_acd7a85a e52
                            have hK636 : tkK gB gp = 5 := by simp only [tkK, e635]; exact om_22a0c64b p8 p38 p39 p40 p41 p84 p111 p356 h597 h598 h633 h634
                            have hK636m := tkM_K0 hK636
                            simp only [↓reduceIte, Int.reduceEq] at hK636m
                            obtain ⟨y637, c638⟩ : ∃ v, L18 a0 15 = v := ⟨_, rfl⟩
                            obtain ⟨v639, c640⟩ : ∃ v, I69 a0 12 = v := ⟨_, rfl⟩
                            exact tr_vret hZ dX12_goesOn_281 rfl (by decide) (by decide) ⟨rfl, rfl, rfl, rfl, rfl, hS70, hL20, (by (try rw [c75]); first | done | with_reducible assumption | exact om_5bac22bd h60 hK636m.1), (by (try rw [c75]); first | done | with_reducible assumption | exact om_d83c346d h60), (by (try rw [c74]); first | done | with_reducible assumption | exact om_7847aadf e52), (by (try rw [e71]); first | done | with_reducible assumption | exact om_5bac22bd h68 hK636m.2), (by (try rw [c638]); intro z; exact om_46e278db hK636 z), (by (try rw [c640]); intro z; exact om_f6992ea5 hK636 z), (by (try rw [c73]); intro z; exact om_c4231424 hK636 z), trivial⟩
                          · skip
                            refine tr_aload_n dX12_goesOn_261 hl16 ?_
                            refine q_iconst dX12_goesOn_262 (by decide) ?_
                            intro v641 h642
                            refine q_putI dX12_goesOn_263 fl12_99 (kR15 hS70.1 ta0) (Or.inl rfl) hS70 ta0 (by show (0 : Int) ≤ v641.toInt ∧ v641.toInt ≤ (5 : Int); exact om_72a63b95 h642) rfl (by decide +kernel) ?_
                            intro I643 hS644 e645 f646
                            have c647 : I643 a0 8 = v21 := (f646 _ _ (fun q => absurd q.2 (by decide))).trans c73
                            have c648 : I643 a0 10 = v21 := (f646 _ _ (fun q => absurd q.2 (by decide))).trans c74
                            have c649 : I643 a0 11 = v67 := (f646 _ _ (fun q => absurd q.2 (by decide))).trans e71
                            refine tr_aload_n dX12_goesOn_266 hl16 ?_
                            refine tr_iload_n dX12_goesOn_267 rfl ?_
                            refine q_putI dX12_goesOn_268 fl12_111 (kR15 hS644.1 ta0) (Or.inl rfl) hS644 ta0 (iokF rfl) rfl (by decide +kernel) ?_
                            intro I650 hS651 e652 f653
                            have c654 : I650 a0 8 = v21 := (f653 _ _ (fun q => absurd q.2 (by decide))).trans c647
                            have c655 : I650 a0 10 = v21 := (f653 _ _ (fun q => absurd q.2 (by decide))).trans c648
                            have c656 : I650 a0 9 = v641 := (f653 _ _ (fun q => absurd q.2 (by decide))).trans e645
                            refine tr_aload_n dX12_goesOn_271 hl16 ?_
                            refine tr_dup dX12_goesOn_272 rfl ?_
                            refine q_getI dX12_goesOn_273 fl12_102 (kR15 hS651.1 ta0) c654 ?_
                            refine q_iconst dX12_goesOn_276 (by decide) ?_
                            intro v657 h658
                            refine q_iaddE dX12_goesOn_277 (by intro j1 j2 j3 j4; exact om_c7cba203 b7.2 b7.1 b29.2 b29.1 p38 h658) ?_
                            intro v659 h660
                            refine q_putI dX12_goesOn_278 fl12_102 (kR15 hS651.1 ta0) (Or.inl rfl) hS651 ta0 (by show (0 : Int) ≤ v659.toInt ∧ v659.toInt ≤ (900 : Int); exact om_2221b2eb b7.2 b7.1 b29.2 b29.1 p38 h658 h660) rfl (by decide +kernel) ?_
                            intro I661 hS662 e663 f664
                            have c665 : I661 a0 10 = v21 := (f664 _ _ (fun q => absurd q.2 (by decide))).trans c655
                            have c666 : I661 a0 9 = v641 := (f664 _ _ (fun q => absurd q.2 (by decide))).trans c656
                            have c667 : I661 a0 11 = v81 := (f664 _ _ (fun q => absurd q.2 (by decide))).trans e652
                            have e668 : tkS gB gp = v21.toInt := by exact om_acd7a85a e52
                            have hK669 : tkK gB gp = 4 := by simp only [tkK, e668]; exact om_34fbf4ba p8 p38 p84 h633 h634 h658 h660
                            have hK669m := tkM_K0 hK669
                            simp only [↓reduceIte, Int.reduceEq] at hK669m
                            have hK669n : tkN gB gp = v659.toInt := by simp only [tkN, e668]; exact om_815758ac p8 p38 p84 h633 h634 h658 h660
                            obtain ⟨y670, c671⟩ : ∃ v, L18 a0 15 = v := ⟨_, rfl⟩
                            obtain ⟨v672, c673⟩ : ∃ v, I661 a0 12 = v := ⟨_, rfl⟩
                            exact tr_vret hZ dX12_goesOn_281 rfl (by decide) (by decide) ⟨rfl, rfl, rfl, rfl, rfl, hS662, hL20, (by (try rw [c666]); first | done | with_reducible assumption | exact om_46d5da87 h642 hK669m.1), (by (try rw [c666]); first | done | with_reducible assumption | exact om_fd11b040 h642), (by (try rw [c665]); first | done | with_reducible assumption | exact om_7847aadf e52), (by (try rw [c667]); first | done | with_reducible assumption | exact om_ed6a319c h633 h634 hK669m.2), (by (try rw [c671]); intro z; exact om_370c100d hK669 z), (by (try rw [c673]); intro z; exact om_8dba5fc3 hK669 z), (by (try rw [e663]); intro z; exact om_7847aadf hK669n), trivial⟩
                      · skip
                        exfalso; exact om_3a97d4a5 p355 h595
                  · skip
                    exfalso; exact om_3a97d4a5 p110 h343
              · skip
                exfalso; exact om_624c1348 p39 p40 p41 p84 h97 h98
            · skip
              rw [((hS70.cell ta0 (by decide +kernel)).trans c6)] at p87
              exfalso; exact om_5646cf5c p39 p40 p41 p88
            · skip
              rw [((hS70.cell ta0 (by decide +kernel)).trans c6)] at p91
              exfalso; exact om_1dc1f359 p38 p91
          · skip
            refine tr_aload_n dX12_goesOn_22 hl16 ?_
            refine tr_dup dX12_goesOn_23 rfl ?_
            refine q_getI dX12_goesOn_24 fl12_102 (kR15 hS19.1 ta0) c22 ?_
            refine q_iconst dX12_goesOn_27 (by decide) ?_
            intro v674 h675
            refine q_iaddE dX12_goesOn_28 (by intro j1 j2 j3 j4; exact om_c7cba203 b7.2 b7.1 b29.2 b29.1 p38 h675) ?_
            intro v676 h677
            refine q_putI dX12_goesOn_29 fl12_102 (kR15 hS19.1 ta0) (Or.inl rfl) hS19 ta0 (by show (0 : Int) ≤ v676.toInt ∧ v676.toInt ≤ (900 : Int); exact om_2221b2eb b7.2 b7.1 b29.2 b29.1 p38 h675 h677) rfl (by decide +kernel) ?_
            intro I678 hS679 e680 f681
            have c682 : I678 a0 9 = v23 := (f681 _ _ (fun q => absurd q.2 (by decide))).trans c24
            refine tr_goto 9 dX12_goesOn_32 (by decide) ?_
            exact ih27 _ I678 L18 v676 v23 hl16 hS679 hL20 e680 c682 (by have q := tkS_on (B := gB) (s := v21.toInt) (t := v676.toInt) (by exact om_87d88185 p39 h50 h51) (by exact om_73462c49 h675 h677); exact om_9fa72578 g25 q) (by exact om_67802bd6 g26) (by exact om_41fdf379 b7.2 b7.1 hm27 b29.2 b29.1 p38 h675 h677)
        · skip
          rw [((hS19.cell ta0 (by decide +kernel)).trans c6)] at p42
          refine q_bipush dX12_goesOn_17 (by decide +kernel) ?_
          intro v683 h684
          refine q_icmp_ne 35 dX12_goesOn_19 (by decide) (fun h685 => ?_) (fun h685 => ?_)
          · skip
            have e686 : tkS gB gp = v21.toInt := by have q := tkS_fin (B := gB) (s := v21.toInt) (by exact om_fe89cbf1 p43); exact om_444e8b26 g25 q
            refine tr_aload_n dX12_goesOn_35 hl16 ?_
            refine tr_aload_n dX12_goesOn_36 hl16 ?_
            refine q_getI dX12_goesOn_37 fl12_102 (kR15 hS19.1 ta0) c22 ?_
            refine q_putI dX12_goesOn_40 fl12_108 (kR15 hS19.1 ta0) (Or.inl rfl) hS19 ta0 (by show (0 : Int) ≤ v21.toInt ∧ v21.toInt ≤ (900 : Int); exact om_7caca98d b29) rfl (by decide +kernel) ?_
            intro I687 hS688 e689 f690
            have c691 : I687 a0 8 = v21 := (f690 _ _ (fun q => absurd q.2 (by decide))).trans c22
            have c692 : I687 a0 9 = v23 := (f690 _ _ (fun q => absurd q.2 (by decide))).trans c24
            refine tr_aload_n dX12_goesOn_43 hl16 ?_
            refine q_iconst dX12_goesOn_44 (by decide) ?_
            intro v693 h694
            refine q_putI dX12_goesOn_45 fl12_99 (kR15 hS688.1 ta0) (Or.inl rfl) hS688 ta0 (by show (0 : Int) ≤ v693.toInt ∧ v693.toInt ≤ (5 : Int); exact om_3597b99b h694) rfl (by decide +kernel) ?_
            intro I695 hS696 e697 f698
            have c699 : I695 a0 8 = v21 := (f698 _ _ (fun q => absurd q.2 (by decide))).trans c691
            have c700 : I695 a0 10 = v21 := (f698 _ _ (fun q => absurd q.2 (by decide))).trans e689
            refine tr_aload_n dX12_goesOn_48 hl16 ?_
            refine q_iconst dX12_goesOn_49 (by decide) ?_
            intro v701 h702
            refine q_putI dX12_goesOn_50 fl12_111 (kR15 hS696.1 ta0) (Or.inl rfl) hS696 ta0 (iokF rfl) rfl (by decide +kernel) ?_
            intro I703 hS704 e705 f706
            have c707 : I703 a0 8 = v21 := (f706 _ _ (fun q => absurd q.2 (by decide))).trans c699
            have c708 : I703 a0 10 = v21 := (f706 _ _ (fun q => absurd q.2 (by decide))).trans c700
            have c709 : I703 a0 9 = v693 := (f706 _ _ (fun q => absurd q.2 (by decide))).trans e697
            refine tr_aload_n dX12_goesOn_53 hl16 ?_
            refine tr_aload_n dX12_goesOn_54 hl16 ?_
            refine q_getI dX12_goesOn_55 fl12_102 (kR15 hS704.1 ta0) c707 ?_
            refine q_callVi hE (M' := mX12_byteAt) (as := [_]) dX12_goesOn_58 lk12_105 inX12_byteAt seX12_byteAt myX12_byteAt (by decide) ⟨by decide, by decide⟩ rfl (kR15 hS704.1 ta0) (Nat.le_of_ble_eq_true rfl) rfl rfl (by decide) (by decide) (fk_X12_byteAt hS704.1 (gB) ta0 (by exact om_7caca98d b29) (TxA.kp hT hS704 ta0 rfl rfl rfl (by decide +kernel) (by decide +kernel)) (by (try rw [((hS704.cell ta0 (by decide +kernel)).trans c6)]); first | done | with_reducible assumption | omega)) ?_
            rintro v715 cn' K' N' I710 R711 L712 ⟨rfl, rfl, rfl, rfl, rfl, rfl, dj716, -⟩
            rcases dj716 with ⟨p717, p718, p719, p720, -⟩ | ⟨p721, p722, p723, p724, -⟩ | ⟨p725, p726, p727, -⟩
            · skip
              rw [((hS704.cell ta0 (by decide +kernel)).trans c6)] at p717
              exfalso; exact om_aca2ff31 p43 p718 p719
            · skip
              rw [((hS704.cell ta0 (by decide +kernel)).trans c6)] at p721
              refine tr_istore_n dX12_goesOn_61 (by decide) (by decide) ?_
              refine q_iconst dX12_goesOn_62 (by decide) ?_
              intro v728 h729
              refine tr_istore_n dX12_goesOn_63 (by decide) (by decide) ?_
              refine tr_iload_n dX12_goesOn_64 rfl ?_
              refine q_iconst dX12_goesOn_65 (by decide) ?_
              intro v730 h731
              refine q_icmp_ne 77 dX12_goesOn_66 (by decide) (fun h732 => ?_) (fun h732 => ?_)
              · skip
                refine tr_iload_n dX12_goesOn_77 rfl ?_
                refine q_callSi hE (M' := mX12_isLetter) (as := [_]) dX12_goesOn_78 lk12_114 inX12_isLetter myX12_isLetter ⟨by decide, by decide⟩ rfl (Nat.le_of_ble_eq_true rfl) rfl rfl (by decide) (by decide) (fk_X12_isLetter hS704.1  ) ?_
                rintro v738 cn' K' N' I733 R734 L735 ⟨rfl, rfl, rfl, rfl, rfl, rfl, h739, dj740, -⟩
                rcases dj740 with ⟨p741, p742, p743, -⟩ | ⟨p744, p745, -⟩
                · skip
                  exfalso; exact om_c04c063d p723 p724 p743
                · skip
                  refine q_if_eq 166 dX12_goesOn_81 (by decide) (fun h746 => ?_) (fun h746 => ?_)
                  · skip
                    refine tr_iload_n dX12_goesOn_166 rfl ?_
                    refine q_callSi hE (M' := mX12_isDigit) (as := [_]) dX12_goesOn_167 lk12_122 inX12_isDigit myX12_isDigit ⟨by decide, by decide⟩ rfl (Nat.le_of_ble_eq_true rfl) rfl rfl (by decide) (by decide) (fk_X12_isDigit hS704.1  ) ?_
                    rintro v752 cn' K' N' I747 R748 L749 ⟨rfl, rfl, rfl, rfl, rfl, rfl, h753, dj754, -⟩
                    rcases dj754 with ⟨p755, p756, p757, -⟩ | ⟨p758, p759, -⟩
                    · skip
                      exfalso; exact om_48219b65 p723 p724 p757
                    · skip
                      refine q_if_eq 249 dX12_goesOn_170 (by decide) (fun h760 => ?_) (fun h760 => ?_)
                      · skip
                        refine tr_iload_n dX12_goesOn_249 rfl ?_
                        refine q_bipush dX12_goesOn_250 (by decide +kernel) ?_
                        intro v761 h762
                        refine q_icmp_eq 261 dX12_goesOn_252 (by decide) (fun h763 => ?_) (fun h763 => ?_)
                        · skip
                          exfalso; exact om_d46ffacc p723 p724 h762 h763
                        · skip
                          refine tr_iload_n dX12_goesOn_255 rfl ?_
                          refine q_bipush dX12_goesOn_256 (by decide +kernel) ?_
                          intro v764 h765
                          refine q_icmp_ne 281 dX12_goesOn_258 (by decide) (fun h766 => ?_) (fun h766 => ?_)
                          · skip
                            have e767 : tkS gB gp = v21.toInt := by exact om_acd7a85a e686
                            have hK768 : tkK gB gp = 5 := by simp only [tkK, e767]; exact om_07a6501c p8 p42 p43
                            have hK768m := tkM_K0 hK768
                            simp only [↓reduceIte, Int.reduceEq] at hK768m
                            obtain ⟨y769, c770⟩ : ∃ v, L18 a0 15 = v := ⟨_, rfl⟩
                            obtain ⟨v771, c772⟩ : ∃ v, I703 a0 12 = v := ⟨_, rfl⟩
                            exact tr_vret hZ dX12_goesOn_281 rfl (by decide) (by decide) ⟨rfl, rfl, rfl, rfl, rfl, hS704, hL20, (by (try rw [c709]); first | done | with_reducible assumption | exact om_5bac22bd h694 hK768m.1), (by (try rw [c709]); first | done | with_reducible assumption | exact om_d83c346d h694), (by (try rw [c708]); first | done | with_reducible assumption | exact om_7847aadf e686), (by (try rw [e705]); first | done | with_reducible assumption | exact om_5bac22bd h702 hK768m.2), (by (try rw [c770]); intro z; exact om_46e278db hK768 z), (by (try rw [c772]); intro z; exact om_f6992ea5 hK768 z), (by (try rw [c707]); intro z; exact om_c4231424 hK768 z), trivial⟩
                          · skip
                            exfalso; exact om_e7ec783f p723 p724 h765 h766
                      · skip
                        exfalso; exact om_3a97d4a5 p758 h760
                  · skip
                    exfalso; exact om_3a97d4a5 p744 h746
              · skip
                exfalso; exact om_48eb08e2 p723 p724 h731 h732
            · skip
              rw [((hS704.cell ta0 (by decide +kernel)).trans c6)] at p725
              refine tr_istore_n dX12_goesOn_61 (by decide) (by decide) ?_
              refine q_iconst dX12_goesOn_62 (by decide) ?_
              intro v773 h774
              refine tr_istore_n dX12_goesOn_63 (by decide) (by decide) ?_
              refine tr_iload_n dX12_goesOn_64 rfl ?_
              refine q_iconst dX12_goesOn_65 (by decide) ?_
              intro v775 h776
              refine q_icmp_ne 77 dX12_goesOn_66 (by decide) (fun h777 => ?_) (fun h777 => ?_)
              · skip
                exfalso; exact om_1dc1f359 p42 p725
              · skip
                refine tr_aload_n dX12_goesOn_69 hl16 ?_
                refine q_iconst dX12_goesOn_70 (by decide) ?_
                intro v778 h779
                refine q_putI dX12_goesOn_71 fl12_99 (kR15 hS704.1 ta0) (Or.inl rfl) hS704 ta0 (by show (0 : Int) ≤ v778.toInt ∧ v778.toInt ≤ (5 : Int); exact om_718e5c50 p42 p725) rfl (by decide +kernel) ?_
                intro I780 hS781 e782 f783
                have c784 : I780 a0 8 = v21 := (f783 _ _ (fun q => absurd q.2 (by decide))).trans c707
                have c785 : I780 a0 10 = v21 := (f783 _ _ (fun q => absurd q.2 (by decide))).trans c708
                have c786 : I780 a0 11 = v701 := (f783 _ _ (fun q => absurd q.2 (by decide))).trans e705
                refine tr_goto 281 dX12_goesOn_74 (by decide) ?_
                have e787 : tkS gB gp = v21.toInt := by exact om_acd7a85a e686
                have hK788 : tkK gB gp = 0 := by simp only [tkK, e787]; exact om_cda10c05 p42 p725
                have hK788m := tkM_K0 hK788
                simp only [↓reduceIte, Int.reduceEq] at hK788m
                have hK788n : tkN gB gp = v21.toInt := by simp only [tkN, e787]; exact om_70265ebc p42 p725
                obtain ⟨y789, c790⟩ : ∃ v, L18 a0 15 = v := ⟨_, rfl⟩
                obtain ⟨v791, c792⟩ : ∃ v, I780 a0 12 = v := ⟨_, rfl⟩
                exact tr_vret hZ dX12_goesOn_281 rfl (by decide) (by decide) ⟨rfl, rfl, rfl, rfl, rfl, hS781, hL20, (by (try rw [e782]); first | done | with_reducible assumption | exact om_93db6dd5 p42 p725), (by (try rw [e782]); first | done | with_reducible assumption | exact om_a6815f2f p42 p725), (by (try rw [c785]); first | done | with_reducible assumption | exact om_29966858 p42 p725), (by (try rw [c786]); first | done | with_reducible assumption | exact om_93db6dd5 p42 p725), (by (try rw [c790]); intro z; exact om_93db6dd5 p42 p725), (by (try rw [c792]); intro z; exact om_93db6dd5 p42 p725), (by (try rw [c784]); intro z; exact om_29966858 p42 p725), trivial⟩
          · skip
            exfalso; exact om_53e4a3ff p44 p45 h684 h685
        · skip
          rw [((hS19.cell ta0 (by decide +kernel)).trans c6)] at p46
          refine q_bipush dX12_goesOn_17 (by decide +kernel) ?_
          intro v793 h794
          refine q_icmp_ne 35 dX12_goesOn_19 (by decide) (fun h795 => ?_) (fun h795 => ?_)
          · skip
            have e796 : tkS gB gp = v21.toInt := by have q := tkS_fin (B := gB) (s := v21.toInt) (by exact om_66fc32c9 p8 p46); exact om_444e8b26 g25 q
            refine tr_aload_n dX12_goesOn_35 hl16 ?_
            refine tr_aload_n dX12_goesOn_36 hl16 ?_
            refine q_getI dX12_goesOn_37 fl12_102 (kR15 hS19.1 ta0) c22 ?_
            refine q_putI dX12_goesOn_40 fl12_108 (kR15 hS19.1 ta0) (Or.inl rfl) hS19 ta0 (by show (0 : Int) ≤ v21.toInt ∧ v21.toInt ≤ (900 : Int); exact om_7caca98d b29) rfl (by decide +kernel) ?_
            intro I797 hS798 e799 f800
            have c801 : I797 a0 8 = v21 := (f800 _ _ (fun q => absurd q.2 (by decide))).trans c22
            have c802 : I797 a0 9 = v23 := (f800 _ _ (fun q => absurd q.2 (by decide))).trans c24
            refine tr_aload_n dX12_goesOn_43 hl16 ?_
            refine q_iconst dX12_goesOn_44 (by decide) ?_
            intro v803 h804
            refine q_putI dX12_goesOn_45 fl12_99 (kR15 hS798.1 ta0) (Or.inl rfl) hS798 ta0 (by show (0 : Int) ≤ v803.toInt ∧ v803.toInt ≤ (5 : Int); exact om_3597b99b h804) rfl (by decide +kernel) ?_
            intro I805 hS806 e807 f808
            have c809 : I805 a0 8 = v21 := (f808 _ _ (fun q => absurd q.2 (by decide))).trans c801
            have c810 : I805 a0 10 = v21 := (f808 _ _ (fun q => absurd q.2 (by decide))).trans e799
            refine tr_aload_n dX12_goesOn_48 hl16 ?_
            refine q_iconst dX12_goesOn_49 (by decide) ?_
            intro v811 h812
            refine q_putI dX12_goesOn_50 fl12_111 (kR15 hS806.1 ta0) (Or.inl rfl) hS806 ta0 (iokF rfl) rfl (by decide +kernel) ?_
            intro I813 hS814 e815 f816
            have c817 : I813 a0 8 = v21 := (f816 _ _ (fun q => absurd q.2 (by decide))).trans c809
            have c818 : I813 a0 10 = v21 := (f816 _ _ (fun q => absurd q.2 (by decide))).trans c810
            have c819 : I813 a0 9 = v803 := (f816 _ _ (fun q => absurd q.2 (by decide))).trans e807
            refine tr_aload_n dX12_goesOn_53 hl16 ?_
            refine tr_aload_n dX12_goesOn_54 hl16 ?_
            refine q_getI dX12_goesOn_55 fl12_102 (kR15 hS814.1 ta0) c817 ?_
            refine q_callVi hE (M' := mX12_byteAt) (as := [_]) dX12_goesOn_58 lk12_105 inX12_byteAt seX12_byteAt myX12_byteAt (by decide) ⟨by decide, by decide⟩ rfl (kR15 hS814.1 ta0) (Nat.le_of_ble_eq_true rfl) rfl rfl (by decide) (by decide) (fk_X12_byteAt hS814.1 (gB) ta0 (by exact om_7caca98d b29) (TxA.kp hT hS814 ta0 rfl rfl rfl (by decide +kernel) (by decide +kernel)) (by (try rw [((hS814.cell ta0 (by decide +kernel)).trans c6)]); first | done | with_reducible assumption | omega)) ?_
            rintro v825 cn' K' N' I820 R821 L822 ⟨rfl, rfl, rfl, rfl, rfl, rfl, dj826, -⟩
            rcases dj826 with ⟨p827, p828, p829, p830, -⟩ | ⟨p831, p832, p833, p834, -⟩ | ⟨p835, p836, p837, -⟩
            · skip
              rw [((hS814.cell ta0 (by decide +kernel)).trans c6)] at p827
              exfalso; exact om_f756c497 p46 p827
            · skip
              rw [((hS814.cell ta0 (by decide +kernel)).trans c6)] at p831
              refine tr_istore_n dX12_goesOn_61 (by decide) (by decide) ?_
              refine q_iconst dX12_goesOn_62 (by decide) ?_
              intro v838 h839
              refine tr_istore_n dX12_goesOn_63 (by decide) (by decide) ?_
              refine tr_iload_n dX12_goesOn_64 rfl ?_
              refine q_iconst dX12_goesOn_65 (by decide) ?_
              intro v840 h841
              refine q_icmp_ne 77 dX12_goesOn_66 (by decide) (fun h842 => ?_) (fun h842 => ?_)
              · skip
                refine tr_iload_n dX12_goesOn_77 rfl ?_
                refine q_callSi hE (M' := mX12_isLetter) (as := [_]) dX12_goesOn_78 lk12_114 inX12_isLetter myX12_isLetter ⟨by decide, by decide⟩ rfl (Nat.le_of_ble_eq_true rfl) rfl rfl (by decide) (by decide) (fk_X12_isLetter hS814.1  ) ?_
                rintro v848 cn' K' N' I843 R844 L845 ⟨rfl, rfl, rfl, rfl, rfl, rfl, h849, dj850, -⟩
                rcases dj850 with ⟨p851, p852, p853, -⟩ | ⟨p854, p855, -⟩
                · skip
                  exfalso; exact om_f756c497 p46 p831
                · skip
                  refine q_if_eq 166 dX12_goesOn_81 (by decide) (fun h856 => ?_) (fun h856 => ?_)
                  · skip
                    refine tr_iload_n dX12_goesOn_166 rfl ?_
                    refine q_callSi hE (M' := mX12_isDigit) (as := [_]) dX12_goesOn_167 lk12_122 inX12_isDigit myX12_isDigit ⟨by decide, by decide⟩ rfl (Nat.le_of_ble_eq_true rfl) rfl rfl (by decide) (by decide) (fk_X12_isDigit hS814.1  ) ?_
                    rintro v862 cn' K' N' I857 R858 L859 ⟨rfl, rfl, rfl, rfl, rfl, rfl, h863, dj864, -⟩
                    rcases dj864 with ⟨p865, p866, p867, -⟩ | ⟨p868, p869, -⟩
                    · skip
                      exfalso; exact om_f756c497 p46 p831
                    · skip
                      refine q_if_eq 249 dX12_goesOn_170 (by decide) (fun h870 => ?_) (fun h870 => ?_)
                      · skip
                        refine tr_iload_n dX12_goesOn_249 rfl ?_
                        refine q_bipush dX12_goesOn_250 (by decide +kernel) ?_
                        intro v871 h872
                        refine q_icmp_eq 261 dX12_goesOn_252 (by decide) (fun h873 => ?_) (fun h873 => ?_)
                        · skip
                          exfalso; exact om_f756c497 p46 p831
                        · skip
                          refine tr_iload_n dX12_goesOn_255 rfl ?_
                          refine q_bipush dX12_goesOn_256 (by decide +kernel) ?_
                          intro v874 h875
                          refine q_icmp_ne 281 dX12_goesOn_258 (by decide) (fun h876 => ?_) (fun h876 => ?_)
                          · skip
                            have e877 : tkS gB gp = v21.toInt := by exact om_acd7a85a e796
                            have hK878 : tkK gB gp = 5 := by simp only [tkK, e877]; exact om_c9968175 p46 p831
                            have hK878m := tkM_K0 hK878
                            simp only [↓reduceIte, Int.reduceEq] at hK878m
                            obtain ⟨y879, c880⟩ : ∃ v, L18 a0 15 = v := ⟨_, rfl⟩
                            obtain ⟨v881, c882⟩ : ∃ v, I813 a0 12 = v := ⟨_, rfl⟩
                            exact tr_vret hZ dX12_goesOn_281 rfl (by decide) (by decide) ⟨rfl, rfl, rfl, rfl, rfl, hS814, hL20, (by (try rw [c819]); first | done | with_reducible assumption | exact om_c9a9ecdf p46 p831), (by (try rw [c819]); first | done | with_reducible assumption | exact om_9aba5368 p46 p831), (by (try rw [c818]); first | done | with_reducible assumption | exact om_e9a7b170 p46 p831), (by (try rw [e815]); first | done | with_reducible assumption | exact om_c9a9ecdf p46 p831), (by (try rw [c880]); intro z; exact om_c9a9ecdf p46 p831), (by (try rw [c882]); intro z; exact om_c9a9ecdf p46 p831), (by (try rw [c817]); intro z; exact om_e9a7b170 p46 p831), trivial⟩
                          · skip
                            exfalso; exact om_f756c497 p46 p831
                      · skip
                        exfalso; exact om_f756c497 p46 p831
                  · skip
                    exfalso; exact om_f756c497 p46 p831
              · skip
                exfalso; exact om_f756c497 p46 p831
            · skip
              rw [((hS814.cell ta0 (by decide +kernel)).trans c6)] at p835
              refine tr_istore_n dX12_goesOn_61 (by decide) (by decide) ?_
              refine q_iconst dX12_goesOn_62 (by decide) ?_
              intro v883 h884
              refine tr_istore_n dX12_goesOn_63 (by decide) (by decide) ?_
              refine tr_iload_n dX12_goesOn_64 rfl ?_
              refine q_iconst dX12_goesOn_65 (by decide) ?_
              intro v885 h886
              refine q_icmp_ne 77 dX12_goesOn_66 (by decide) (fun h887 => ?_) (fun h887 => ?_)
              · skip
                exfalso; exact om_51c27872 p836 h886 h887
              · skip
                refine tr_aload_n dX12_goesOn_69 hl16 ?_
                refine q_iconst dX12_goesOn_70 (by decide) ?_
                intro v888 h889
                refine q_putI dX12_goesOn_71 fl12_99 (kR15 hS814.1 ta0) (Or.inl rfl) hS814 ta0 (by show (0 : Int) ≤ v888.toInt ∧ v888.toInt ≤ (5 : Int); exact om_5c756936 h889) rfl (by decide +kernel) ?_
                intro I890 hS891 e892 f893
                have c894 : I890 a0 8 = v21 := (f893 _ _ (fun q => absurd q.2 (by decide))).trans c817
                have c895 : I890 a0 10 = v21 := (f893 _ _ (fun q => absurd q.2 (by decide))).trans c818
                have c896 : I890 a0 11 = v811 := (f893 _ _ (fun q => absurd q.2 (by decide))).trans e815
                refine tr_goto 281 dX12_goesOn_74 (by decide) ?_
                have e897 : tkS gB gp = v21.toInt := by exact om_acd7a85a e796
                have hK898 : tkK gB gp = 0 := by simp only [tkK, e897]; exact om_611696d0 p8 p46
                have hK898m := tkM_K0 hK898
                simp only [↓reduceIte, Int.reduceEq] at hK898m
                have hK898n : tkN gB gp = v21.toInt := by simp only [tkN, e897]; exact om_26a4f452 p8 p46
                obtain ⟨y899, c900⟩ : ∃ v, L18 a0 15 = v := ⟨_, rfl⟩
                obtain ⟨v901, c902⟩ : ∃ v, I890 a0 12 = v := ⟨_, rfl⟩
                exact tr_vret hZ dX12_goesOn_281 rfl (by decide) (by decide) ⟨rfl, rfl, rfl, rfl, rfl, hS891, hL20, (by (try rw [e892]); first | done | with_reducible assumption | exact om_3345b898 h889 hK898m.1), (by (try rw [e892]); first | done | with_reducible assumption | exact om_5ed31fd8 h889), (by (try rw [c895]); first | done | with_reducible assumption | exact om_7847aadf e796), (by (try rw [c896]); first | done | with_reducible assumption | exact om_5bac22bd h812 hK898m.2), (by (try rw [c900]); intro z; exact om_bed47c5d hK898 z), (by (try rw [c902]); intro z; exact om_341ab953 hK898 z), (by (try rw [c894]); intro z; exact om_7847aadf hK898n), trivial⟩
          · skip
            exfalso; exact om_a3658ed3 p47 h794 h795
    exact lp27 _ _ I0 L0 v1 v9 rfl hS0 hL0 c2 c10 (congrArg (tkS gB) (by exact om_acd7a85a p4)) (by exact om_67802bd6 p12) (Nat.lt_succ_self _)
  · skip
    exfalso; exact om_13ec4a14 p12 h14 h15
