set_option maxHeartbeats 4000000 in
theorem fk_X7_seesName {l : Launch} {T : Nat → Nat} {cn : Nat} {K N : Nat → Nat} {I0 : cz_I} {R0 : cz_R} {L0 : cz_L} {d : Int} (hW0 : Wf T cn K N I0 R0 d) (gB : cz_B) (gs : Int) {a0 : Nat} (ta0 : T a0 = 7) (pre0 : (I0 a0 3).toInt = (tkK gB gs)) (pre1 : (AtW ((tkK gB gs)) ((L0 a0 5).toInt) ((tkW gB gs)))) : ConE l mX7_seesName [.ref a0] cn K N I0 R0 L0 (ca_i (fun v cn' K' N' I' R' L' => cn = cn' ∧ K = K' ∧ N = N' ∧ I0 = I' ∧ R0 = R' ∧ L0 = L' ∧ (0 ≤ v.toInt ∧ v.toInt ≤ 1) ∧ (((v.toInt = 1) ∧ ((isN gB gs) = 1) ∧ ((tkK gB gs) = 1) ∧ True) ∨ ((v.toInt = 0) ∧ ((isN gB gs) ≠ 1) ∧ True)) ∧ True)) := by
  refine ConE.of (by decide +kernel) rfl (Nat.le_of_ble_eq_true rfl) rfl (fun X hX hZ hE => ?_)
  subst hX
  obtain ⟨v1, c2⟩ : ∃ v, I0 a0 3 = v := ⟨_, rfl⟩
  have b3 := iv7_3 hW0 ta0 c2
  have p4 := pre0
  rw [c2] at p4
  obtain ⟨y5, c6⟩ : ∃ v, L0 a0 5 = v := ⟨_, rfl⟩
  have p7 := pre1
  rw [c6] at p7
  refine tr_aload_n dX7_seesName_0 rfl ?_
  refine q_getI dX7_seesName_1 fl7_58 (kR7 hW0 ta0) c2 ?_
  refine q_iconst dX7_seesName_4 (by decide) ?_
  intro v8 h9
  refine q_icmp_ne 29 dX7_seesName_5 (by decide) (fun h10 => ?_) (fun h10 => ?_)
  · skip
    refine q_iconst dX7_seesName_29 (by decide) ?_
    intro v11 h12
    exact tr_zret hZ dX7_seesName_30 rfl (ti_b01 (by exact om_d99fa9e4 h12) (by exact om_d3de7ec9 h12)) (by decide) (by decide) ⟨v11, rfl, rfl, rfl, rfl, rfl, rfl, rfl, (by exact om_3b50ecb9 h12), (Or.inr (⟨(by first | done | with_reducible assumption | omega), (by first | done | with_reducible assumption | fail | (exact om_3e7744e8 p4 h9 h10)), trivial⟩)), trivial⟩
  · skip
    refine tr_aload_n dX7_seesName_8 rfl ?_
    refine tr_ldcS dX7_seesName_9 ld7_238 ?_
    refine q_callVi hE (M' := mX7_seesWord) (as := [_]) dX7_seesName_11 lk7_101 inX7_seesWord seX7_seesWord myX7_seesWord (by decide) ⟨by decide, by decide⟩ rfl (kR7 hW0 ta0) (Nat.le_of_ble_eq_true rfl) rfl rfl (by decide) (by decide) (fk_X7_seesWord hW0 (gB) (gs) ta0 (by decide) (by (try rw [c2]); first | done | with_reducible assumption | omega) (by (try rw [c6]); first | done | assumption)) ?_
    rintro v18 cn' K' N' I13 R14 L15 ⟨rfl, rfl, rfl, rfl, rfl, rfl, h19, dj20, -⟩
    (try rw [pk_10] at dj20)
    rcases dj20 with ⟨p21, p22, p23, -⟩ | ⟨p24, p25, -⟩
    · skip
      refine q_if_ne 29 dX7_seesName_14 (by decide) (fun h26 => ?_) (fun h26 => ?_)
      · skip
        refine q_iconst dX7_seesName_29 (by decide) ?_
        intro v27 h28
        exact tr_zret hZ dX7_seesName_30 rfl (ti_b01 (by exact om_d99fa9e4 h28) (by exact om_d3de7ec9 h28)) (by decide) (by decide) ⟨v27, rfl, rfl, rfl, rfl, rfl, rfl, rfl, (by exact om_3b50ecb9 h28), (Or.inr (⟨(by first | done | with_reducible assumption | omega), (by first | done | with_reducible assumption | fail | (exact om_34551aba p23)), trivial⟩)), trivial⟩
      · skip
        exfalso; exact om_3624102b p21 h26
    · skip
      refine q_if_ne 29 dX7_seesName_14 (by decide) (fun h29 => ?_) (fun h29 => ?_)
      · skip
        exfalso; exact om_3a97d4a5 p24 h29
      · skip
        refine tr_aload_n dX7_seesName_17 rfl ?_
        refine q_callVi hE (M' := mX7_sortOfWord) (as := []) dX7_seesName_18 lk7_168 inX7_sortOfWord seX7_sortOfWord myX7_sortOfWord (by decide) ⟨by decide, by decide⟩ rfl (kR7 hW0 ta0) (Nat.le_of_ble_eq_true rfl) rfl rfl (by decide) (by decide) (fk_X7_sortOfWord hW0 (gB) (gs) ta0 (by (try rw [c2]); first | done | with_reducible assumption | omega) (by (try rw [c6]); first | done | assumption)) ?_
        rintro v35 cn' K' N' I30 R31 L32 ⟨rfl, rfl, rfl, rfl, rfl, rfl, h36, p37, -⟩
        refine q_iconst dX7_seesName_21 (by decide) ?_
        intro v38 h39
        refine q_icmp_ne 29 dX7_seesName_22 (by decide) (fun h40 => ?_) (fun h40 => ?_)
        · skip
          refine q_iconst dX7_seesName_29 (by decide) ?_
          intro v41 h42
          exact tr_zret hZ dX7_seesName_30 rfl (ti_b01 (by exact om_d99fa9e4 h42) (by exact om_d3de7ec9 h42)) (by decide) (by decide) ⟨v41, rfl, rfl, rfl, rfl, rfl, rfl, rfl, (by exact om_3b50ecb9 h42), (Or.inr (⟨(by first | done | with_reducible assumption | omega), (by first | done | with_reducible assumption | fail | (exact om_a0035c5e p37 h39 h40)), trivial⟩)), trivial⟩
        · skip
          refine q_iconst dX7_seesName_25 (by decide) ?_
          intro v43 h44
          refine tr_goto 30 dX7_seesName_26 (by decide) ?_
          exact tr_zret hZ dX7_seesName_30 rfl (ti_b01 (by exact om_f9079521 h44) (by exact om_e6632817 h44)) (by decide) (by decide) ⟨v43, rfl, rfl, rfl, rfl, rfl, rfl, rfl, (by exact om_d753bc65 h44), (Or.inl ⟨(by first | done | with_reducible assumption | omega), (by first | done | with_reducible assumption | fail | (exact om_c05398b2 p4 h9 h10 p25 p37 h39 h40)), (by first | done | with_reducible assumption | exact om_94131590 p4 h9 h10), trivial⟩), trivial⟩
set_option maxHeartbeats 4000000 in
theorem fk_X7_isToldCheese {l : Launch} {T : Nat → Nat} {cn : Nat} {K N : Nat → Nat} {I0 : cz_I} {R0 : cz_R} {L0 : cz_L} {d : Int} (hW0 : Wf T cn K N I0 R0 d) (gw : Int) (gQ : Nat → Int) {a0 : Nat} (ta0 : T a0 = 7) (hN : NmC L0 R0 a0 gQ) (pre0 : (L0 a0 5).toInt = (gw)) (pre1 : ∀ b1, R0 a0 10 = some b1 → (I0 b1 5).toInt = (gQ 3)) : ConE l mX7_isToldCheese [.ref a0] cn K N I0 R0 L0 (ca_i (fun v cn' K' N' I' R' L' => cn = cn' ∧ K = K' ∧ N = N' ∧ I0 = I' ∧ R0 = R' ∧ L0 = L' ∧ (0 ≤ v.toInt ∧ v.toInt ≤ 1) ∧ (((v.toInt = 1) ∧ ((nmI gQ 100 (gQ 3) gw) ≥ 0) ∧ True) ∨ ((v.toInt = 0) ∧ ((nmI gQ 100 (gQ 3) gw) = -1) ∧ True)) ∧ True)) := by
  refine ConE.of (by decide +kernel) rfl (Nat.le_of_ble_eq_true rfl) rfl (fun X hX hZ hE => ?_)
  subst hX
  obtain ⟨y1, c2⟩ : ∃ v, L0 a0 5 = v := ⟨_, rfl⟩
  have p3 := pre0
  rw [c2] at p3
  obtain ⟨a4, d5, ta4⟩ := rf7_10 hW0 ta0
  obtain ⟨v6, c7⟩ : ∃ v, I0 a4 5 = v := ⟨_, rfl⟩
  have b8 := iv2_5 hW0 ta4 c7
  have p9 := pre1 _ d5
  rw [c7] at p9
  refine q_iconst dX7_isToldCheese_0 (by decide) ?_
  intro v10 h11
  refine tr_istore_n dX7_isToldCheese_1 (by decide) (by decide) ?_
  have lp18 : ∀ (fu : Nat) (ls : Nat → Option Value) (v12 : Int32), ls 0 = some (.ref a0) → ls 1 = some (.int v12) → NmC L0 R0 a0 gQ → 0 ≤ v12.toInt → (nmF gQ 100 gw (gQ 3 - v12.toInt).toNat v12.toInt.toNat) = (nmI gQ 100 (gQ 3) gw) → (-v12.toInt + 2147483647).toNat < fu → Tr X mX7_isToldCheese 2 ls [] cn K N I0 R0 L0 0 0 := by
    intro fu
    induction fu with
    | zero => intros; rename_i hz; exact absurd hz (Nat.not_lt_zero _)
    | succ fu ih18 =>
      intro ls v12 hl13 hl14 hN15 g16 g17 hm18
      refine tr_iload_n dX7_isToldCheese_2 hl14 ?_
      refine tr_aload_n dX7_isToldCheese_3 hl13 ?_
      refine tr_getR dX7_isToldCheese_4 fl7_22 (kR7 hW0 ta0) d5 ?_
      refine q_getI dX7_isToldCheese_7 fl7_61 (kR2 hW0 ta4) c7 ?_
      refine q_icmp_ge 35 dX7_isToldCheese_10 (by decide) (fun h20 => ?_) (fun h20 => ?_)
      · skip
        refine q_iconst dX7_isToldCheese_35 (by decide) ?_
        intro v21 h22
        have nz := nm_end (Q := gQ) (b := 100) (w := gw) (n := gQ 3) (v := v12.toInt) (by exact om_7865fadd p9 h20)
        exact tr_zret hZ dX7_isToldCheese_36 rfl (ti_b01 (by exact om_d99fa9e4 h22) (by exact om_d3de7ec9 h22)) (by decide) (by decide) ⟨v21, rfl, rfl, rfl, rfl, rfl, rfl, rfl, (by exact om_3b50ecb9 h22), (Or.inr (⟨(by first | done | with_reducible assumption | omega), (by first | done | with_reducible assumption | exact om_a7e23df9 g17 nz), trivial⟩)), trivial⟩
      · skip
        refine tr_aload_n dX7_isToldCheese_13 hl13 ?_
        obtain ⟨a23, d24, ta23⟩ := rf7_13 hW0 ta0
        refine tr_getR dX7_isToldCheese_14 fl7_9 (kR7 hW0 ta0) d24 ?_
        refine tr_iload_n dX7_isToldCheese_17 hl14 ?_
        refine q_laldE dX7_isToldCheese_18 (kR25 hW0 ta23) (ti_in (nR25 hW0 ta23) (by exact om_2cfcd5a5 g16) (by exact om_7f906f13 b8.2 b8.1 p9 h20)) ?_
        intro y25 c26
        have p27 := hN15.1 _ d24 v12.toNatClampNeg (by have q := ti_nat (i := v12) (by exact om_2cfcd5a5 g16); exact om_38d3e9e7 p9 h20 q)
        rw [c26] at p27
        have p27x : y25.toInt = gQ (100 + v12.toInt.toNat) := p27
        refine tr_aload_n dX7_isToldCheese_19 hl13 ?_
        refine q_getLE dX7_isToldCheese_20 fl7_78 (kR7 hW0 ta0) c2 ?_
        refine q_lcmpNe 29 dX7_isToldCheese_23 dX7_isToldCheese_24 (by decide) (fun h28 => ?_) (fun h28 => ?_)
        · skip
          refine q_iincE dX7_isToldCheese_29 hl14 (by decide) (by decide) (by intro j1 j2; exact om_6b349aaa b8.2 b8.1 p9 g16 h20 j2) ?_
          intro v29 h30
          refine tr_goto 2 dX7_isToldCheese_32 (by decide) ?_
          exact ih18 _ v29 hl13 rfl hN15 (by exact om_68881c41 g16 h30) (by have q := nm_on (Q := gQ) (b := 100) (w := gw) (n := gQ 3) (v := v12.toInt) (v' := v29.toInt) (by exact om_2cfcd5a5 g16) (by exact om_7d321a48 p9 h20 h30) (by exact om_764ef139 h30) (by exact om_2742847d p3 p27 p27x h28); exact om_9fa72578 g17 q) (by exact om_f9ff5a47 b8.2 b8.1 p9 g16 hm18 h20 h28 h30)
        · skip
          refine q_iconst dX7_isToldCheese_27 (by decide) ?_
          intro v31 h32
          have nz := nm_hit (Q := gQ) (b := 100) (w := gw) (n := gQ 3) (v := v12.toInt) (by exact om_2cfcd5a5 g16) (by exact om_a830ecb4 p9 h20) (by exact om_fb2e6fee p3 p27 p27x h28)
          exact tr_zret hZ dX7_isToldCheese_28 rfl (ti_b01 (by exact om_f9079521 h32) (by exact om_e6632817 h32)) (by decide) (by decide) ⟨v31, rfl, rfl, rfl, rfl, rfl, rfl, rfl, (by exact om_d753bc65 h32), (Or.inl ⟨(by first | done | with_reducible assumption | omega), (by first | done | with_reducible assumption | exact om_195b5cd0 g16 g17 nz), trivial⟩), trivial⟩
  exact lp18 _ _ v10 rfl rfl hN (by exact om_d99fa9e4 h11) (nm_in (by exact om_29f55913 h11)) (Nat.lt_succ_self _)
set_option maxHeartbeats 4000000 in
theorem fk_X7_namedTurner {l : Launch} {T : Nat → Nat} {cn : Nat} {K N : Nat → Nat} {I0 : cz_I} {R0 : cz_R} {L0 : cz_L} {d : Int} (hW0 : Wf T cn K N I0 R0 d) (gw : Int) (gQ : Nat → Int) {a0 : Nat} (ta0 : T a0 = 7) (hN : NmC L0 R0 a0 gQ) (pre0 : (L0 a0 5).toInt = (gw)) (pre1 : ∀ b1, R0 a0 10 = some b1 → (I0 b1 9).toInt = (gQ 4)) : ConE l mX7_namedTurner [.ref a0] cn K N I0 R0 L0 (ca_i (fun v cn' K' N' I' R' L' => cn = cn' ∧ K = K' ∧ N = N' ∧ I0 = I' ∧ R0 = R' ∧ L0 = L' ∧ ((-1) ≤ v.toInt ∧ v.toInt ≤ 4) ∧ (v.toInt = (nmI gQ 200 (gQ 4) gw)) ∧ True)) := by
  refine ConE.of (by decide +kernel) rfl (Nat.le_of_ble_eq_true rfl) rfl (fun X hX hZ hE => ?_)
  subst hX
  obtain ⟨y1, c2⟩ : ∃ v, L0 a0 5 = v := ⟨_, rfl⟩
  have p3 := pre0
  rw [c2] at p3
  obtain ⟨a4, d5, ta4⟩ := rf7_10 hW0 ta0
  obtain ⟨v6, c7⟩ : ∃ v, I0 a4 9 = v := ⟨_, rfl⟩
  have b8 := iv2_9 hW0 ta4 c7
  have p9 := pre1 _ d5
  rw [c7] at p9
  refine q_iconst dX7_namedTurner_0 (by decide) ?_
  intro v10 h11
  refine tr_istore_n dX7_namedTurner_1 (by decide) (by decide) ?_
  have lp18 : ∀ (fu : Nat) (ls : Nat → Option Value) (v12 : Int32), ls 0 = some (.ref a0) → ls 1 = some (.int v12) → NmC L0 R0 a0 gQ → 0 ≤ v12.toInt → (nmF gQ 200 gw (gQ 4 - v12.toInt).toNat v12.toInt.toNat) = (nmI gQ 200 (gQ 4) gw) → (-v12.toInt + 2147483647).toNat < fu → Tr X mX7_namedTurner 2 ls [] cn K N I0 R0 L0 0 0 := by
    intro fu
    induction fu with
    | zero => intros; rename_i hz; exact absurd hz (Nat.not_lt_zero _)
    | succ fu ih18 =>
      intro ls v12 hl13 hl14 hN15 g16 g17 hm18
      refine tr_iload_n dX7_namedTurner_2 hl14 ?_
      refine tr_aload_n dX7_namedTurner_3 hl13 ?_
      refine tr_getR dX7_namedTurner_4 fl7_22 (kR7 hW0 ta0) d5 ?_
      refine q_getI dX7_namedTurner_7 fl7_156 (kR2 hW0 ta4) c7 ?_
      refine q_icmp_ge 35 dX7_namedTurner_10 (by decide) (fun h20 => ?_) (fun h20 => ?_)
      · skip
        refine q_iconst dX7_namedTurner_35 (by decide) ?_
        intro v21 h22
        have nz := nm_end (Q := gQ) (b := 200) (w := gw) (n := gQ 4) (v := v12.toInt) (by exact om_7865fadd p9 h20)
        exact tr_iret hZ dX7_namedTurner_36 rfl (by decide) (by decide) ⟨v21, rfl, rfl, rfl, rfl, rfl, rfl, rfl, (by exact om_fc533014 h22), (by first | done | with_reducible assumption | exact om_5548222b g17 h22 nz), trivial⟩
      · skip
        refine tr_aload_n dX7_namedTurner_13 hl13 ?_
        obtain ⟨a23, d24, ta23⟩ := rf7_14 hW0 ta0
        refine tr_getR dX7_namedTurner_14 fl7_15 (kR7 hW0 ta0) d24 ?_
        refine tr_iload_n dX7_namedTurner_17 hl14 ?_
        refine q_laldE dX7_namedTurner_18 (kR26 hW0 ta23) (ti_in (nR26 hW0 ta23) (by exact om_2cfcd5a5 g16) (by exact om_4aeebf76 b8.2 b8.1 p9 h20)) ?_
        intro y25 c26
        have p27 := hN15.2 _ d24 v12.toNatClampNeg (by have q := ti_nat (i := v12) (by exact om_2cfcd5a5 g16); exact om_38d3e9e7 p9 h20 q)
        rw [c26] at p27
        have p27x : y25.toInt = gQ (200 + v12.toInt.toNat) := p27
        refine tr_aload_n dX7_namedTurner_19 hl13 ?_
        refine q_getLE dX7_namedTurner_20 fl7_78 (kR7 hW0 ta0) c2 ?_
        refine q_lcmpNe 29 dX7_namedTurner_23 dX7_namedTurner_24 (by decide) (fun h28 => ?_) (fun h28 => ?_)
        · skip
          refine q_iincE dX7_namedTurner_29 hl14 (by decide) (by decide) (by intro j1 j2; exact om_e260dcfe b8.2 b8.1 p9 g16 h20 j2) ?_
          intro v29 h30
          refine tr_goto 2 dX7_namedTurner_32 (by decide) ?_
          exact ih18 _ v29 hl13 rfl hN15 (by exact om_68881c41 g16 h30) (by have q := nm_on (Q := gQ) (b := 200) (w := gw) (n := gQ 4) (v := v12.toInt) (v' := v29.toInt) (by exact om_2cfcd5a5 g16) (by exact om_7d321a48 p9 h20 h30) (by exact om_764ef139 h30) (by exact om_2742847d p3 p27 p27x h28); exact om_9fa72578 g17 q) (by exact om_617c4218 b8.2 b8.1 p9 g16 hm18 h20 h28 h30)
        · skip
          refine tr_iload_n dX7_namedTurner_27 hl14 ?_
          have nz := nm_hit (Q := gQ) (b := 200) (w := gw) (n := gQ 4) (v := v12.toInt) (by exact om_2cfcd5a5 g16) (by exact om_a830ecb4 p9 h20) (by exact om_fb2e6fee p3 p27 p27x h28)
          exact tr_iret hZ dX7_namedTurner_28 rfl (by decide) (by decide) ⟨v12, rfl, rfl, rfl, rfl, rfl, rfl, rfl, (by exact om_b3bbc8e6 b8.2 b8.1 p9 g16 g17 h20 nz), (by first | done | with_reducible assumption | exact om_a3d15cac g17 nz), trivial⟩
  exact lp18 _ _ v10 rfl rfl hN (by exact om_d99fa9e4 h11) (nm_in (by exact om_29f55913 h11)) (Nat.lt_succ_self _)
def wik_X7_seesNewName : List Nat := [463, 464]
def wrk_X7_seesNewName : List Nat := []
set_option maxHeartbeats 4000000 in
theorem fk_X7_seesNewName {l : Launch} {T : Nat → Nat} {cn : Nat} {K N : Nat → Nat} {I0 : cz_I} {R0 : cz_R} {L0 : cz_L} {d : Int} (hW0 : Wf T cn K N I0 R0 d) (gB : cz_B) (gs : Int) (gQ : Nat → Int) {a0 : Nat} (ta0 : T a0 = 7) (hN : NmC L0 R0 a0 gQ) (pre0 : (I0 a0 4).toInt = (tkS gB gs)) (pre1 : (I0 a0 3).toInt = (tkK gB gs)) (pre2 : (AtW ((tkK gB gs)) ((L0 a0 5).toInt) ((tkW gB gs)))) (pre3 : ∀ b1, R0 a0 10 = some b1 → (I0 b1 5).toInt = (gQ 3)) (pre4 : ∀ b1, R0 a0 10 = some b1 → (I0 b1 9).toInt = (gQ 4)) : ConE l mX7_seesNewName [.ref a0] cn K N I0 R0 L0 (ca_i (fun v cn' K' N' I' R' L' => cn = cn' ∧ K = K' ∧ N = N' ∧ R0 = R' ∧ L0 = L' ∧ St T cn K N d wik_X7_seesNewName wrk_X7_seesNewName I0 R0 I' R0 ∧ (0 ≤ v.toInt ∧ v.toInt ≤ 1) ∧ (((v.toInt = 1) ∧ ((I' a0 15).toInt = (I0 a0 15).toInt) ∧ ((isN gB gs) = 1) ∧ ((tkK gB gs) = 1) ∧ ((nmI gQ 100 (gQ 3) (tkW gB gs)) = -1) ∧ ((nmI gQ 200 (gQ 4) (tkW gB gs)) = -1) ∧ True) ∨ ((v.toInt = 0) ∧ ((isN gB gs) ≠ 1) ∧ ((I' a0 15).toInt = 1) ∧ ((I' a0 16).toInt = (tkS gB gs)) ∧ True) ∨ ((v.toInt = 0) ∧ ((isN gB gs) = 1) ∧ (((nmI gQ 100 (gQ 3) (tkW gB gs)) ≠ -1 ∨ (nmI gQ 200 (gQ 4) (tkW gB gs)) ≠ -1)) ∧ ((I' a0 15).toInt = 3) ∧ ((I' a0 16).toInt = (tkS gB gs)) ∧ True)) ∧ True)) := by
  refine ConE.of (by decide +kernel) rfl (Nat.le_of_ble_eq_true rfl) rfl (fun X hX hZ hE => ?_)
  subst hX
  have hS0 : St T cn K N d wik_X7_seesNewName wrk_X7_seesNewName I0 R0 I0 R0 := St.rf0 hW0
  obtain ⟨v1, c2⟩ : ∃ v, I0 a0 4 = v := ⟨_, rfl⟩
  have b3 := iv7_4 hW0 ta0 c2
  have p4 := pre0
  rw [c2] at p4
  obtain ⟨v5, c6⟩ : ∃ v, I0 a0 3 = v := ⟨_, rfl⟩
  have b7 := iv7_3 hW0 ta0 c6
  have p8 := pre1
  rw [c6] at p8
  obtain ⟨y9, c10⟩ : ∃ v, L0 a0 5 = v := ⟨_, rfl⟩
  have p11 := pre2
  rw [c10] at p11
  obtain ⟨a12, d13, ta12⟩ := rf7_10 hW0 ta0
  obtain ⟨v14, c15⟩ : ∃ v, I0 a12 5 = v := ⟨_, rfl⟩
  have b16 := iv2_5 hW0 ta12 c15
  have p17 := pre3 _ d13
  rw [c15] at p17
  obtain ⟨v18, c19⟩ : ∃ v, I0 a12 9 = v := ⟨_, rfl⟩
  have b20 := iv2_9 hW0 ta12 c19
  have p21 := pre4 _ d13
  rw [c19] at p21
  obtain ⟨v22, c23⟩ : ∃ v, I0 a0 15 = v := ⟨_, rfl⟩
  refine tr_aload_n dX7_seesNewName_0 rfl ?_
  refine q_callVi hE (M' := mX7_seesName) (as := []) dX7_seesNewName_1 lk7_279 inX7_seesName seX7_seesName myX7_seesName (by decide) ⟨by decide, by decide⟩ rfl (kR7 hS0.1 ta0) (Nat.le_of_ble_eq_true rfl) rfl rfl (by decide) (by decide) (fk_X7_seesName hS0.1 (gB) (gs) ta0 (by (try rw [c6]); first | done | with_reducible assumption | omega) (by (try rw [c10]); first | done | assumption)) ?_
  rintro v29 cn' K' N' I24 R25 L26 ⟨rfl, rfl, rfl, rfl, rfl, rfl, h30, dj31, -⟩
  rcases dj31 with ⟨p32, p33, p34, -⟩ | ⟨p35, p36, -⟩
  · skip
    refine q_if_ne 13 dX7_seesNewName_4 (by decide) (fun h37 => ?_) (fun h37 => ?_)
    · skip
      refine tr_aload_n dX7_seesNewName_13 rfl ?_
      have p38 := p11 (by exact om_ee8a1e2d p34)
      refine q_callVi hE (M' := mX7_isToldCheese) (as := []) dX7_seesNewName_14 lk7_313 inX7_isToldCheese seX7_isToldCheese myX7_isToldCheese (by decide) ⟨by decide, by decide⟩ rfl (kR7 hS0.1 ta0) (Nat.le_of_ble_eq_true rfl) rfl rfl (by decide) (by decide) (fk_X7_isToldCheese hS0.1 ((tkW gB gs)) (gQ) ta0 hN (by (try rw [c10]); first | done | with_reducible assumption | omega) (fun q0 z0 => by obtain rfl := Option.some.inj ((d13).symm.trans z0); (try rw [c15]); first | done | with_reducible assumption | omega)) ?_
      rintro v44 cn' K' N' I39 R40 L41 ⟨rfl, rfl, rfl, rfl, rfl, rfl, h45, dj46, -⟩
      rcases dj46 with ⟨p47, p48, -⟩ | ⟨p49, p50, -⟩
      · skip
        refine q_if_ne 28 dX7_seesNewName_17 (by decide) (fun h51 => ?_) (fun h51 => ?_)
        · skip
          refine tr_aload_n dX7_seesNewName_28 rfl ?_
          refine q_iconst dX7_seesNewName_29 (by decide) ?_
          intro v52 h53
          refine q_callVi hE (M' := mX7_fail) (as := [_]) dX7_seesNewName_30 lk7_64 inX7_fail seX7_fail myX7_fail (by decide) ⟨by decide, by decide⟩ rfl (kR7 hS0.1 ta0) (Nat.le_of_ble_eq_true rfl) rfl rfl (by decide) (by decide) (fk_X7_fail hS0.1  ta0 (by exact om_7e011daf h53)) ?_
          rintro v59 cn' K' N' I54 R55 L56 ⟨rfl, rfl, rfl, rfl, rfl, g57, h60, p61, p62, p63, -⟩
          have hS64 := hS0.tr g57 (by decide +kernel) (by decide +kernel)
          obtain ⟨v65, c66⟩ : ∃ v, I54 a0 15 = v := ⟨_, rfl⟩
          rw [c66] at p62
          obtain ⟨v67, c68⟩ : ∃ v, I54 a0 16 = v := ⟨_, rfl⟩
          rw [c68] at p63
          rw [c2] at p63
          refine q_if_eq 40 dX7_seesNewName_33 (by decide) (fun h69 => ?_) (fun h69 => ?_)
          · skip
            refine q_iconst dX7_seesNewName_40 (by decide) ?_
            intro v70 h71
            exact tr_zret hZ dX7_seesNewName_41 rfl (ti_b01 (by exact om_d99fa9e4 h71) (by exact om_d3de7ec9 h71)) (by decide) (by decide) ⟨v70, rfl, rfl, rfl, rfl, rfl, rfl, hS64, (by exact om_3b50ecb9 h71), (Or.inr (Or.inr (⟨(by first | done | with_reducible assumption | omega), (by first | done | with_reducible assumption | omega), (by first | done | with_reducible assumption | exact om_7cbf111f p48), (by (try rw [c66]); first | done | with_reducible assumption | exact om_e7da7805 h53 p62), (by (try rw [c68]); first | done | with_reducible assumption | exact om_9fa72578 p4 p63), trivial⟩))), trivial⟩
          · skip
            exfalso; exact om_3a97d4a5 p61 h69
        · skip
          exfalso; exact om_3624102b p47 h51
      · skip
        refine q_if_ne 28 dX7_seesNewName_17 (by decide) (fun h72 => ?_) (fun h72 => ?_)
        · skip
          exfalso; exact om_3a97d4a5 p49 h72
        · skip
          refine tr_aload_n dX7_seesNewName_20 rfl ?_
          have p73 := p11 (by exact om_ee8a1e2d p34)
          refine q_callVi hE (M' := mX7_namedTurner) (as := []) dX7_seesNewName_21 lk7_282 inX7_namedTurner seX7_namedTurner myX7_namedTurner (by decide) ⟨by decide, by decide⟩ rfl (kR7 hS0.1 ta0) (Nat.le_of_ble_eq_true rfl) rfl rfl (by decide) (by decide) (fk_X7_namedTurner hS0.1 ((tkW gB gs)) (gQ) ta0 hN (by (try rw [c10]); first | done | with_reducible assumption | omega) (fun q0 z0 => by obtain rfl := Option.some.inj ((d13).symm.trans z0); (try rw [c19]); first | done | with_reducible assumption | omega)) ?_
          rintro v79 cn' K' N' I74 R75 L76 ⟨rfl, rfl, rfl, rfl, rfl, rfl, h80, p81, -⟩
          refine q_iconst dX7_seesNewName_24 (by decide) ?_
          intro v82 h83
          refine q_icmp_eq 36 dX7_seesNewName_25 (by decide) (fun h84 => ?_) (fun h84 => ?_)
          · skip
            refine q_iconst dX7_seesNewName_36 (by decide) ?_
            intro v85 h86
            refine tr_goto 41 dX7_seesNewName_37 (by decide) ?_
            obtain ⟨v87, c88⟩ : ∃ v, I0 a0 16 = v := ⟨_, rfl⟩
            exact tr_zret hZ dX7_seesNewName_41 rfl (ti_b01 (by exact om_f9079521 h86) (by exact om_e6632817 h86)) (by decide) (by decide) ⟨v85, rfl, rfl, rfl, rfl, rfl, rfl, hS0, (by exact om_d753bc65 h86), (Or.inl ⟨(by first | done | with_reducible assumption | omega), (by (try rw [c23]); first | done | with_reducible assumption | omega), (by first | done | with_reducible assumption | omega), (by first | done | with_reducible assumption | omega), (by first | done | with_reducible assumption | omega), (by first | done | with_reducible assumption | exact om_673f8c18 p81 h83 h84), trivial⟩), trivial⟩
          · skip
            refine tr_aload_n dX7_seesNewName_28 rfl ?_
            refine q_iconst dX7_seesNewName_29 (by decide) ?_
            intro v89 h90
            refine q_callVi hE (M' := mX7_fail) (as := [_]) dX7_seesNewName_30 lk7_64 inX7_fail seX7_fail myX7_fail (by decide) ⟨by decide, by decide⟩ rfl (kR7 hS0.1 ta0) (Nat.le_of_ble_eq_true rfl) rfl rfl (by decide) (by decide) (fk_X7_fail hS0.1  ta0 (by exact om_7e011daf h90)) ?_
            rintro v96 cn' K' N' I91 R92 L93 ⟨rfl, rfl, rfl, rfl, rfl, g94, h97, p98, p99, p100, -⟩
            have hS101 := hS0.tr g94 (by decide +kernel) (by decide +kernel)
            obtain ⟨v102, c103⟩ : ∃ v, I91 a0 15 = v := ⟨_, rfl⟩
            rw [c103] at p99
            obtain ⟨v104, c105⟩ : ∃ v, I91 a0 16 = v := ⟨_, rfl⟩
            rw [c105] at p100
            rw [c2] at p100
            refine q_if_eq 40 dX7_seesNewName_33 (by decide) (fun h106 => ?_) (fun h106 => ?_)
            · skip
              refine q_iconst dX7_seesNewName_40 (by decide) ?_
              intro v107 h108
              exact tr_zret hZ dX7_seesNewName_41 rfl (ti_b01 (by exact om_d99fa9e4 h108) (by exact om_d3de7ec9 h108)) (by decide) (by decide) ⟨v107, rfl, rfl, rfl, rfl, rfl, rfl, hS101, (by exact om_3b50ecb9 h108), (Or.inr (Or.inr (⟨(by first | done | with_reducible assumption | omega), (by first | done | with_reducible assumption | omega), (by first | done | with_reducible assumption | exact om_cd68dff5 p81 h83 h84), (by (try rw [c103]); first | done | with_reducible assumption | exact om_e7da7805 h90 p99), (by (try rw [c105]); first | done | with_reducible assumption | exact om_9fa72578 p4 p100), trivial⟩))), trivial⟩
            · skip
              exfalso; exact om_3a97d4a5 p98 h106
    · skip
      exfalso; exact om_3624102b p32 h37
  · skip
    refine q_if_ne 13 dX7_seesNewName_4 (by decide) (fun h109 => ?_) (fun h109 => ?_)
    · skip
      exfalso; exact om_3a97d4a5 p35 h109
    · skip
      refine tr_aload_n dX7_seesNewName_7 rfl ?_
      refine q_iconst dX7_seesNewName_8 (by decide) ?_
      intro v110 h111
      refine q_callVi hE (M' := mX7_fail) (as := [_]) dX7_seesNewName_9 lk7_64 inX7_fail seX7_fail myX7_fail (by decide) ⟨by decide, by decide⟩ rfl (kR7 hS0.1 ta0) (Nat.le_of_ble_eq_true rfl) rfl rfl (by decide) (by decide) (fk_X7_fail hS0.1  ta0 (by exact om_95922198 h111)) ?_
      rintro v117 cn' K' N' I112 R113 L114 ⟨rfl, rfl, rfl, rfl, rfl, g115, h118, p119, p120, p121, -⟩
      have hS122 := hS0.tr g115 (by decide +kernel) (by decide +kernel)
      obtain ⟨v123, c124⟩ : ∃ v, I112 a0 15 = v := ⟨_, rfl⟩
      rw [c124] at p120
      obtain ⟨v125, c126⟩ : ∃ v, I112 a0 16 = v := ⟨_, rfl⟩
      rw [c126] at p121
      rw [c2] at p121
      exact tr_zret hZ dX7_seesNewName_12 rfl (ti_b01 (by exact om_d99fa9e4 p119) (by exact om_d3de7ec9 p119)) (by decide) (by decide) ⟨v117, rfl, rfl, rfl, rfl, rfl, rfl, hS122, (by exact om_be53a44c h118), (Or.inr (Or.inl ⟨(by first | done | with_reducible assumption | omega), (by first | done | with_reducible assumption | omega), (by (try rw [c124]); first | done | with_reducible assumption | exact om_9fbcd811 h111 p120), (by (try rw [c126]); first | done | with_reducible assumption | exact om_9fa72578 p4 p121), trivial⟩)), trivial⟩
