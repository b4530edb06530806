set_option maxHeartbeats 4000000 in
theorem k_X10_allCalls {l : Launch} {T : Nat → Nat} {cn : Nat} {K N : Nat → Nat} {I0 : cz_I} {R0 : cz_R} {L0 : cz_L} {d : Int} (hW0 : Wf T cn K N I0 R0 d) {a0 : Nat} (ta0 : T a0 = 1) : ConE l mX10_allCalls [.ref a0] cn K N I0 R0 L0 (ca_i (fun v cn' K' N' I' R' L' => cn = cn' ∧ K = K' ∧ N = N' ∧ I0 = I' ∧ R0 = R' ∧ L0 = L' ∧ (0 ≤ v.toInt ∧ v.toInt ≤ 63) ∧ True)) := by
  refine ConE.of (by decide +kernel) rfl (Nat.le_of_ble_eq_true rfl) rfl (fun X hX hZ hE => ?_)
  subst hX
  refine q_iconst dX10_allCalls_0 (by decide) ?_
  intro v1 h2
  refine tr_aload_n dX10_allCalls_1 rfl ?_
  obtain ⟨a3, d4, ta3⟩ := rf1_2 hW0 ta0
  refine tr_getR dX10_allCalls_2 fl10_16 (kR1 hW0 ta0) d4 ?_
  obtain ⟨v5, c6⟩ : ∃ v, I0 a3 11 = v := ⟨_, rfl⟩
  have b7 := iv2_11 hW0 ta3 c6
  refine q_getI dX10_allCalls_5 fl10_278 (kR2 hW0 ta3) c6 ?_
  refine q_ishlE dX10_allCalls_8 (by exact om_ee8a1e2d h2) (by exact om_cafeadf3 b7) ?_
  intro v8 h9
  refine q_iconst dX10_allCalls_9 (by decide) ?_
  intro v10 h11
  refine q_isubE dX10_allCalls_10 (by intro j1 j2 j3 j4; exact om_87919627 h9.2 h9.1 h11) ?_
  intro v12 h13
  exact tr_iret hZ dX10_allCalls_11 rfl (by decide) (by decide) ⟨v12, rfl, rfl, rfl, rfl, rfl, rfl, rfl, (by exact om_44eae9b2 h9.2 h9.1 h11 h13), trivial⟩
set_option maxHeartbeats 4000000 in
theorem k_J6_bitCount_0f7a4 {l : Launch} {T : Nat → Nat} {cn : Nat} {K N : Nat → Nat} {I0 : cz_I} {R0 : cz_R} {L0 : cz_L} {d : Int} (hW0 : Wf T cn K N I0 R0 d) {x0 : Int32} : ConE l mJ6_bitCount_0f7a4 [.int x0] cn K N I0 R0 L0 (ca_i (fun v cn' K' N' I' R' L' => cn = cn' ∧ K = K' ∧ N = N' ∧ I0 = I' ∧ R0 = R' ∧ L0 = L' ∧ True)) := by
  refine ConE.of (by decide +kernel) rfl (Nat.le_of_ble_eq_true rfl) rfl (fun X hX hZ hE => ?_)
  subst hX
  refine tr_iload_n dJ6_bitCount_0f7a4_0 rfl ?_
  refine tr_iload_n dJ6_bitCount_0f7a4_1 rfl ?_
  refine q_iconst dJ6_bitCount_0f7a4_2 (by decide) ?_
  intro v1 h2
  refine q_iushr dJ6_bitCount_0f7a4_3 ?_
  intro v3
  refine q_ldcw 1431655765 dJ6_bitCount_0f7a4_4 ld14_265 (by decide +kernel) ?_
  intro v4 h5
  refine q_iand dJ6_bitCount_0f7a4_7 ?_
  intro v6
  refine q_isub dJ6_bitCount_0f7a4_8 ?_
  intro v7
  refine tr_istore_n dJ6_bitCount_0f7a4_9 (by decide) (by decide) ?_
  refine tr_iload_n dJ6_bitCount_0f7a4_10 rfl ?_
  refine q_ldcw 858993459 dJ6_bitCount_0f7a4_11 ld14_266 (by decide +kernel) ?_
  intro v8 h9
  refine q_iand dJ6_bitCount_0f7a4_14 ?_
  intro v10
  refine tr_iload_n dJ6_bitCount_0f7a4_15 rfl ?_
  refine q_iconst dJ6_bitCount_0f7a4_16 (by decide) ?_
  intro v11 h12
  refine q_iushr dJ6_bitCount_0f7a4_17 ?_
  intro v13
  refine q_ldcw 858993459 dJ6_bitCount_0f7a4_18 ld14_266 (by decide +kernel) ?_
  intro v14 h15
  refine q_iand dJ6_bitCount_0f7a4_21 ?_
  intro v16
  refine q_iadd dJ6_bitCount_0f7a4_22 ?_
  intro v17
  refine tr_istore_n dJ6_bitCount_0f7a4_23 (by decide) (by decide) ?_
  refine tr_iload_n dJ6_bitCount_0f7a4_24 rfl ?_
  refine tr_iload_n dJ6_bitCount_0f7a4_25 rfl ?_
  refine q_iconst dJ6_bitCount_0f7a4_26 (by decide) ?_
  intro v18 h19
  refine q_iushr dJ6_bitCount_0f7a4_27 ?_
  intro v20
  refine q_iadd dJ6_bitCount_0f7a4_28 ?_
  intro v21
  refine q_ldcw 252645135 dJ6_bitCount_0f7a4_29 ld14_267 (by decide +kernel) ?_
  intro v22 h23
  refine q_iand dJ6_bitCount_0f7a4_32 ?_
  intro v24
  refine tr_istore_n dJ6_bitCount_0f7a4_33 (by decide) (by decide) ?_
  refine tr_iload_n dJ6_bitCount_0f7a4_34 rfl ?_
  refine tr_iload_n dJ6_bitCount_0f7a4_35 rfl ?_
  refine q_bipush dJ6_bitCount_0f7a4_36 (by decide +kernel) ?_
  intro v25 h26
  refine q_iushr dJ6_bitCount_0f7a4_38 ?_
  intro v27
  refine q_iadd dJ6_bitCount_0f7a4_39 ?_
  intro v28
  refine tr_istore_n dJ6_bitCount_0f7a4_40 (by decide) (by decide) ?_
  refine tr_iload_n dJ6_bitCount_0f7a4_41 rfl ?_
  refine tr_iload_n dJ6_bitCount_0f7a4_42 rfl ?_
  refine q_bipush dJ6_bitCount_0f7a4_43 (by decide +kernel) ?_
  intro v29 h30
  refine q_iushr dJ6_bitCount_0f7a4_45 ?_
  intro v31
  refine q_iadd dJ6_bitCount_0f7a4_46 ?_
  intro v32
  refine tr_istore_n dJ6_bitCount_0f7a4_47 (by decide) (by decide) ?_
  refine tr_iload_n dJ6_bitCount_0f7a4_48 rfl ?_
  refine q_bipush dJ6_bitCount_0f7a4_49 (by decide +kernel) ?_
  intro v33 h34
  refine q_iand dJ6_bitCount_0f7a4_51 ?_
  intro v35
  exact tr_iret hZ dJ6_bitCount_0f7a4_52 rfl (by decide) (by decide) ⟨v35, rfl, rfl, rfl, rfl, rfl, rfl, rfl, trivial⟩
set_option maxHeartbeats 4000000 in
theorem k_X5_missesAny {l : Launch} {T : Nat → Nat} {cn : Nat} {K N : Nat → Nat} {I0 : cz_I} {R0 : cz_R} {L0 : cz_L} {d : Int} (hW0 : Wf T cn K N I0 R0 d) {a0 : Nat} (ta0 : T a0 = 13) : ConE l mX5_missesAny [.ref a0] cn K N I0 R0 L0 (ca_i (fun v cn' K' N' I' R' L' => cn = cn' ∧ K = K' ∧ N = N' ∧ I0 = I' ∧ R0 = R' ∧ L0 = L' ∧ (0 ≤ v.toInt ∧ v.toInt ≤ 1) ∧ True)) := by
  refine ConE.of (by decide +kernel) rfl (Nat.le_of_ble_eq_true rfl) rfl (fun X hX hZ hE => ?_)
  subst hX
  refine q_iconst dX5_missesAny_0 (by decide) ?_
  intro v1 h2
  refine tr_istore_n dX5_missesAny_1 (by decide) (by decide) ?_
  have lp7 : ∀ (fu : Nat) (ls : Nat → Option Value) (v3 : Int32), ls 0 = some (.ref a0) → ls 1 = some (.int v3) → 0 ≤ v3.toInt → (-v3.toInt + 2147483647).toNat < fu → Tr X mX5_missesAny 2 ls [] cn K N I0 R0 L0 0 0 := by
    intro fu
    induction fu with
    | zero => intros; rename_i hz; exact absurd hz (Nat.not_lt_zero _)
    | succ fu ih7 =>
      intro ls v3 hl4 hl5 g6 hm7
      refine tr_iload_n dX5_missesAny_2 hl5 ?_
      refine tr_aload_n dX5_missesAny_3 hl4 ?_
      obtain ⟨a9, d10, ta9⟩ := rf13_0 hW0 ta0
      refine tr_getR dX5_missesAny_4 fl5_39 (kR13 hW0 ta0) d10 ?_
      obtain ⟨v11, c12⟩ : ∃ v, I0 a9 5 = v := ⟨_, rfl⟩
      have b13 := iv2_5 hW0 ta9 c12
      refine q_getI dX5_missesAny_7 fl5_107 (kR2 hW0 ta9) c12 ?_
      refine q_icmp_ge 30 dX5_missesAny_10 (by decide) (fun h14 => ?_) (fun h14 => ?_)
      · skip
        refine q_iconst dX5_missesAny_30 (by decide) ?_
        intro v15 h16
        exact tr_zret hZ dX5_missesAny_31 rfl (ti_b01 (by exact om_d99fa9e4 h16) (by exact om_d3de7ec9 h16)) (by decide) (by decide) ⟨v15, rfl, rfl, rfl, rfl, rfl, rfl, rfl, (by exact om_3b50ecb9 h16), trivial⟩
      · skip
        refine tr_aload_n dX5_missesAny_13 hl4 ?_
        obtain ⟨a17, d18, ta17⟩ := rf13_6 hW0 ta0
        refine tr_getR dX5_missesAny_14 fl5_21 (kR13 hW0 ta0) d18 ?_
        refine tr_iload_n dX5_missesAny_17 hl5 ?_
        refine q_iald dX5_missesAny_18 (kR47 hW0 ta17) (ti_in (nR47 hW0 ta17) (by exact om_2cfcd5a5 g6) (by exact om_5f13cc30 b13.2 b13.1 h14)) ?_
        intro v19 c20
        refine q_if_le 24 dX5_missesAny_19 (by decide) (fun h21 => ?_) (fun h21 => ?_)
        · skip
          refine q_iincE dX5_missesAny_24 hl5 (by decide) (by decide) (by intro j1 j2; exact om_4034714d g6 b13.2 b13.1 h14 j2) ?_
          intro v22 h23
          refine tr_goto 2 dX5_missesAny_27 (by decide) ?_
          exact ih7 _ v22 hl4 rfl (by exact om_68881c41 g6 h23) (by exact om_fc025699 g6 hm7 b13.2 b13.1 h14 h23)
        · skip
          refine q_iconst dX5_missesAny_22 (by decide) ?_
          intro v24 h25
          exact tr_zret hZ dX5_missesAny_23 rfl (ti_b01 (by exact om_f9079521 h25) (by exact om_e6632817 h25)) (by decide) (by decide) ⟨v24, rfl, rfl, rfl, rfl, rfl, rfl, rfl, (by exact om_d753bc65 h25), trivial⟩
  exact lp7 _ _ v1 rfl rfl (by exact om_d99fa9e4 h2) (Nat.lt_succ_self _)
set_option maxHeartbeats 4000000 in
theorem k_X10_isSlice {l : Launch} {T : Nat → Nat} {cn : Nat} {K N : Nat → Nat} {I0 : cz_I} {R0 : cz_R} {L0 : cz_L} {d : Int} (hW0 : Wf T cn K N I0 R0 d) {a0 : Nat} (ta0 : T a0 = 1) {x1 : Int32} : ConE l mX10_isSlice [.ref a0, .int x1] cn K N I0 R0 L0 (ca_i (fun v cn' K' N' I' R' L' => cn = cn' ∧ K = K' ∧ N = N' ∧ I0 = I' ∧ R0 = R' ∧ L0 = L' ∧ (0 ≤ v.toInt ∧ v.toInt ≤ 1) ∧ ((v.toInt = 1 → (0 ≤ x1.toInt ∧ x1.toInt ≤ 3))) ∧ True)) := by
  refine ConE.of (by decide +kernel) rfl (Nat.le_of_ble_eq_true rfl) rfl (fun X hX hZ hE => ?_)
  subst hX
  refine tr_iload_n dX10_isSlice_0 rfl ?_
  refine q_if_lt 19 dX10_isSlice_1 (by decide) (fun h1 => ?_) (fun h1 => ?_)
  · skip
    refine q_iconst dX10_isSlice_19 (by decide) ?_
    intro v2 h3
    exact tr_zret hZ dX10_isSlice_20 rfl (ti_b01 (by exact om_d99fa9e4 h3) (by exact om_d3de7ec9 h3)) (by decide) (by decide) ⟨v2, rfl, rfl, rfl, rfl, rfl, rfl, rfl, (by exact om_3b50ecb9 h3), (by exact om_baaf1ab0 h3), trivial⟩
  · skip
    refine tr_iload_n dX10_isSlice_4 rfl ?_
    refine tr_aload_n dX10_isSlice_5 rfl ?_
    obtain ⟨a4, d5, ta4⟩ := rf1_2 hW0 ta0
    refine tr_getR dX10_isSlice_6 fl10_16 (kR1 hW0 ta0) d5 ?_
    obtain ⟨v6, c7⟩ : ∃ v, I0 a4 13 = v := ⟨_, rfl⟩
    have b8 := iv2_13 hW0 ta4 c7
    refine q_getI dX10_isSlice_9 fl10_338 (kR2 hW0 ta4) c7 ?_
    refine q_icmp_ge 19 dX10_isSlice_12 (by decide) (fun h9 => ?_) (fun h9 => ?_)
    · skip
      refine q_iconst dX10_isSlice_19 (by decide) ?_
      intro v10 h11
      exact tr_zret hZ dX10_isSlice_20 rfl (ti_b01 (by exact om_d99fa9e4 h11) (by exact om_d3de7ec9 h11)) (by decide) (by decide) ⟨v10, rfl, rfl, rfl, rfl, rfl, rfl, rfl, (by exact om_3b50ecb9 h11), (by exact om_baaf1ab0 h11), trivial⟩
    · skip
      refine q_iconst dX10_isSlice_15 (by decide) ?_
      intro v12 h13
      refine tr_goto 20 dX10_isSlice_16 (by decide) ?_
      exact tr_zret hZ dX10_isSlice_20 rfl (ti_b01 (by exact om_f9079521 h13) (by exact om_e6632817 h13)) (by decide) (by decide) ⟨v12, rfl, rfl, rfl, rfl, rfl, rfl, rfl, (by exact om_d753bc65 h13), (by exact om_9d00385c h1 b8.2 b8.1 h9), trivial⟩
set_option maxHeartbeats 4000000 in
theorem k_X5_hasJustVeins {l : Launch} {T : Nat → Nat} {cn : Nat} {K N : Nat → Nat} {I0 : cz_I} {R0 : cz_R} {L0 : cz_L} {d : Int} (hW0 : Wf T cn K N I0 R0 d) {a0 : Nat} (ta0 : T a0 = 13) {x1 : Int32} (hx1 : 0 ≤ x1.toInt ∧ x1.toInt ≤ 7) {a2 : Nat} (ta2 : T a2 = 6) : ConE l mX5_hasJustVeins [.ref a0, .int x1, .ref a2] cn K N I0 R0 L0 (ca_i (fun v cn' K' N' I' R' L' => cn = cn' ∧ K = K' ∧ N = N' ∧ I0 = I' ∧ R0 = R' ∧ L0 = L' ∧ (0 ≤ v.toInt ∧ v.toInt ≤ 1) ∧ True)) := by
  refine ConE.of (by decide +kernel) rfl (Nat.le_of_ble_eq_true rfl) rfl (fun X hX hZ hE => ?_)
  subst hX
  refine tr_aload_n dX5_hasJustVeins_0 rfl ?_
  obtain ⟨a1, d2, ta1⟩ := rf13_4 hW0 ta0
  refine tr_getR dX5_hasJustVeins_1 fl5_15 (kR13 hW0 ta0) d2 ?_
  refine tr_iload_n dX5_hasJustVeins_4 rfl ?_
  refine q_iald dX5_hasJustVeins_5 (kR45 hW0 ta1) (ti_in (nR45 hW0 ta1) (by exact om_2a7998d2 hx1.2 hx1.1) (by exact om_2801faaf hx1.2 hx1.1)) ?_
  intro v3 c4
  refine tr_aload_n dX5_hasJustVeins_6 rfl ?_
  obtain ⟨a5, d6, ta5⟩ := rf13_5 hW0 ta0
  refine tr_getR dX5_hasJustVeins_7 fl5_18 (kR13 hW0 ta0) d6 ?_
  refine tr_iload_n dX5_hasJustVeins_10 rfl ?_
  refine q_iald dX5_hasJustVeins_11 (kR46 hW0 ta5) (ti_in (nR46 hW0 ta5) (by exact om_2a7998d2 hx1.2 hx1.1) (by exact om_2801faaf hx1.2 hx1.1)) ?_
  intro v7 c8
  refine q_iadd dX5_hasJustVeins_12 ?_
  intro v9
  refine tr_aload_n dX5_hasJustVeins_13 rfl ?_
  obtain ⟨v10, c11⟩ : ∃ v, I0 a2 0 = v := ⟨_, rfl⟩
  have b12 := iv6_0 hW0 ta2 c11
  refine q_getI dX5_hasJustVeins_14 fl5_187 (kR6 hW0 ta2) c11 ?_
  refine q_icmp_eq 22 dX5_hasJustVeins_17 (by decide) (fun h13 => ?_) (fun h13 => ?_)
  · skip
    refine q_iconst dX5_hasJustVeins_22 (by decide) ?_
    intro v14 h15
    refine tr_istore_n dX5_hasJustVeins_23 (by decide) (by decide) ?_
    have lp22 : ∀ (fu : Nat) (ls : Nat → Option Value) (v16 : Int32), ls 0 = some (.ref a0) → ls 1 = some (.int x1) → ls 2 = some (.ref a2) → ls 3 = some (.int v16) → 0 ≤ v16.toInt → (-v16.toInt + 2147483647).toNat < fu → Tr X mX5_hasJustVeins 24 ls [] cn K N I0 R0 L0 0 0 := by
      intro fu
      induction fu with
      | zero => intros; rename_i hz; exact absurd hz (Nat.not_lt_zero _)
      | succ fu ih22 =>
        intro ls v16 hl17 hl18 hl19 hl20 g21 hm22
        refine tr_iload_n dX5_hasJustVeins_24 hl20 ?_
        refine tr_aload_n dX5_hasJustVeins_25 hl19 ?_
        refine q_getI dX5_hasJustVeins_26 fl5_187 (kR6 hW0 ta2) c11 ?_
        refine q_icmp_ge 54 dX5_hasJustVeins_29 (by decide) (fun h24 => ?_) (fun h24 => ?_)
        · skip
          refine q_iconst dX5_hasJustVeins_54 (by decide) ?_
          intro v25 h26
          exact tr_zret hZ dX5_hasJustVeins_55 rfl (ti_b01 (by exact om_f9079521 h26) (by exact om_e6632817 h26)) (by decide) (by decide) ⟨v25, rfl, rfl, rfl, rfl, rfl, rfl, rfl, (by exact om_d753bc65 h26), trivial⟩
        · skip
          refine tr_aload_n dX5_hasJustVeins_32 hl17 ?_
          refine tr_iload_n dX5_hasJustVeins_33 hl18 ?_
          refine tr_aload_n dX5_hasJustVeins_34 hl19 ?_
          obtain ⟨a27, d28, ta27⟩ := rf6_1 hW0 ta2
          refine tr_getR dX5_hasJustVeins_35 fl5_190 (kR6 hW0 ta2) d28 ?_
          refine tr_iload_n dX5_hasJustVeins_38 hl20 ?_
          refine q_iald dX5_hasJustVeins_39 (kR24 hW0 ta27) (ti_in (nR24 hW0 ta27) (by exact om_2cfcd5a5 g21) (by exact om_6cba337b b12.2 b12.1 h13 h24)) ?_
          intro v29 c30
          have b31 := iv24 hW0 ta27 c30
          refine q_callVi hE (M' := mX5_isTurned) (as := [_, _]) dX5_hasJustVeins_40 lk5_180 inX5_isTurned seX5_isTurned myX5_isTurned (by decide) ⟨by decide, by decide⟩ rfl (kR13 hW0 ta0) (Nat.le_of_ble_eq_true rfl) rfl rfl (by decide) (by decide) (k_X5_isTurned hW0 ta0 (by exact om_87537644 b31)) ?_
          rintro v36 cn' K' N' I32 R33 L34 ⟨rfl, rfl, rfl, rfl, rfl, rfl, h37, -⟩
          refine q_if_ne 48 dX5_hasJustVeins_43 (by decide) (fun h38 => ?_) (fun h38 => ?_)
          · skip
            refine q_iincE dX5_hasJustVeins_48 hl20 (by decide) (by decide) (by intro j1 j2; exact om_f9a478bb b12.2 b12.1 h13 g21 h24 j2) ?_
            intro v39 h40
            refine tr_goto 24 dX5_hasJustVeins_51 (by decide) ?_
            exact ih22 _ v39 hl17 hl18 hl19 rfl (by exact om_68881c41 g21 h40) (by exact om_2f919960 b12.2 b12.1 h13 g21 hm22 h24 h37.2 h37.1 h38 h40)
          · skip
            refine q_iconst dX5_hasJustVeins_46 (by decide) ?_
            intro v41 h42
            exact tr_zret hZ dX5_hasJustVeins_47 rfl (ti_b01 (by exact om_d99fa9e4 h42) (by exact om_d3de7ec9 h42)) (by decide) (by decide) ⟨v41, rfl, rfl, rfl, rfl, rfl, rfl, rfl, (by exact om_3b50ecb9 h42), trivial⟩
    exact lp22 _ _ v14 rfl rfl rfl rfl (by exact om_d99fa9e4 h15) (Nat.lt_succ_self _)
  · skip
    refine q_iconst dX5_hasJustVeins_20 (by decide) ?_
    intro v43 h44
    exact tr_zret hZ dX5_hasJustVeins_21 rfl (ti_b01 (by exact om_d99fa9e4 h44) (by exact om_d3de7ec9 h44)) (by decide) (by decide) ⟨v43, rfl, rfl, rfl, rfl, rfl, rfl, rfl, (by exact om_3b50ecb9 h44), trivial⟩
set_option maxHeartbeats 4000000 in
theorem k_X5_cheesesWithVeins {l : Launch} {T : Nat → Nat} {cn : Nat} {K N : Nat → Nat} {I0 : cz_I} {R0 : cz_R} {L0 : cz_L} {d : Int} (hW0 : Wf T cn K N I0 R0 d) {a0 : Nat} (ta0 : T a0 = 13) {a1 : Nat} (ta1 : T a1 = 6) : ConE l mX5_cheesesWithVeins [.ref a0, .ref a1] cn K N I0 R0 L0 (ca_i (fun v cn' K' N' I' R' L' => cn = cn' ∧ K = K' ∧ N = N' ∧ I0 = I' ∧ R0 = R' ∧ L0 = L' ∧ True)) := by
  refine ConE.of (by decide +kernel) rfl (Nat.le_of_ble_eq_true rfl) rfl (fun X hX hZ hE => ?_)
  subst hX
  refine q_iconst dX5_cheesesWithVeins_0 (by decide) ?_
  intro v1 h2
  refine tr_istore_n dX5_cheesesWithVeins_1 (by decide) (by decide) ?_
  refine q_iconst dX5_cheesesWithVeins_2 (by decide) ?_
  intro v3 h4
  refine tr_istore_n dX5_cheesesWithVeins_3 (by decide) (by decide) ?_
  have lp12 : ∀ (fu : Nat) (ls : Nat → Option Value) (v5 : Int32) (v6 : Int32), ls 0 = some (.ref a0) → ls 1 = some (.ref a1) → ls 2 = some (.int v5) → ls 3 = some (.int v6) → 0 ≤ v6.toInt → (-v6.toInt + 2147483647).toNat < fu → Tr X mX5_cheesesWithVeins 4 ls [] cn K N I0 R0 L0 0 0 := by
    intro fu
    induction fu with
    | zero => intros; rename_i hz; exact absurd hz (Nat.not_lt_zero _)
    | succ fu ih12 =>
      intro ls v5 v6 hl7 hl8 hl9 hl10 g11 hm12
      refine tr_iload_n dX5_cheesesWithVeins_4 hl10 ?_
      refine tr_aload_n dX5_cheesesWithVeins_5 hl7 ?_
      obtain ⟨a14, d15, ta14⟩ := rf13_0 hW0 ta0
      refine tr_getR dX5_cheesesWithVeins_6 fl5_39 (kR13 hW0 ta0) d15 ?_
      obtain ⟨v16, c17⟩ : ∃ v, I0 a14 5 = v := ⟨_, rfl⟩
      have b18 := iv2_5 hW0 ta14 c17
      refine q_getI dX5_cheesesWithVeins_9 fl5_107 (kR2 hW0 ta14) c17 ?_
      refine q_icmp_ge 36 dX5_cheesesWithVeins_12 (by decide) (fun h19 => ?_) (fun h19 => ?_)
      · skip
        refine tr_iload_n dX5_cheesesWithVeins_36 hl9 ?_
        exact tr_iret hZ dX5_cheesesWithVeins_37 rfl (by decide) (by decide) ⟨v5, rfl, rfl, rfl, rfl, rfl, rfl, rfl, trivial⟩
      · skip
        refine tr_aload_n dX5_cheesesWithVeins_15 hl7 ?_
        refine tr_iload_n dX5_cheesesWithVeins_16 hl10 ?_
        refine tr_aload_n dX5_cheesesWithVeins_17 hl8 ?_
        refine q_callVi hE (M' := mX5_hasJustVeins) (as := [_, _]) dX5_cheesesWithVeins_18 lk5_183 inX5_hasJustVeins seX5_hasJustVeins myX5_hasJustVeins (by decide) ⟨by decide, by decide⟩ rfl (kR13 hW0 ta0) (Nat.le_of_ble_eq_true rfl) rfl rfl (by decide) (by decide) (k_X5_hasJustVeins hW0 ta0 (by exact om_c633c06e g11 b18.2 b18.1 h19) ta1) ?_
        rintro v24 cn' K' N' I20 R21 L22 ⟨rfl, rfl, rfl, rfl, rfl, rfl, h25, -⟩
        refine q_if_eq 30 dX5_cheesesWithVeins_21 (by decide) (fun h26 => ?_) (fun h26 => ?_)
        · skip
          refine q_iincE dX5_cheesesWithVeins_30 hl10 (by decide) (by decide) (by intro j1 j2; exact om_4034714d g11 b18.2 b18.1 h19 j2) ?_
          intro v27 h28
          refine tr_goto 4 dX5_cheesesWithVeins_33 (by decide) ?_
          exact ih12 _ v5 v27 hl7 hl8 hl9 rfl (by exact om_68881c41 g11 h28) (by exact om_fc025699 g11 hm12 b18.2 b18.1 h19 h28)
        · skip
          refine tr_iload_n dX5_cheesesWithVeins_24 hl9 ?_
          refine q_iconst dX5_cheesesWithVeins_25 (by decide) ?_
          intro v29 h30
          refine tr_iload_n dX5_cheesesWithVeins_26 hl10 ?_
          refine q_ishl dX5_cheesesWithVeins_27 ?_
          intro v31
          refine q_ior dX5_cheesesWithVeins_28 ?_
          intro v32
          refine tr_istore_n dX5_cheesesWithVeins_29 (by decide) (by decide) ?_
          refine q_iincE dX5_cheesesWithVeins_30 hl10 (by decide) (by decide) (by intro j1 j2; exact om_4034714d g11 b18.2 b18.1 h19 j2) ?_
          intro v33 h34
          refine tr_goto 4 dX5_cheesesWithVeins_33 (by decide) ?_
          exact ih12 _ v32 v33 hl7 hl8 rfl rfl (by exact om_68881c41 g11 h34) (by exact om_ed32802d g11 hm12 b18.2 b18.1 h19 h25.2 h25.1 h26 h34)
  exact lp12 _ _ v1 v3 rfl rfl rfl rfl (by exact om_d99fa9e4 h4) (Nat.lt_succ_self _)
def wi_X3_clear_1 : List Nat := [576, 577, 578]
def wr_X3_clear_1 : List Nat := []
set_option maxHeartbeats 4000000 in
theorem k_X3_clear_1 {l : Launch} {T : Nat → Nat} {cn : Nat} {K N : Nat → Nat} {I0 : cz_I} {R0 : cz_R} {L0 : cz_L} {d : Int} (hW0 : Wf T cn K N I0 R0 d) {a0 : Nat} (ta0 : T a0 = 9) : ConE l mX3_clear [.ref a0] cn K N I0 R0 L0 (ca_v (fun cn' K' N' I' R' L' => cn = cn' ∧ K = K' ∧ N = N' ∧ R0 = R' ∧ L0 = L' ∧ St T cn K N d wi_X3_clear_1 wr_X3_clear_1 I0 R0 I' R0 ∧ True)) := by
  refine ConE.of (by decide +kernel) rfl (Nat.le_of_ble_eq_true rfl) rfl (fun X hX hZ hE => ?_)
  subst hX
  have hS0 : St T cn K N d wi_X3_clear_1 wr_X3_clear_1 I0 R0 I0 R0 := St.rf0 hW0
  refine tr_aload_n dX3_clear_0 rfl ?_
  refine q_iconst dX3_clear_1 (by decide) ?_
  intro v1 h2
  refine q_putI dX3_clear_2 fl3_18 (kR9 hS0.1 ta0) (Or.inl rfl) hS0 ta0 (iokF rfl) rfl (by decide +kernel) ?_
  intro I3 hS4 e5 f6
  refine tr_aload_n dX3_clear_5 rfl ?_
  refine q_iconst dX3_clear_6 (by decide) ?_
  intro v7 h8
  refine q_putI dX3_clear_7 fl3_22 (kR9 hS4.1 ta0) (Or.inl rfl) hS4 ta0 (by show (0 : Int) ≤ v7.toInt ∧ v7.toInt ≤ (65536 : Int); exact om_a4a2c3e9 h8) rfl (by decide +kernel) ?_
  intro I9 hS10 e11 f12
  have c13 : I9 a0 0 = v1 := (f12 _ _ (fun q => absurd q.2 (by decide))).trans e5
  refine tr_aload_n dX3_clear_10 rfl ?_
  refine q_iconst dX3_clear_11 (by decide) ?_
  intro v14 h15
  refine q_putI dX3_clear_12 fl3_25 (kR9 hS10.1 ta0) (Or.inl rfl) hS10 ta0 (by show (0 : Int) ≤ v14.toInt ∧ v14.toInt ≤ (6 : Int); exact om_a3bde316 h15) rfl (by decide +kernel) ?_
  intro I16 hS17 e18 f19
  have c20 : I16 a0 0 = v1 := (f19 _ _ (fun q => absurd q.2 (by decide))).trans c13
  have c21 : I16 a0 1 = v7 := (f19 _ _ (fun q => absurd q.2 (by decide))).trans e11
  exact tr_vret hZ dX3_clear_15 rfl (by decide) (by decide) ⟨rfl, rfl, rfl, rfl, rfl, rfl, hS17, trivial⟩
def wi_X3_drawBelow : List Nat := [577]
def wr_X3_drawBelow : List Nat := []
set_option maxHeartbeats 4000000 in
theorem k_X3_drawBelow {l : Launch} {T : Nat → Nat} {cn : Nat} {K N : Nat → Nat} {I0 : cz_I} {R0 : cz_R} {L0 : cz_L} {d : Int} (hW0 : Wf T cn K N I0 R0 d) {a0 : Nat} (ta0 : T a0 = 9) {x1 : Int32} (hx1 : 0 ≤ x1.toInt ∧ x1.toInt ≤ 240) : ConE l mX3_drawBelow [.ref a0, .int x1] cn K N I0 R0 L0 (ca_i (fun v cn' K' N' I' R' L' => cn = cn' ∧ K = K' ∧ N = N' ∧ R0 = R' ∧ L0 = L' ∧ St T cn K N d wi_X3_drawBelow wr_X3_drawBelow I0 R0 I' R0 ∧ (0 ≤ v.toInt ∧ v.toInt ≤ 239) ∧ True)) := by
  refine ConE.of (by decide +kernel) rfl (Nat.le_of_ble_eq_true rfl) rfl (fun X hX hZ hE => ?_)
  subst hX
  have hS0 : St T cn K N d wi_X3_drawBelow wr_X3_drawBelow I0 R0 I0 R0 := St.rf0 hW0
  refine tr_aload_n dX3_drawBelow_0 rfl ?_
  refine q_bipush dX3_drawBelow_1 (by decide +kernel) ?_
  intro v1 h2
  refine tr_aload_n dX3_drawBelow_3 rfl ?_
  obtain ⟨v3, c4⟩ : ∃ v, I0 a0 1 = v := ⟨_, rfl⟩
  have b5 := iv9_1 hS0.1 ta0 c4
  refine q_getI dX3_drawBelow_4 fl3_22 (kR9 hS0.1 ta0) c4 ?_
  refine q_imulE (c := 75) dX3_drawBelow_7 (by exact om_563a2c66 h2) (by exact om_d18d9d8c b5.2 b5.1) ?_
  intro v6 h7
  refine q_bipush dX3_drawBelow_8 (by decide +kernel) ?_
  intro v8 h9
  refine q_iaddE dX3_drawBelow_10 (by intro j1 j2 j3 j4; exact om_e2c0ec39 b5.2 b5.1 h7 h9 j1 j2) ?_
  intro v10 h11
  refine q_ldc 65537 dX3_drawBelow_11 ld3_42 (by decide +kernel) ?_
  intro v12 h13
  refine q_iremE dX3_drawBelow_13 (by exact om_91e55e16 b5.2 b5.1 h7 h9 h11 h13) ?_
  intro v14 h15
  refine q_putI dX3_drawBelow_14 fl3_22 (kR9 hS0.1 ta0) (Or.inl rfl) hS0 ta0 (by show (0 : Int) ≤ v14.toInt ∧ v14.toInt ≤ (65536 : Int); exact om_20a8c661 h13 h15.2 h15.1) rfl (by decide +kernel) ?_
  intro I16 hS17 e18 f19
  refine tr_iload_n dX3_drawBelow_17 rfl ?_
  refine q_iconst dX3_drawBelow_18 (by decide) ?_
  intro v20 h21
  refine q_icmp_ge 26 dX3_drawBelow_19 (by decide) (fun h22 => ?_) (fun h22 => ?_)
  · skip
    refine tr_aload_n dX3_drawBelow_26 rfl ?_
    refine q_getI dX3_drawBelow_27 fl3_22 (kR9 hS17.1 ta0) e18 ?_
    refine tr_iload_n dX3_drawBelow_30 rfl ?_
    refine q_iremE dX3_drawBelow_31 (by exact om_0ee0b9d2 hx1.2 hx1.1 h13 h15.2 h15.1 h21 h22) ?_
    intro v23 h24
    exact tr_iret hZ dX3_drawBelow_32 rfl (by decide) (by decide) ⟨v23, rfl, rfl, rfl, rfl, rfl, rfl, hS17, (by exact om_a67abe45 hx1.2 hx1.1 h24.1 h24.2), trivial⟩
  · skip
    refine q_iconst dX3_drawBelow_22 (by decide) ?_
    intro v25 h26
    refine tr_goto 32 dX3_drawBelow_23 (by decide) ?_
    exact tr_iret hZ dX3_drawBelow_32 rfl (by decide) (by decide) ⟨v25, rfl, rfl, rfl, rfl, rfl, rfl, hS17, (by exact om_152feea5 h26), trivial⟩
def wi_X3_add : List Nat := [578, 1919, 1983]
def wr_X3_add : List Nat := []
set_option maxHeartbeats 4000000 in
theorem k_X3_add {l : Launch} {T : Nat → Nat} {cn : Nat} {K N : Nat → Nat} {I0 : cz_I} {R0 : cz_R} {L0 : cz_L} {d : Int} (hW0 : Wf T cn K N I0 R0 d) {a0 : Nat} (ta0 : T a0 = 9) {x1 : Int32} (hx1 : 0 ≤ x1.toInt ∧ x1.toInt ≤ 240) {x2 : Int32} (hx2 : 0 ≤ x2.toInt ∧ x2.toInt ≤ 240) : ConE l mX3_add [.ref a0, .int x1, .int x2] cn K N I0 R0 L0 (ca_v (fun cn' K' N' I' R' L' => cn = cn' ∧ K = K' ∧ N = N' ∧ R0 = R' ∧ L0 = L' ∧ St T cn K N d wi_X3_add wr_X3_add I0 R0 I' R0 ∧ True)) := by
  refine ConE.of (by decide +kernel) rfl (Nat.le_of_ble_eq_true rfl) rfl (fun X hX hZ hE => ?_)
  subst hX
  have hS0 : St T cn K N d wi_X3_add wr_X3_add I0 R0 I0 R0 := St.rf0 hW0
  refine tr_aload_n dX3_add_0 rfl ?_
  obtain ⟨v1, c2⟩ : ∃ v, I0 a0 2 = v := ⟨_, rfl⟩
  have b3 := iv9_2 hS0.1 ta0 c2
  refine q_getI dX3_add_1 fl3_25 (kR9 hS0.1 ta0) c2 ?_
  refine q_bipush dX3_add_4 (by decide +kernel) ?_
  intro v4 h5
  refine q_icmp_ge 39 dX3_add_6 (by decide) (fun h6 => ?_) (fun h6 => ?_)
  · skip
    exact tr_vret hZ dX3_add_39 rfl (by decide) (by decide) ⟨rfl, rfl, rfl, rfl, rfl, rfl, hS0, trivial⟩
  · skip
    refine tr_aload_n dX3_add_9 rfl ?_
    obtain ⟨a7, d8, ta7⟩ := rf9_3 hW0 ta0
    refine tr_getR dX3_add_10 fl3_9 (kR9 hS0.1 ta0) d8 ?_
    refine tr_aload_n dX3_add_13 rfl ?_
    refine q_getI dX3_add_14 fl3_25 (kR9 hS0.1 ta0) c2 ?_
    refine tr_iload_n dX3_add_17 rfl ?_
    refine q_iast dX3_add_18 (kR29 hS0.1 ta7) (ti_in (nR29 hS0.1 ta7) (by exact om_c9b1e0f6 b3.2 b3.1) (by exact om_a89fdd2c b3.2 b3.1 h5 h6)) hS0 ta7 (by show (0 : Int) ≤ x1.toInt ∧ x1.toInt ≤ (240 : Int); exact om_d956ef70 hx1) rfl (by rfl) ?_
    intro I9 hS10 e12 f11
    have c13 : I9 a0 2 = v1 := (f11 _ _ (fun q => by have z := ta0; rw [q.1, ta7] at z; exact absurd z (by decide))).trans c2
    refine tr_aload_n dX3_add_19 rfl ?_
    obtain ⟨a14, d15, ta14⟩ := rf9_4 hW0 ta0
    refine tr_getR dX3_add_20 fl3_15 (kR9 hS10.1 ta0) d15 ?_
    refine tr_aload_n dX3_add_23 rfl ?_
    refine q_getI dX3_add_24 fl3_25 (kR9 hS10.1 ta0) c13 ?_
    refine tr_iload_n dX3_add_27 rfl ?_
    refine q_iast dX3_add_28 (kR30 hS10.1 ta14) (ti_in (nR30 hS10.1 ta14) (by exact om_c9b1e0f6 b3.2 b3.1) (by exact om_a89fdd2c b3.2 b3.1 h5 h6)) hS10 ta14 (by show (0 : Int) ≤ x2.toInt ∧ x2.toInt ≤ (240 : Int); exact om_d956ef70 hx2) rfl (by rfl) ?_
    intro I16 hS17 e19 f18
    have c20 : I16 a0 2 = v1 := (f18 _ _ (fun q => by have z := ta0; rw [q.1, ta14] at z; exact absurd z (by decide))).trans c13
    refine tr_aload_n dX3_add_29 rfl ?_
    refine tr_dup dX3_add_30 rfl ?_
    refine q_getI dX3_add_31 fl3_25 (kR9 hS17.1 ta0) c20 ?_
    refine q_iconst dX3_add_34 (by decide) ?_
    intro v21 h22
    refine q_iaddE dX3_add_35 (by intro j1 j2 j3 j4; exact om_0fb085fe b3.2 b3.1 h5 h6 h22) ?_
    intro v23 h24
    refine q_putI dX3_add_36 fl3_25 (kR9 hS17.1 ta0) (Or.inl rfl) hS17 ta0 (by show (0 : Int) ≤ v23.toInt ∧ v23.toInt ≤ (6 : Int); exact om_2c6378a2 b3.2 b3.1 h5 h6 h22 h24) rfl (by decide +kernel) ?_
    intro I25 hS26 e27 f28
    exact tr_vret hZ dX3_add_39 rfl (by decide) (by decide) ⟨rfl, rfl, rfl, rfl, rfl, rfl, hS26, trivial⟩
def wi_X3_addDrawn : List Nat := [577, 578, 1919, 1983]
def wr_X3_addDrawn : List Nat := []
set_option maxHeartbeats 4000000 in
theorem k_X3_addDrawn {l : Launch} {T : Nat → Nat} {cn : Nat} {K N : Nat → Nat} {I0 : cz_I} {R0 : cz_R} {L0 : cz_L} {d : Int} (hW0 : Wf T cn K N I0 R0 d) {a0 : Nat} (ta0 : T a0 = 9) {x1 : Int32} (hx1 : 0 ≤ x1.toInt ∧ x1.toInt ≤ 240) : ConE l mX3_addDrawn [.ref a0, .int x1] cn K N I0 R0 L0 (ca_i (fun v cn' K' N' I' R' L' => cn = cn' ∧ K = K' ∧ N = N' ∧ R0 = R' ∧ L0 = L' ∧ St T cn K N d wi_X3_addDrawn wr_X3_addDrawn I0 R0 I' R0 ∧ (0 ≤ v.toInt ∧ v.toInt ≤ 239) ∧ True)) := by
  refine ConE.of (by decide +kernel) rfl (Nat.le_of_ble_eq_true rfl) rfl (fun X hX hZ hE => ?_)
  subst hX
  have hS0 : St T cn K N d wi_X3_addDrawn wr_X3_addDrawn I0 R0 I0 R0 := St.rf0 hW0
  refine tr_aload_n dX3_addDrawn_0 rfl ?_
  refine tr_iload_n dX3_addDrawn_1 rfl ?_
  refine q_callVi hE (M' := mX3_drawBelow) (as := [_]) dX3_addDrawn_2 lk3_28 inX3_drawBelow seX3_drawBelow myX3_drawBelow (by decide) ⟨by decide, by decide⟩ rfl (kR9 hS0.1 ta0) (Nat.le_of_ble_eq_true rfl) rfl rfl (by decide) (by decide) (k_X3_drawBelow hS0.1 ta0 (by exact om_d956ef70 hx1)) ?_
  rintro v5 cn' K' N' I1 R2 L3 ⟨rfl, rfl, rfl, rfl, rfl, g4, h6, -⟩
  have hS7 := hS0.tr g4 (by decide +kernel) (by decide +kernel)
  refine tr_istore_n dX3_addDrawn_5 (by decide) (by decide) ?_
  refine q_iconst dX3_addDrawn_6 (by decide) ?_
  intro v8 h9
  refine tr_aload_n dX3_addDrawn_7 rfl ?_
  refine q_bipush dX3_addDrawn_8 (by decide +kernel) ?_
  intro v10 h11
  refine q_callVi hE (M' := mX3_drawBelow) (as := [_]) dX3_addDrawn_10 lk3_28 inX3_drawBelow seX3_drawBelow myX3_drawBelow (by decide) ⟨by decide, by decide⟩ rfl (kR9 hS7.1 ta0) (Nat.le_of_ble_eq_true rfl) rfl rfl (by decide) (by decide) (k_X3_drawBelow hS7.1 ta0 (by exact om_6fa0956e h11)) ?_
  rintro v16 cn' K' N' I12 R13 L14 ⟨rfl, rfl, rfl, rfl, rfl, g15, h17, -⟩
  have hS18 := hS7.tr g15 (by decide +kernel) (by decide +kernel)
  refine q_iaddE dX3_addDrawn_13 (by intro j1 j2 j3 j4; exact om_57cfbf44 h9 h17.2 h17.1) ?_
  intro v19 h20
  refine tr_istore_n dX3_addDrawn_14 (by decide) (by decide) ?_
  refine tr_aload_n dX3_addDrawn_15 rfl ?_
  refine tr_iload_n dX3_addDrawn_16 rfl ?_
  refine tr_iload_n dX3_addDrawn_17 rfl ?_
  refine tr_iload_n dX3_addDrawn_18 rfl ?_
  refine q_iaddE dX3_addDrawn_19 (by intro j1 j2 j3 j4; exact om_41648b6b h6.2 h6.1 h9 h17.2 h17.1 h20) ?_
  intro v21 h22
  refine tr_iload_n dX3_addDrawn_20 rfl ?_
  refine q_mmin dX3_addDrawn_21 lk3_32 (by decide) (Nat.le_of_ble_eq_true rfl) (by decide) (by decide) ?_
  intro v23 h24
  refine q_callVv hE (M' := mX3_add) (as := [_, _]) dX3_addDrawn_24 lk3_38 inX3_add seX3_add myX3_add (by decide) ⟨by decide, by decide⟩ rfl (kR9 hS18.1 ta0) (Nat.le_of_ble_eq_true rfl) rfl rfl (by decide) (by decide) (k_X3_add hS18.1 ta0 (by exact om_e3386c53 h6.2 h6.1 h22) (by exact om_7442ebf1 hx1.2 hx1.1 h6.2 h6.1 h9 h17.2 h17.1 h20 h22 h24.1 h24.2.2)) ?_
  rintro cn' K' N' I25 R26 L27 ⟨rfl, rfl, rfl, rfl, rfl, g28, -⟩
  have hS30 := hS18.tr g28 (by decide +kernel) (by decide +kernel)
  refine tr_iload_n dX3_addDrawn_27 rfl ?_
  exact tr_iret hZ dX3_addDrawn_28 rfl (by decide) (by decide) ⟨v5, rfl, rfl, rfl, rfl, rfl, rfl, hS30, (by exact om_87537644 h6), trivial⟩
def wi_X10_event : List Nat := [81]
def wr_X10_event : List Nat := []
set_option maxHeartbeats 4000000 in
theorem k_X10_event {l : Launch} {T : Nat → Nat} {cn : Nat} {K N : Nat → Nat} {I0 : cz_I} {R0 : cz_R} {L0 : cz_L} {d : Int} (hW0 : Wf T cn K N I0 R0 d) {a0 : Nat} (ta0 : T a0 = 1) {x1 : Int32} {x2 : Int32} : ConE l mX10_event [.ref a0, .int x1, .int x2] cn K N I0 R0 L0 (ca_i (fun v cn' K' N' I' R' L' => cn = cn' ∧ K = K' ∧ N = N' ∧ R0 = R' ∧ L0 = L' ∧ St T cn K N d wi_X10_event wr_X10_event I0 R0 I' R0 ∧ True)) := by
  refine ConE.of (by decide +kernel) rfl (Nat.le_of_ble_eq_true rfl) rfl (fun X hX hZ hE => ?_)
  subst hX
  have hS0 : St T cn K N d wi_X10_event wr_X10_event I0 R0 I0 R0 := St.rf0 hW0
  refine tr_aload_n dX10_event_0 rfl ?_
  refine tr_iload_n dX10_event_1 rfl ?_
  obtain ⟨a1, d2, ta1⟩ := rf1_2 hW0 ta0
  obtain ⟨v3, c4⟩ : ∃ v, I0 a1 3 = v := ⟨_, rfl⟩
  have b5 := iv2_3 hW0 ta1 c4
  obtain ⟨a6, d7, ta6⟩ := rf1_6 hW0 ta0
  obtain ⟨v8, c9⟩ : ∃ v, I0 a6 2 = v := ⟨_, rfl⟩
  have b10 := iv8_2 hW0 ta6 c9
  refine q_callVi hE (M' := mX10_isEvent) (as := [_]) dX10_event_2 lk10_234 inX10_isEvent seX10_isEvent myX10_isEvent (by decide) ⟨by decide, by decide⟩ rfl (kR1 hS0.1 ta0) (Nat.le_of_ble_eq_true rfl) rfl rfl (by decide) (by decide) (k_X10_isEvent hS0.1 ta0) ?_
  rintro v15 cn' K' N' I11 R12 L13 ⟨rfl, rfl, rfl, rfl, rfl, rfl, h16, p17, -⟩
  have p18 := p17 _ d2 _ d7
  clear p17
  rw [c4] at p18
  rw [c9] at p18
  refine q_if_ne 14 dX10_event_5 (by decide) (fun h19 => ?_) (fun h19 => ?_)
  · skip
    refine tr_iload_n dX10_event_14 rfl ?_
    refine tr_aload_n dX10_event_15 rfl ?_
    refine tr_getR dX10_event_16 fl10_16 (kR1 hS0.1 ta0) d2 ?_
    refine q_getI dX10_event_19 fl10_311 (kR2 hS0.1 ta1) c4 ?_
    refine q_icmp_ge 29 dX10_event_22 (by decide) (fun h20 => ?_) (fun h20 => ?_)
    · skip
      refine q_iconst dX10_event_29 (by decide) ?_
      intro v21 h22
      refine tr_istore_n dX10_event_30 (by decide) (by decide) ?_
      refine tr_iload_n dX10_event_31 rfl ?_
      by_cases h23 : x2.toInt = 0
      · skip
        refine tr_tabIn (off := 32) 64 dX10_event_32 (by exact om_7c055b42 h23) (by exact om_0e9741b2 h23) (by rw [h23]; decide +kernel) (by decide) ?_
        refine tr_aload_n dX10_event_64 rfl ?_
        refine tr_iload_n dX10_event_65 rfl ?_
        refine q_if_eq 84 dX10_event_66 (by decide) (fun h24 => ?_) (fun h24 => ?_)
        · skip
          refine q_iconst dX10_event_84 (by decide) ?_
          intro v25 h26
          refine q_callVi hE (M' := mX10_answered) (as := [_]) dX10_event_85 lk10_109 inX10_answered seX10_answered myX10_answered (by decide) ⟨by decide, by decide⟩ rfl (kR1 hS0.1 ta0) (Nat.le_of_ble_eq_true rfl) rfl rfl (by decide) (by decide) (k_X10_answered hS0.1 ta0) ?_
          rintro v31 cn' K' N' I27 R28 L29 ⟨rfl, rfl, rfl, rfl, rfl, g30, -⟩
          have hS32 := hS0.tr g30 (by decide +kernel) (by decide +kernel)
          exact tr_iret hZ dX10_event_88 rfl (by decide) (by decide) ⟨v31, rfl, rfl, rfl, rfl, rfl, rfl, hS32, trivial⟩
        · skip
          exfalso; exact om_3a97d4a5 h22 h24
      · skip
        by_cases h33 : x2.toInt = 1
        · skip
          refine tr_tabIn (off := 57) 89 dX10_event_32 (by exact om_6183b2fb h33) (by exact om_abf3c1b2 h33) (by rw [h33]; decide +kernel) (by decide) ?_
          refine tr_aload_n dX10_event_89 rfl ?_
          refine tr_iload_n dX10_event_90 rfl ?_
          refine q_if_eq 109 dX10_event_91 (by decide) (fun h34 => ?_) (fun h34 => ?_)
          · skip
            refine q_bipush dX10_event_109 (by decide +kernel) ?_
            intro v35 h36
            refine q_callVi hE (M' := mX10_answered) (as := [_]) dX10_event_111 lk10_109 inX10_answered seX10_answered myX10_answered (by decide) ⟨by decide, by decide⟩ rfl (kR1 hS0.1 ta0) (Nat.le_of_ble_eq_true rfl) rfl rfl (by decide) (by decide) (k_X10_answered hS0.1 ta0) ?_
            rintro v41 cn' K' N' I37 R38 L39 ⟨rfl, rfl, rfl, rfl, rfl, g40, -⟩
            have hS42 := hS0.tr g40 (by decide +kernel) (by decide +kernel)
            exact tr_iret hZ dX10_event_114 rfl (by decide) (by decide) ⟨v41, rfl, rfl, rfl, rfl, rfl, rfl, hS42, trivial⟩
          · skip
            exfalso; exact om_3a97d4a5 h22 h34
        · skip
          by_cases h43 : x2.toInt = 2
          · skip
            refine tr_tabIn (off := 83) 115 dX10_event_32 (by exact om_1174f472 h43) (by exact om_1555d2b1 h43) (by rw [h43]; decide +kernel) (by decide) ?_
            refine tr_aload_n dX10_event_115 rfl ?_
            refine tr_aload_n dX10_event_116 rfl ?_
            refine tr_iload_n dX10_event_117 rfl ?_
            refine q_callVi hE (M' := mX10_eventFrom) (as := [_]) dX10_event_118 lk10_228 inX10_eventFrom seX10_eventFrom myX10_eventFrom (by decide) ⟨by decide, by decide⟩ rfl (kR1 hS0.1 ta0) (Nat.le_of_ble_eq_true rfl) rfl rfl (by decide) (by decide) (k_X10_eventFrom hS0.1 ta0 (by exact om_f506c33d b5.2 b5.1 h20) (fun q0 z0 => fun q1 z1 => by obtain rfl := Option.some.inj ((d2).symm.trans z0); obtain rfl := Option.some.inj ((d7).symm.trans z1); (try rw [c4]); (try rw [c9]); (try exact om_b0546d98 h16.2 h16.1 p18 h19 h23 h33 h43))) ?_
            rintro v48 cn' K' N' I44 R45 L46 ⟨rfl, rfl, rfl, rfl, rfl, rfl, -⟩
            refine q_callVi hE (M' := mX10_answered) (as := [_]) dX10_event_121 lk10_109 inX10_answered seX10_answered myX10_answered (by decide) ⟨by decide, by decide⟩ rfl (kR1 hS0.1 ta0) (Nat.le_of_ble_eq_true rfl) rfl rfl (by decide) (by decide) (k_X10_answered hS0.1 ta0) ?_
            rintro v53 cn' K' N' I49 R50 L51 ⟨rfl, rfl, rfl, rfl, rfl, g52, -⟩
            have hS54 := hS0.tr g52 (by decide +kernel) (by decide +kernel)
            exact tr_iret hZ dX10_event_124 rfl (by decide) (by decide) ⟨v53, rfl, rfl, rfl, rfl, rfl, rfl, hS54, trivial⟩
          · skip
            by_cases h55 : x2.toInt = 3
            · skip
              refine tr_tabIn (off := 93) 125 dX10_event_32 (by exact om_d4b200a6 h55) (by exact om_52bff43b h55) (by rw [h55]; decide +kernel) (by decide) ?_
              refine tr_aload_n dX10_event_125 rfl ?_
              refine tr_aload_n dX10_event_126 rfl ?_
              refine tr_iload_n dX10_event_127 rfl ?_
              refine q_callVi hE (M' := mX10_eventTo) (as := [_]) dX10_event_128 lk10_231 inX10_eventTo seX10_eventTo myX10_eventTo (by decide) ⟨by decide, by decide⟩ rfl (kR1 hS0.1 ta0) (Nat.le_of_ble_eq_true rfl) rfl rfl (by decide) (by decide) (k_X10_eventTo hS0.1 ta0 (by exact om_f506c33d b5.2 b5.1 h20) (fun q0 z0 => fun q1 z1 => by obtain rfl := Option.some.inj ((d2).symm.trans z0); obtain rfl := Option.some.inj ((d7).symm.trans z1); (try rw [c4]); (try rw [c9]); (try exact om_81aaabda h16.2 h16.1 p18 h19 h23 h33 h43 h55))) ?_
              rintro v60 cn' K' N' I56 R57 L58 ⟨rfl, rfl, rfl, rfl, rfl, rfl, -⟩
              refine q_callVi hE (M' := mX10_answered) (as := [_]) dX10_event_131 lk10_109 inX10_answered seX10_answered myX10_answered (by decide) ⟨by decide, by decide⟩ rfl (kR1 hS0.1 ta0) (Nat.le_of_ble_eq_true rfl) rfl rfl (by decide) (by decide) (k_X10_answered hS0.1 ta0) ?_
              rintro v65 cn' K' N' I61 R62 L63 ⟨rfl, rfl, rfl, rfl, rfl, g64, -⟩
              have hS66 := hS0.tr g64 (by decide +kernel) (by decide +kernel)
              exact tr_iret hZ dX10_event_134 rfl (by decide) (by decide) ⟨v65, rfl, rfl, rfl, rfl, rfl, rfl, hS66, trivial⟩
            · skip
              refine tr_tabOut 135 dX10_event_32 (by exact om_4f2b3e28 h23 h33 h43 h55) (by decide) ?_
              refine tr_aload_n dX10_event_135 rfl ?_
              refine q_iconst dX10_event_136 (by decide) ?_
              intro v67 h68
              refine q_callVi hE (M' := mX10_refused) (as := [_]) dX10_event_137 lk10_79 inX10_refused seX10_refused myX10_refused (by decide) ⟨by decide, by decide⟩ rfl (kR1 hS0.1 ta0) (Nat.le_of_ble_eq_true rfl) rfl rfl (by decide) (by decide) (k_X10_refused hS0.1 ta0) ?_
              rintro v73 cn' K' N' I69 R70 L71 ⟨rfl, rfl, rfl, rfl, rfl, g72, -⟩
              have hS74 := hS0.tr g72 (by decide +kernel) (by decide +kernel)
              exact tr_iret hZ dX10_event_140 rfl (by decide) (by decide) ⟨v73, rfl, rfl, rfl, rfl, rfl, rfl, hS74, trivial⟩
    · skip
      refine q_iconst dX10_event_25 (by decide) ?_
      intro v75 h76
      refine tr_goto 30 dX10_event_26 (by decide) ?_
      refine tr_istore_n dX10_event_30 (by decide) (by decide) ?_
      refine tr_iload_n dX10_event_31 rfl ?_
      by_cases h77 : x2.toInt = 0
      · skip
        refine tr_tabIn (off := 32) 64 dX10_event_32 (by exact om_7c055b42 h77) (by exact om_0e9741b2 h77) (by rw [h77]; decide +kernel) (by decide) ?_
        refine tr_aload_n dX10_event_64 rfl ?_
        refine tr_iload_n dX10_event_65 rfl ?_
        refine q_if_eq 84 dX10_event_66 (by decide) (fun h78 => ?_) (fun h78 => ?_)
        · skip
          exfalso; exact om_3624102b h76 h78
        · skip
          refine tr_aload_n dX10_event_69 rfl ?_
          refine tr_getR dX10_event_70 fl10_16 (kR1 hS0.1 ta0) d2 ?_
          obtain ⟨a79, d80, ta79⟩ := rf2_4 hW0 ta1
          refine tr_getR dX10_event_73 fl10_313 (kR2 hS0.1 ta1) d80 ?_
          refine tr_iload_n dX10_event_76 rfl ?_
          obtain ⟨a81, d82, ta81⟩ := rf19 hS0.1 ta79 (j := x1.toNatClampNeg) (ti_lt (by exact om_0c75480f h16.2 h16.1 p18 h19 h76 h78) (by exact om_d7ac722a b5.2 b5.1 h20))
          refine tr_aald dX10_event_77 (kR19 hS0.1 ta79) (by decide) (by decide) (ti_in (nR19 hS0.1 ta79) (by exact om_0c75480f h16.2 h16.1 p18 h19 h76 h78) (by exact om_d7ac722a b5.2 b5.1 h20)) d82 ?_
          obtain ⟨v83, c84⟩ : ∃ v, I0 a81 0 = v := ⟨_, rfl⟩
          refine q_getI dX10_event_78 fl10_317 (kR3 hS0.1 ta81) c84 ?_
          refine tr_goto 85 dX10_event_81 (by decide) ?_
          refine q_callVi hE (M' := mX10_answered) (as := [_]) dX10_event_85 lk10_109 inX10_answered seX10_answered myX10_answered (by decide) ⟨by decide, by decide⟩ rfl (kR1 hS0.1 ta0) (Nat.le_of_ble_eq_true rfl) rfl rfl (by decide) (by decide) (k_X10_answered hS0.1 ta0) ?_
          rintro v89 cn' K' N' I85 R86 L87 ⟨rfl, rfl, rfl, rfl, rfl, g88, -⟩
          have hS90 := hS0.tr g88 (by decide +kernel) (by decide +kernel)
          exact tr_iret hZ dX10_event_88 rfl (by decide) (by decide) ⟨v89, rfl, rfl, rfl, rfl, rfl, rfl, hS90, trivial⟩
      · skip
        by_cases h91 : x2.toInt = 1
        · skip
          refine tr_tabIn (off := 57) 89 dX10_event_32 (by exact om_6183b2fb h91) (by exact om_abf3c1b2 h91) (by rw [h91]; decide +kernel) (by decide) ?_
          refine tr_aload_n dX10_event_89 rfl ?_
          refine tr_iload_n dX10_event_90 rfl ?_
          refine q_if_eq 109 dX10_event_91 (by decide) (fun h92 => ?_) (fun h92 => ?_)
          · skip
            exfalso; exact om_3624102b h76 h92
          · skip
            refine tr_aload_n dX10_event_94 rfl ?_
            refine tr_getR dX10_event_95 fl10_16 (kR1 hS0.1 ta0) d2 ?_
            obtain ⟨a93, d94, ta93⟩ := rf2_4 hW0 ta1
            refine tr_getR dX10_event_98 fl10_313 (kR2 hS0.1 ta1) d94 ?_
            refine tr_iload_n dX10_event_101 rfl ?_
            obtain ⟨a95, d96, ta95⟩ := rf19 hS0.1 ta93 (j := x1.toNatClampNeg) (ti_lt (by exact om_d80f7614 h16.2 h16.1 p18 h19 h76 h77 h91 h92) (by exact om_d7ac722a b5.2 b5.1 h20))
            refine tr_aald dX10_event_102 (kR19 hS0.1 ta93) (by decide) (by decide) (ti_in (nR19 hS0.1 ta93) (by exact om_d80f7614 h16.2 h16.1 p18 h19 h76 h77 h91 h92) (by exact om_d7ac722a b5.2 b5.1 h20)) d96 ?_
            obtain ⟨v97, c98⟩ : ∃ v, I0 a95 1 = v := ⟨_, rfl⟩
            refine q_getI dX10_event_103 fl10_322 (kR3 hS0.1 ta95) c98 ?_
            refine tr_goto 111 dX10_event_106 (by decide) ?_
            refine q_callVi hE (M' := mX10_answered) (as := [_]) dX10_event_111 lk10_109 inX10_answered seX10_answered myX10_answered (by decide) ⟨by decide, by decide⟩ rfl (kR1 hS0.1 ta0) (Nat.le_of_ble_eq_true rfl) rfl rfl (by decide) (by decide) (k_X10_answered hS0.1 ta0) ?_
            rintro v103 cn' K' N' I99 R100 L101 ⟨rfl, rfl, rfl, rfl, rfl, g102, -⟩
            have hS104 := hS0.tr g102 (by decide +kernel) (by decide +kernel)
            exact tr_iret hZ dX10_event_114 rfl (by decide) (by decide) ⟨v103, rfl, rfl, rfl, rfl, rfl, rfl, hS104, trivial⟩
        · skip
          by_cases h105 : x2.toInt = 2
          · skip
            refine tr_tabIn (off := 83) 115 dX10_event_32 (by exact om_1174f472 h105) (by exact om_1555d2b1 h105) (by rw [h105]; decide +kernel) (by decide) ?_
            refine tr_aload_n dX10_event_115 rfl ?_
            refine tr_aload_n dX10_event_116 rfl ?_
            refine tr_iload_n dX10_event_117 rfl ?_
            refine q_callVi hE (M' := mX10_eventFrom) (as := [_]) dX10_event_118 lk10_228 inX10_eventFrom seX10_eventFrom myX10_eventFrom (by decide) ⟨by decide, by decide⟩ rfl (kR1 hS0.1 ta0) (Nat.le_of_ble_eq_true rfl) rfl rfl (by decide) (by decide) (k_X10_eventFrom hS0.1 ta0 (by exact om_de9cccd3 h16.2 h16.1 p18 h19 h77 h91 h105) (fun q0 z0 => fun q1 z1 => by obtain rfl := Option.some.inj ((d2).symm.trans z0); obtain rfl := Option.some.inj ((d7).symm.trans z1); (try rw [c4]); (try rw [c9]); (try exact om_dff7202b b10.2 b10.1 h20))) ?_
            rintro v110 cn' K' N' I106 R107 L108 ⟨rfl, rfl, rfl, rfl, rfl, rfl, -⟩
            refine q_callVi hE (M' := mX10_answered) (as := [_]) dX10_event_121 lk10_109 inX10_answered seX10_answered myX10_answered (by decide) ⟨by decide, by decide⟩ rfl (kR1 hS0.1 ta0) (Nat.le_of_ble_eq_true rfl) rfl rfl (by decide) (by decide) (k_X10_answered hS0.1 ta0) ?_
            rintro v115 cn' K' N' I111 R112 L113 ⟨rfl, rfl, rfl, rfl, rfl, g114, -⟩
            have hS116 := hS0.tr g114 (by decide +kernel) (by decide +kernel)
            exact tr_iret hZ dX10_event_124 rfl (by decide) (by decide) ⟨v115, rfl, rfl, rfl, rfl, rfl, rfl, hS116, trivial⟩
          · skip
            by_cases h117 : x2.toInt = 3
            · skip
              refine tr_tabIn (off := 93) 125 dX10_event_32 (by exact om_d4b200a6 h117) (by exact om_52bff43b h117) (by rw [h117]; decide +kernel) (by decide) ?_
              refine tr_aload_n dX10_event_125 rfl ?_
              refine tr_aload_n dX10_event_126 rfl ?_
              refine tr_iload_n dX10_event_127 rfl ?_
              refine q_callVi hE (M' := mX10_eventTo) (as := [_]) dX10_event_128 lk10_231 inX10_eventTo seX10_eventTo myX10_eventTo (by decide) ⟨by decide, by decide⟩ rfl (kR1 hS0.1 ta0) (Nat.le_of_ble_eq_true rfl) rfl rfl (by decide) (by decide) (k_X10_eventTo hS0.1 ta0 (by exact om_2605c8d5 h16.2 h16.1 p18 h19 h77 h91 h105 h117) (fun q0 z0 => fun q1 z1 => by obtain rfl := Option.some.inj ((d2).symm.trans z0); obtain rfl := Option.some.inj ((d7).symm.trans z1); (try rw [c4]); (try rw [c9]); (try exact om_dff7202b b10.2 b10.1 h20))) ?_
              rintro v122 cn' K' N' I118 R119 L120 ⟨rfl, rfl, rfl, rfl, rfl, rfl, -⟩
              refine q_callVi hE (M' := mX10_answered) (as := [_]) dX10_event_131 lk10_109 inX10_answered seX10_answered myX10_answered (by decide) ⟨by decide, by decide⟩ rfl (kR1 hS0.1 ta0) (Nat.le_of_ble_eq_true rfl) rfl rfl (by decide) (by decide) (k_X10_answered hS0.1 ta0) ?_
              rintro v127 cn' K' N' I123 R124 L125 ⟨rfl, rfl, rfl, rfl, rfl, g126, -⟩
              have hS128 := hS0.tr g126 (by decide +kernel) (by decide +kernel)
              exact tr_iret hZ dX10_event_134 rfl (by decide) (by decide) ⟨v127, rfl, rfl, rfl, rfl, rfl, rfl, hS128, trivial⟩
            · skip
              refine tr_tabOut 135 dX10_event_32 (by exact om_4f2b3e28 h77 h91 h105 h117) (by decide) ?_
              refine tr_aload_n dX10_event_135 rfl ?_
              refine q_iconst dX10_event_136 (by decide) ?_
              intro v129 h130
              refine q_callVi hE (M' := mX10_refused) (as := [_]) dX10_event_137 lk10_79 inX10_refused seX10_refused myX10_refused (by decide) ⟨by decide, by decide⟩ rfl (kR1 hS0.1 ta0) (Nat.le_of_ble_eq_true rfl) rfl rfl (by decide) (by decide) (k_X10_refused hS0.1 ta0) ?_
              rintro v135 cn' K' N' I131 R132 L133 ⟨rfl, rfl, rfl, rfl, rfl, g134, -⟩
              have hS136 := hS0.tr g134 (by decide +kernel) (by decide +kernel)
              exact tr_iret hZ dX10_event_140 rfl (by decide) (by decide) ⟨v135, rfl, rfl, rfl, rfl, rfl, rfl, hS136, trivial⟩
  · skip
    refine tr_aload_n dX10_event_8 rfl ?_
    refine q_iconst dX10_event_9 (by decide) ?_
    intro v137 h138
    refine q_callVi hE (M' := mX10_refused) (as := [_]) dX10_event_10 lk10_79 inX10_refused seX10_refused myX10_refused (by decide) ⟨by decide, by decide⟩ rfl (kR1 hS0.1 ta0) (Nat.le_of_ble_eq_true rfl) rfl rfl (by decide) (by decide) (k_X10_refused hS0.1 ta0) ?_
    rintro v143 cn' K' N' I139 R140 L141 ⟨rfl, rfl, rfl, rfl, rfl, g142, -⟩
    have hS144 := hS0.tr g142 (by decide +kernel) (by decide +kernel)
    exact tr_iret hZ dX10_event_13 rfl (by decide) (by decide) ⟨v143, rfl, rfl, rfl, rfl, rfl, rfl, hS144, trivial⟩
set_option maxHeartbeats 4000000 in
theorem k_X10_size {l : Launch} {T : Nat → Nat} {cn : Nat} {K N : Nat → Nat} {I0 : cz_I} {R0 : cz_R} {L0 : cz_L} {d : Int} (hW0 : Wf T cn K N I0 R0 d) {a0 : Nat} (ta0 : T a0 = 1) {x1 : Int32} : ConE l mX10_size [.ref a0, .int x1] cn K N I0 R0 L0 (ca_i (fun v cn' K' N' I' R' L' => cn = cn' ∧ K = K' ∧ N = N' ∧ I0 = I' ∧ R0 = R' ∧ L0 = L' ∧ True)) := by
  refine ConE.of (by decide +kernel) rfl (Nat.le_of_ble_eq_true rfl) rfl (fun X hX hZ hE => ?_)
  subst hX
  refine tr_iload_n dX10_size_0 rfl ?_
  by_cases h1 : x1.toInt = 0
  · skip
    refine tr_tabIn (off := 67) 68 dX10_size_1 (by exact om_7c055b42 h1) (by exact om_dcbf4cd2 h1) (by rw [h1]; decide +kernel) (by decide) ?_
    refine tr_aload_n dX10_size_68 rfl ?_
    obtain ⟨a2, d3, ta2⟩ := rf1_2 hW0 ta0
    refine tr_getR dX10_size_69 fl10_16 (kR1 hW0 ta0) d3 ?_
    obtain ⟨v4, c5⟩ : ∃ v, I0 a2 0 = v := ⟨_, rfl⟩
    have b6 := iv2_0 hW0 ta2 c5
    refine q_getI dX10_size_72 fl10_146 (kR2 hW0 ta2) c5 ?_
    exact tr_iret hZ dX10_size_75 rfl (by decide) (by decide) ⟨v4, rfl, rfl, rfl, rfl, rfl, rfl, rfl, trivial⟩
  · skip
    by_cases h7 : x1.toInt = 1
    · skip
      refine tr_tabIn (off := 75) 76 dX10_size_1 (by exact om_6183b2fb h7) (by exact om_15856cf6 h7) (by rw [h7]; decide +kernel) (by decide) ?_
      refine tr_aload_n dX10_size_76 rfl ?_
      obtain ⟨a8, d9, ta8⟩ := rf1_2 hW0 ta0
      refine tr_getR dX10_size_77 fl10_16 (kR1 hW0 ta0) d9 ?_
      obtain ⟨v10, c11⟩ : ∃ v, I0 a8 1 = v := ⟨_, rfl⟩
      have b12 := iv2_1 hW0 ta8 c11
      refine q_getI dX10_size_80 fl10_332 (kR2 hW0 ta8) c11 ?_
      exact tr_iret hZ dX10_size_83 rfl (by decide) (by decide) ⟨v10, rfl, rfl, rfl, rfl, rfl, rfl, rfl, trivial⟩
    · skip
      by_cases h13 : x1.toInt = 2
      · skip
        refine tr_tabIn (off := 83) 84 dX10_size_1 (by exact om_1174f472 h13) (by exact om_90ff4fc7 h13) (by rw [h13]; decide +kernel) (by decide) ?_
        refine tr_aload_n dX10_size_84 rfl ?_
        obtain ⟨a14, d15, ta14⟩ := rf1_2 hW0 ta0
        refine tr_getR dX10_size_85 fl10_16 (kR1 hW0 ta0) d15 ?_
        obtain ⟨v16, c17⟩ : ∃ v, I0 a14 3 = v := ⟨_, rfl⟩
        have b18 := iv2_3 hW0 ta14 c17
        refine q_getI dX10_size_88 fl10_311 (kR2 hW0 ta14) c17 ?_
        exact tr_iret hZ dX10_size_91 rfl (by decide) (by decide) ⟨v16, rfl, rfl, rfl, rfl, rfl, rfl, rfl, trivial⟩
      · skip
        by_cases h19 : x1.toInt = 3
        · skip
          refine tr_tabIn (off := 91) 92 dX10_size_1 (by exact om_d4b200a6 h19) (by exact om_60ba2561 h19) (by rw [h19]; decide +kernel) (by decide) ?_
          refine tr_aload_n dX10_size_92 rfl ?_
          obtain ⟨a20, d21, ta20⟩ := rf1_6 hW0 ta0
          refine tr_getR dX10_size_93 fl10_35 (kR1 hW0 ta0) d21 ?_
          obtain ⟨v22, c23⟩ : ∃ v, I0 a20 2 = v := ⟨_, rfl⟩
          have b24 := iv8_2 hW0 ta20 c23
          refine q_getI dX10_size_96 fl10_272 (kR8 hW0 ta20) c23 ?_
          exact tr_iret hZ dX10_size_99 rfl (by decide) (by decide) ⟨v22, rfl, rfl, rfl, rfl, rfl, rfl, rfl, trivial⟩
        · skip
          by_cases h25 : x1.toInt = 4
          · skip
            refine tr_tabIn (off := 99) 100 dX10_size_1 (by exact om_d336d452 h25) (by exact om_7bbc1002 h25) (by rw [h25]; decide +kernel) (by decide) ?_
            refine tr_aload_n dX10_size_100 rfl ?_
            obtain ⟨a26, d27, ta26⟩ := rf1_2 hW0 ta0
            refine tr_getR dX10_size_101 fl10_16 (kR1 hW0 ta0) d27 ?_
            obtain ⟨v28, c29⟩ : ∃ v, I0 a26 5 = v := ⟨_, rfl⟩
            have b30 := iv2_5 hW0 ta26 c29
            refine q_getI dX10_size_104 fl10_106 (kR2 hW0 ta26) c29 ?_
            exact tr_iret hZ dX10_size_107 rfl (by decide) (by decide) ⟨v28, rfl, rfl, rfl, rfl, rfl, rfl, rfl, trivial⟩
          · skip
            by_cases h31 : x1.toInt = 5
            · skip
              refine tr_tabIn (off := 107) 108 dX10_size_1 (by exact om_d3aa380d h31) (by exact om_74b906af h31) (by rw [h31]; decide +kernel) (by decide) ?_
              refine tr_aload_n dX10_size_108 rfl ?_
              obtain ⟨a32, d33, ta32⟩ := rf1_2 hW0 ta0
              refine tr_getR dX10_size_109 fl10_16 (kR1 hW0 ta0) d33 ?_
              obtain ⟨v34, c35⟩ : ∃ v, I0 a32 9 = v := ⟨_, rfl⟩
              have b36 := iv2_9 hW0 ta32 c35
              refine q_getI dX10_size_112 fl10_335 (kR2 hW0 ta32) c35 ?_
              exact tr_iret hZ dX10_size_115 rfl (by decide) (by decide) ⟨v34, rfl, rfl, rfl, rfl, rfl, rfl, rfl, trivial⟩
            · skip
              by_cases h37 : x1.toInt = 6
              · skip
                refine tr_tabIn (off := 115) 116 dX10_size_1 (by exact om_59370c92 h37) (by exact om_ba9ed9a6 h37) (by rw [h37]; decide +kernel) (by decide) ?_
                refine tr_aload_n dX10_size_116 rfl ?_
                obtain ⟨a38, d39, ta38⟩ := rf1_2 hW0 ta0
                refine tr_getR dX10_size_117 fl10_16 (kR1 hW0 ta0) d39 ?_
                obtain ⟨v40, c41⟩ : ∃ v, I0 a38 11 = v := ⟨_, rfl⟩
                have b42 := iv2_11 hW0 ta38 c41
                refine q_getI dX10_size_120 fl10_278 (kR2 hW0 ta38) c41 ?_
                exact tr_iret hZ dX10_size_123 rfl (by decide) (by decide) ⟨v40, rfl, rfl, rfl, rfl, rfl, rfl, rfl, trivial⟩
              · skip
                by_cases h43 : x1.toInt = 7
                · skip
                  refine tr_tabIn (off := 123) 124 dX10_size_1 (by exact om_cec2ae46 h43) (by exact om_7c9a626b h43) (by rw [h43]; decide +kernel) (by decide) ?_
                  refine tr_aload_n dX10_size_124 rfl ?_
                  obtain ⟨a44, d45, ta44⟩ := rf1_2 hW0 ta0
                  refine tr_getR dX10_size_125 fl10_16 (kR1 hW0 ta0) d45 ?_
                  obtain ⟨v46, c47⟩ : ∃ v, I0 a44 13 = v := ⟨_, rfl⟩
                  have b48 := iv2_13 hW0 ta44 c47
                  refine q_getI dX10_size_128 fl10_338 (kR2 hW0 ta44) c47 ?_
                  exact tr_iret hZ dX10_size_131 rfl (by decide) (by decide) ⟨v46, rfl, rfl, rfl, rfl, rfl, rfl, rfl, trivial⟩
                · skip
                  by_cases h49 : x1.toInt = 8
                  · skip
                    refine tr_tabIn (off := 131) 132 dX10_size_1 (by exact om_e7d54e08 h49) (by exact om_c672036c h49) (by rw [h49]; decide +kernel) (by decide) ?_
                    refine tr_aload_n dX10_size_132 rfl ?_
                    obtain ⟨a50, d51, ta50⟩ := rf1_2 hW0 ta0
                    refine tr_getR dX10_size_133 fl10_16 (kR1 hW0 ta0) d51 ?_
                    obtain ⟨a52, d53, ta52⟩ := rf2_8 hW0 ta50
                    refine tr_getR dX10_size_136 fl10_341 (kR2 hW0 ta50) d53 ?_
                    obtain ⟨v54, c55⟩ : ∃ v, I0 a52 0 = v := ⟨_, rfl⟩
                    have b56 := iv6_0 hW0 ta52 c55
                    refine q_getI dX10_size_139 fl10_345 (kR6 hW0 ta52) c55 ?_
                    exact tr_iret hZ dX10_size_142 rfl (by decide) (by decide) ⟨v54, rfl, rfl, rfl, rfl, rfl, rfl, rfl, trivial⟩
                  · skip
                    by_cases h57 : x1.toInt = 9
                    · skip
                      refine tr_tabIn (off := 142) 143 dX10_size_1 (by exact om_5471ed28 h57) (by exact om_f9baa684 h57) (by rw [h57]; decide +kernel) (by decide) ?_
                      refine tr_aload_n dX10_size_143 rfl ?_
                      obtain ⟨a58, d59, ta58⟩ := rf1_6 hW0 ta0
                      refine tr_getR dX10_size_144 fl10_35 (kR1 hW0 ta0) d59 ?_
                      obtain ⟨v60, c61⟩ : ∃ v, I0 a58 1 = v := ⟨_, rfl⟩
                      have b62 := iv8_1 hW0 ta58 c61
                      refine q_getI dX10_size_147 fl10_269 (kR8 hW0 ta58) c61 ?_
                      exact tr_iret hZ dX10_size_150 rfl (by decide) (by decide) ⟨v60, rfl, rfl, rfl, rfl, rfl, rfl, rfl, trivial⟩
                    · skip
                      by_cases h63 : x1.toInt = 10
                      · skip
                        refine tr_tabIn (off := 150) 151 dX10_size_1 (by exact om_7c2750db h63) (by exact om_24f1d9df h63) (by rw [h63]; decide +kernel) (by decide) ?_
                        refine tr_aload_n dX10_size_151 rfl ?_
                        obtain ⟨a64, d65, ta64⟩ := rf1_7 hW0 ta0
                        refine tr_getR dX10_size_152 fl10_42 (kR1 hW0 ta0) d65 ?_
                        obtain ⟨v66, c67⟩ : ∃ v, I0 a64 0 = v := ⟨_, rfl⟩
                        have b68 := iv11_0 hW0 ta64 c67
                        refine q_getI dX10_size_155 fl10_350 (kR11 hW0 ta64) c67 ?_
                        exact tr_iret hZ dX10_size_158 rfl (by decide) (by decide) ⟨v66, rfl, rfl, rfl, rfl, rfl, rfl, rfl, trivial⟩
                      · skip
                        by_cases h69 : x1.toInt = 11
                        · skip
                          refine tr_tabIn (off := 158) 159 dX10_size_1 (by exact om_3c8fe726 h69) (by exact om_a26c9430 h69) (by rw [h69]; decide +kernel) (by decide) ?_
                          refine tr_aload_n dX10_size_159 rfl ?_
                          obtain ⟨a70, d71, ta70⟩ := rf1_7 hW0 ta0
                          refine tr_getR dX10_size_160 fl10_42 (kR1 hW0 ta0) d71 ?_
                          obtain ⟨v72, c73⟩ : ∃ v, I0 a70 2 = v := ⟨_, rfl⟩
                          have b74 := iv11_2 hW0 ta70 c73
                          refine q_getI dX10_size_163 fl10_353 (kR11 hW0 ta70) c73 ?_
                          exact tr_iret hZ dX10_size_166 rfl (by decide) (by decide) ⟨v72, rfl, rfl, rfl, rfl, rfl, rfl, rfl, trivial⟩
                        · skip
                          by_cases h75 : x1.toInt = 12
                          · skip
                            refine tr_tabIn (off := 166) 167 dX10_size_1 (by exact om_84aa3c97 h75) (by exact om_a55f19d4 h75) (by rw [h75]; decide +kernel) (by decide) ?_
                            refine tr_aload_n dX10_size_167 rfl ?_
                            obtain ⟨v76, c77⟩ : ∃ v, I0 a0 1 = v := ⟨_, rfl⟩
                            have b78 := iv1_1 hW0 ta0 c77
                            refine q_getI dX10_size_168 fl10_71 (kR1 hW0 ta0) c77 ?_
                            exact tr_iret hZ dX10_size_171 rfl (by decide) (by decide) ⟨v76, rfl, rfl, rfl, rfl, rfl, rfl, rfl, trivial⟩
                          · skip
                            refine tr_tabOut 172 dX10_size_1 (by exact om_da794a30 h1 h7 h13 h19 h25 h31 h37 h43 h49 h57 h63 h69 h75) (by decide) ?_
                            refine q_iconst dX10_size_172 (by decide) ?_
                            intro v79 h80
                            exact tr_iret hZ dX10_size_173 rfl (by decide) (by decide) ⟨v79, rfl, rfl, rfl, rfl, rfl, rfl, rfl, trivial⟩
