set_option maxHeartbeats 4000000 in
theorem k_X10_allCalls {l : Launch} {T : Nat → Nat} {cn : Nat} {K N : Nat → Nat} {I0 : cz_I} {R0 : cz_R} {L0 : cz_L} {d : Int} (hW0 : Wf T cn K N I0 R0 d) {a0 : Nat} (ta0 : T a0 = 1) : ConE l mX10_allCalls [.ref a0] cn K N I0 R0 L0 (ca_i (fun v cn' K' N' I' R' L' => cn = cn' ∧ K = K' ∧ N = N' ∧ I0 = I' ∧ R0 = R' ∧ L0 = L' ∧ (0 ≤ v.toInt ∧ v.toInt ≤ 63) ∧ True)) := by
  refine ConE.of (by decide +kernel) rfl (Nat.le_of_ble_eq_true rfl) rfl (fun X hX hZ hE => ?_)
  subst hX
  refine q_iconst dX10_allCalls_0 (by decide) ?_
  intro v1 h2
  refine tr_aload_n dX10_allCalls_1 rfl ?_
  obtain ⟨a3, d4, ta3⟩ := rf1_2 hW0 ta0
  refine tr_getR dX10_allCalls_2 fl10_16 (kR1 hW0 ta0) d4 ?_
  obtain ⟨v5, c6⟩ : ∃ v, I0 a3 11 = v := ⟨_, rfl⟩
  have b7 := iv2_11 hW0 ta3 c6
  refine q_getI dX10_allCalls_5 fl10_278 (kR2 hW0 ta3) c6 ?_
  refine q_ishlE dX10_allCalls_8 (by exact om_ee8a1e2d h2) (by exact om_cafeadf3 b7) ?_
  intro v8 h9
  refine q_iconst dX10_allCalls_9 (by decide) ?_
  intro v10 h11
  refine q_isubE dX10_allCalls_10 (by intro j1 j2 j3 j4; exact om_87919627 h9.2 h9.1 h11) ?_
  intro v12 h13
  exact tr_iret hZ dX10_allCalls_11 rfl (by decide) (by decide) ⟨v12, rfl, rfl, rfl, rfl, rfl, rfl, rfl, (by exact om_44eae9b2 h9.2 h9.1 h11 h13), trivial⟩
set_option maxHeartbeats 4000000 in
theorem k_J6_bitCount_0f7a4 {l : Launch} {T : Nat → Nat} {cn : Nat} {K N : Nat → Nat} {I0 : cz_I} {R0 : cz_R} {L0 : cz_L} {d : Int} (hW0 : Wf T cn K N I0 R0 d) {x0 : Int32} : ConE l mJ6_bitCount_0f7a4 [.int x0] cn K N I0 R0 L0 (ca_i (fun v cn' K' N' I' R' L' => cn = cn' ∧ K = K' ∧ N = N' ∧ I0 = I' ∧ R0 = R' ∧ L0 = L' ∧ True)) := by
  refine ConE.of (by decide +kernel) rfl (Nat.le_of_ble_eq_true rfl) rfl (fun X hX hZ hE => ?_)
  subst hX
  refine tr_iload_n dJ6_bitCount_0f7a4_0 rfl ?_
  refine tr_iload_n dJ6_bitCount_0f7a4_1 rfl ?_
  refine q_iconst dJ6_bitCount_0f7a4_2 (by decide) ?_
  intro v1 h2
  refine q_iushr dJ6_bitCount_0f7a4_3 ?_
  intro v3
  refine q_ldcw 1431655765 dJ6_bitCount_0f7a4_4 ld14_265 (by decide +kernel) ?_
  intro v4 h5
  refine q_iand dJ6_bitCount_0f7a4_7 ?_
  intro v6
  refine q_isub dJ6_bitCount_0f7a4_8 ?_
  intro v7
  refine tr_istore_n dJ6_bitCount_0f7a4_9 (by decide) (by decide) ?_
  refine tr_iload_n dJ6_bitCount_0f7a4_10 rfl ?_
  refine q_ldcw 858993459 dJ6_bitCount_0f7a4_11 ld14_266 (by decide +kernel) ?_
  intro v8 h9
  refine q_iand dJ6_bitCount_0f7a4_14 ?_
  intro v10
  refine tr_iload_n dJ6_bitCount_0f7a4_15 rfl ?_
  refine q_iconst dJ6_bitCount_0f7a4_16 (by decide) ?_
  intro v11 h12
  refine q_iushr dJ6_bitCount_0f7a4_17 ?_
  intro v13
  refine q_ldcw 858993459 dJ6_bitCount_0f7a4_18 ld14_266 (by decide +kernel) ?_
  intro v14 h15
  refine q_iand dJ6_bitCount_0f7a4_21 ?_
  intro v16
  refine q_iadd dJ6_bitCount_0f7a4_22 ?_
  intro v17
  refine tr_istore_n dJ6_bitCount_0f7a4_23 (by decide) (by decide) ?_
  refine tr_iload_n dJ6_bitCount_0f7a4_24 rfl ?_
  refine tr_iload_n dJ6_bitCount_0f7a4_25 rfl ?_
  refine q_iconst dJ6_bitCount_0f7a4_26 (by decide) ?_
  intro v18 h19
  refine q_iushr dJ6_bitCount_0f7a4_27 ?_
  intro v20
  refine q_iadd dJ6_bitCount_0f7a4_28 ?_
  intro v21
  refine q_ldcw 252645135 dJ6_bitCount_0f7a4_29 ld14_267 (by decide +kernel) ?_
  intro v22 h23
  refine q_iand dJ6_bitCount_0f7a4_32 ?_
  intro v24
  refine tr_istore_n dJ6_bitCount_0f7a4_33 (by decide) (by decide) ?_
  refine tr_iload_n dJ6_bitCount_0f7a4_34 rfl ?_
  refine tr_iload_n dJ6_bitCount_0f7a4_35 rfl ?_
  refine q_bipush dJ6_bitCount_0f7a4_36 (by decide +kernel) ?_
  intro v25 h26
  refine q_iushr dJ6_bitCount_0f7a4_38 ?_
  intro v27
  refine q_iadd dJ6_bitCount_0f7a4_39 ?_
  intro v28
  refine tr_istore_n dJ6_bitCount_0f7a4_40 (by decide) (by decide) ?_
  refine tr_iload_n dJ6_bitCount_0f7a4_41 rfl ?_
  refine tr_iload_n dJ6_bitCount_0f7a4_42 rfl ?_
  refine q_bipush dJ6_bitCount_0f7a4_43 (by decide +kernel) ?_
  intro v29 h30
  refine q_iushr dJ6_bitCount_0f7a4_45 ?_
  intro v31
  refine q_iadd dJ6_bitCount_0f7a4_46 ?_
  intro v32
  refine tr_istore_n dJ6_bitCount_0f7a4_47 (by decide) (by decide) ?_
  refine tr_iload_n dJ6_bitCount_0f7a4_48 rfl ?_
  refine q_bipush dJ6_bitCount_0f7a4_49 (by decide +kernel) ?_
  intro v33 h34
  refine q_iand dJ6_bitCount_0f7a4_51 ?_
  intro v35
  exact tr_iret hZ dJ6_bitCount_0f7a4_52 rfl (by decide) (by decide) ⟨v35, rfl, rfl, rfl, rfl, rfl, rfl, rfl, trivial⟩
def wi_X10_bestCalls : List Nat := [73, 768, 769, 778, 834, 2303, 2367, 2431, 2495, 2559, 2623, 2687, 2751, 2815, 2879, 2943, 3007, 3071, 3135, 3199, 3263, 3327, 3391]
def wr_X10_bestCalls : List Nat := [832, 833]
set_option maxHeartbeats 4000000 in
theorem k_X10_bestCalls {l : Launch} {T : Nat → Nat} {cn : Nat} {K N : Nat → Nat} {I0 : cz_I} {R0 : cz_R} {L0 : cz_L} {d : Int} (hW0 : Wf T cn K N I0 R0 d) {a0 : Nat} (ta0 : T a0 = 1) : ConE l mX10_bestCalls [.ref a0] cn K N I0 R0 L0 (ca_i (fun v cn' K' N' I' R' L' => cn = cn' ∧ K = K' ∧ N = N' ∧ L0 = L' ∧ St T cn K N d wi_X10_bestCalls wr_X10_bestCalls I0 R0 I' R' ∧ True)) := by
  refine ConE.of (by decide +kernel) rfl (Nat.le_of_ble_eq_true rfl) rfl (fun X hX hZ hE => ?_)
  subst hX
  have hS0 : St T cn K N d wi_X10_bestCalls wr_X10_bestCalls I0 R0 I0 R0 := St.rf0 hW0
  refine q_iconst dX10_bestCalls_0 (by decide) ?_
  intro v1 h2
  refine tr_istore_n dX10_bestCalls_1 (by decide) (by decide) ?_
  refine q_ldcw (-100000) dX10_bestCalls_2 ld10_356 (by decide +kernel) ?_
  intro v3 h4
  refine tr_istore_n dX10_bestCalls_5 (by decide) (by decide) ?_
  refine q_iconst dX10_bestCalls_6 (by decide) ?_
  intro v5 h6
  refine tr_istore_n dX10_bestCalls_7 (by decide) (by decide) ?_
  have lp18 : ∀ (fu : Nat) (ls : Nat → Option Value) (v7 : Int32) (v8 : Int32) (v9 : Int32) (I14 : cz_I) (R15 : cz_R), ls 0 = some (.ref a0) → ls 1 = some (.int v7) → ls 2 = some (.int v8) → ls 3 = some (.int v9) → St T cn K N d wi_X10_bestCalls wr_X10_bestCalls I0 R0 I14 R15 → 0 ≤ v9.toInt → (-v9.toInt + 2147483647).toNat < fu → Tr X mX10_bestCalls 8 ls [] cn K N I14 R15 L0 0 0 := by
    intro fu
    induction fu with
    | zero => intros; rename_i hz; exact absurd hz (Nat.not_lt_zero _)
    | succ fu ih18 =>
      intro ls v7 v8 v9 I14 R15 hl10 hl11 hl12 hl13 hS16 g17 hm18
      refine tr_iload_n dX10_bestCalls_8 hl13 ?_
      refine tr_aload_n dX10_bestCalls_9 hl10 ?_
      refine q_callVi hE (M' := mX10_allCalls) (as := []) dX10_bestCalls_10 lk10_263 inX10_allCalls seX10_allCalls myX10_allCalls (by decide) ⟨by decide, by decide⟩ rfl (kR1 hS16.1 ta0) (Nat.le_of_ble_eq_true rfl) rfl rfl (by decide) (by decide) (k_X10_allCalls hS16.1 ta0) ?_
      rintro v24 cn' K' N' I20 R21 L22 ⟨rfl, rfl, rfl, rfl, rfl, rfl, h25, -⟩
      refine q_icmp_gt 91 dX10_bestCalls_13 (by decide) (fun h26 => ?_) (fun h26 => ?_)
      · skip
        refine tr_iload_n dX10_bestCalls_91 hl11 ?_
        exact tr_iret hZ dX10_bestCalls_92 rfl (by decide) (by decide) ⟨v7, rfl, rfl, rfl, rfl, rfl, hS16, trivial⟩
      · skip
        refine tr_aload_n dX10_bestCalls_16 hl10 ?_
        obtain ⟨a27, d28, ta27⟩ := rf1_14 hW0 ta0
        refine tr_getR dX10_bestCalls_17 fl10_68 (kR1 hS16.1 ta0) ((hS16.rcell ta0 (by decide +kernel)).trans d28) ?_
        refine tr_aload_n dX10_bestCalls_20 hl10 ?_
        obtain ⟨a29, d30, ta29⟩ := rf1_2 hW0 ta0
        refine tr_getR dX10_bestCalls_21 fl10_16 (kR1 hS16.1 ta0) ((hS16.rcell ta0 (by decide +kernel)).trans d30) ?_
        refine tr_aload_n dX10_bestCalls_24 hl10 ?_
        refine q_callVr hE (M' := mX10_presentSky) (as := []) dX10_bestCalls_25 lk10_119 inX10_presentSky seX10_presentSky myX10_presentSky (by decide) ⟨by decide, by decide⟩ rfl (kR1 hS16.1 ta0) (Nat.le_of_ble_eq_true rfl) rfl rfl (by decide) (by decide) (k_X10_presentSky hS16.1 ta0) ?_
        rintro a35 cn' K' N' I31 R32 L33 ⟨rfl, rfl, rfl, rfl, rfl, g34, ta35, -⟩
        have hS36 := hS16.tr g34 (by decide +kernel) (by decide +kernel)
        refine tr_iload_n dX10_bestCalls_28 hl13 ?_
        refine tr_aload_n dX10_bestCalls_29 hl10 ?_
        refine q_callVi hE (M' := mX10_allTurners) (as := []) dX10_bestCalls_30 lk10_184 inX10_allTurners seX10_allTurners myX10_allTurners (by decide) ⟨by decide, by decide⟩ rfl (kR1 hS36.1 ta0) (Nat.le_of_ble_eq_true rfl) rfl rfl (by decide) (by decide) (k_X10_allTurners hS36.1 ta0) ?_
        rintro v41 cn' K' N' I37 R38 L39 ⟨rfl, rfl, rfl, rfl, rfl, rfl, h42, -⟩
        refine q_callVv hE (M' := mX5_play) (as := [_, _, _, _]) dX10_bestCalls_33 lk10_188 inX5_play seX5_play myX5_play (by decide) ⟨by decide, by decide⟩ rfl (kR13 hS36.1 ta27) (Nat.le_of_ble_eq_true rfl) rfl rfl (by decide) (by decide) (k_X5_play hS36.1 ta27 ta29 ta35) ?_
        rintro cn' K' N' I43 R44 L45 ⟨rfl, rfl, rfl, rfl, g46, -⟩
        have hS48 := hS36.tr g46 (by decide +kernel) (by decide +kernel)
        refine tr_aload_n dX10_bestCalls_36 hl10 ?_
        refine tr_getR dX10_bestCalls_37 fl10_68 (kR1 hS48.1 ta0) ((hS48.rcell ta0 (by decide +kernel)).trans d28) ?_
        refine q_callVi hE (M' := mX5_sum) (as := []) dX10_bestCalls_40 lk10_192 inX5_sum seX5_sum myX5_sum (by decide) ⟨by decide, by decide⟩ rfl (kR13 hS48.1 ta27) (Nat.le_of_ble_eq_true rfl) rfl rfl (by decide) (by decide) (k_X5_sum hS48.1 ta27) ?_
        rintro v53 cn' K' N' I49 R50 L51 ⟨rfl, rfl, rfl, rfl, rfl, rfl, -⟩
        refine tr_istore dX10_bestCalls_43 (by decide) (by decide) ?_
        refine tr_iload_n dX10_bestCalls_45 hl13 ?_
        refine q_callSi hE (M' := mJ6_bitCount_0f7a4) (as := [_]) dX10_bestCalls_46 lk10_247 inJ6_bitCount_0f7a4 myJ6_bitCount_0f7a4 ⟨by decide, by decide⟩ rfl (Nat.le_of_ble_eq_true rfl) rfl rfl (by decide) (by decide) (k_J6_bitCount_0f7a4 hS48.1 ) ?_
        rintro v58 cn' K' N' I54 R55 L56 ⟨rfl, rfl, rfl, rfl, rfl, rfl, -⟩
        refine tr_iload_n dX10_bestCalls_49 hl11 ?_
        refine q_callSi hE (M' := mJ6_bitCount_0f7a4) (as := [_]) dX10_bestCalls_50 lk10_247 inJ6_bitCount_0f7a4 myJ6_bitCount_0f7a4 ⟨by decide, by decide⟩ rfl (Nat.le_of_ble_eq_true rfl) rfl rfl (by decide) (by decide) (k_J6_bitCount_0f7a4 hS48.1 ) ?_
        rintro v63 cn' K' N' I59 R60 L61 ⟨rfl, rfl, rfl, rfl, rfl, rfl, -⟩
        refine q_icmp_ge 60 dX10_bestCalls_53 (by decide) (fun h64 => ?_) (fun h64 => ?_)
        · skip
          refine q_iconst dX10_bestCalls_60 (by decide) ?_
          intro v65 h66
          refine tr_istore dX10_bestCalls_61 (by decide) (by decide) ?_
          refine tr_iload dX10_bestCalls_63 rfl ?_
          refine tr_iload_n dX10_bestCalls_65 hl12 ?_
          refine q_icmp_gt 80 dX10_bestCalls_66 (by decide) (fun h67 => ?_) (fun h67 => ?_)
          · skip
            refine tr_iload dX10_bestCalls_80 rfl ?_
            refine tr_istore_n dX10_bestCalls_82 (by decide) (by decide) ?_
            refine tr_iload_n dX10_bestCalls_83 hl13 ?_
            refine tr_istore_n dX10_bestCalls_84 (by decide) (by decide) ?_
            refine q_iincE dX10_bestCalls_85 hl13 (by decide) (by decide) (by intro j1 j2; exact om_9c1e56ba g17 h25.2 h25.1 h26 j2) ?_
            intro v68 h69
            refine tr_goto 8 dX10_bestCalls_88 (by decide) ?_
            exact ih18 _ v9 v53 v68 I43 R44 hl10 rfl rfl rfl hS48 (by exact om_68881c41 g17 h69) (by exact om_3c5c590e g17 hm18 h25.2 h25.1 h26 h69)
          · skip
            refine tr_iload dX10_bestCalls_69 rfl ?_
            refine tr_iload_n dX10_bestCalls_71 hl12 ?_
            refine q_icmp_ne 85 dX10_bestCalls_72 (by decide) (fun h70 => ?_) (fun h70 => ?_)
            · skip
              refine q_iincE dX10_bestCalls_85 hl13 (by decide) (by decide) (by intro j1 j2; exact om_9c1e56ba g17 h25.2 h25.1 h26 j2) ?_
              intro v71 h72
              refine tr_goto 8 dX10_bestCalls_88 (by decide) ?_
              exact ih18 _ v7 v8 v71 I43 R44 hl10 hl11 hl12 rfl hS48 (by exact om_68881c41 g17 h72) (by exact om_5c9c9b0f g17 hm18 h25.2 h25.1 h26 h67 h70 h72)
            · skip
              refine tr_iload dX10_bestCalls_75 rfl ?_
              refine q_if_eq 85 dX10_bestCalls_77 (by decide) (fun h73 => ?_) (fun h73 => ?_)
              · skip
                refine q_iincE dX10_bestCalls_85 hl13 (by decide) (by decide) (by intro j1 j2; exact om_9c1e56ba g17 h25.2 h25.1 h26 j2) ?_
                intro v74 h75
                refine tr_goto 8 dX10_bestCalls_88 (by decide) ?_
                exact ih18 _ v7 v8 v74 I43 R44 hl10 hl11 hl12 rfl hS48 (by exact om_68881c41 g17 h75) (by exact om_3c5c590e g17 hm18 h25.2 h25.1 h26 h75)
              · skip
                exfalso; exact om_3a97d4a5 h66 h73
        · skip
          refine q_iconst dX10_bestCalls_56 (by decide) ?_
          intro v76 h77
          refine tr_goto 61 dX10_bestCalls_57 (by decide) ?_
          refine tr_istore dX10_bestCalls_61 (by decide) (by decide) ?_
          refine tr_iload dX10_bestCalls_63 rfl ?_
          refine tr_iload_n dX10_bestCalls_65 hl12 ?_
          refine q_icmp_gt 80 dX10_bestCalls_66 (by decide) (fun h78 => ?_) (fun h78 => ?_)
          · skip
            refine tr_iload dX10_bestCalls_80 rfl ?_
            refine tr_istore_n dX10_bestCalls_82 (by decide) (by decide) ?_
            refine tr_iload_n dX10_bestCalls_83 hl13 ?_
            refine tr_istore_n dX10_bestCalls_84 (by decide) (by decide) ?_
            refine q_iincE dX10_bestCalls_85 hl13 (by decide) (by decide) (by intro j1 j2; exact om_9c1e56ba g17 h25.2 h25.1 h26 j2) ?_
            intro v79 h80
            refine tr_goto 8 dX10_bestCalls_88 (by decide) ?_
            exact ih18 _ v9 v53 v79 I43 R44 hl10 rfl rfl rfl hS48 (by exact om_68881c41 g17 h80) (by exact om_3c5c590e g17 hm18 h25.2 h25.1 h26 h80)
          · skip
            refine tr_iload dX10_bestCalls_69 rfl ?_
            refine tr_iload_n dX10_bestCalls_71 hl12 ?_
            refine q_icmp_ne 85 dX10_bestCalls_72 (by decide) (fun h81 => ?_) (fun h81 => ?_)
            · skip
              refine q_iincE dX10_bestCalls_85 hl13 (by decide) (by decide) (by intro j1 j2; exact om_9c1e56ba g17 h25.2 h25.1 h26 j2) ?_
              intro v82 h83
              refine tr_goto 8 dX10_bestCalls_88 (by decide) ?_
              exact ih18 _ v7 v8 v82 I43 R44 hl10 hl11 hl12 rfl hS48 (by exact om_68881c41 g17 h83) (by exact om_5c9c9b0f g17 hm18 h25.2 h25.1 h26 h78 h81 h83)
            · skip
              refine tr_iload dX10_bestCalls_75 rfl ?_
              refine q_if_eq 85 dX10_bestCalls_77 (by decide) (fun h84 => ?_) (fun h84 => ?_)
              · skip
                exfalso; exact om_3624102b h77 h84
              · skip
                refine tr_iload dX10_bestCalls_80 rfl ?_
                refine tr_istore_n dX10_bestCalls_82 (by decide) (by decide) ?_
                refine tr_iload_n dX10_bestCalls_83 hl13 ?_
                refine tr_istore_n dX10_bestCalls_84 (by decide) (by decide) ?_
                refine q_iincE dX10_bestCalls_85 hl13 (by decide) (by decide) (by intro j1 j2; exact om_9c1e56ba g17 h25.2 h25.1 h26 j2) ?_
                intro v85 h86
                refine tr_goto 8 dX10_bestCalls_88 (by decide) ?_
                exact ih18 _ v9 v53 v85 I43 R44 hl10 rfl rfl rfl hS48 (by exact om_68881c41 g17 h86) (by exact om_f15044b0 g17 hm18 h25.2 h25.1 h26 h77 h84 h86)
  exact lp18 _ _ v1 v3 v5 I0 R0 rfl rfl rfl rfl hS0 (by exact om_d99fa9e4 h6) (Nat.lt_succ_self _)
def wi_X10_wake : List Nat := [73, 81, 768, 769, 778, 834, 2303, 2367, 2431, 2495, 2559, 2623, 2687, 2751, 2815, 2879, 2943, 3007, 3071, 3135, 3199, 3263, 3327, 3391]
def wr_X10_wake : List Nat := [832, 833]
set_option maxHeartbeats 4000000 in
theorem k_X10_wake {l : Launch} {T : Nat → Nat} {cn : Nat} {K N : Nat → Nat} {I0 : cz_I} {R0 : cz_R} {L0 : cz_L} {d : Int} (hW0 : Wf T cn K N I0 R0 d) {a0 : Nat} (ta0 : T a0 = 1) : ConE l mX10_wake [.ref a0] cn K N I0 R0 L0 (ca_i (fun v cn' K' N' I' R' L' => cn = cn' ∧ K = K' ∧ N = N' ∧ L0 = L' ∧ St T cn K N d wi_X10_wake wr_X10_wake I0 R0 I' R' ∧ True)) := by
  refine ConE.of (by decide +kernel) rfl (Nat.le_of_ble_eq_true rfl) rfl (fun X hX hZ hE => ?_)
  subst hX
  have hS0 : St T cn K N d wi_X10_wake wr_X10_wake I0 R0 I0 R0 := St.rf0 hW0
  refine tr_aload_n dX10_wake_0 rfl ?_
  obtain ⟨v1, c2⟩ : ∃ v, I0 a0 5 = v := ⟨_, rfl⟩
  have b3 := iv1_5 hW0 ta0 c2
  refine q_getZ dX10_wake_1 fl10_95 (kR1 hS0.1 ta0) c2 ?_
  refine q_if_eq 18 dX10_wake_4 (by decide) (fun h4 => ?_) (fun h4 => ?_)
  · skip
    refine tr_aload_n dX10_wake_18 rfl ?_
    refine q_iconst dX10_wake_19 (by decide) ?_
    intro v5 h6
    refine q_callVi hE (M' := mX10_refused) (as := [_]) dX10_wake_20 lk10_79 inX10_refused seX10_refused myX10_refused (by decide) ⟨by decide, by decide⟩ rfl (kR1 hS0.1 ta0) (Nat.le_of_ble_eq_true rfl) rfl rfl (by decide) (by decide) (k_X10_refused hS0.1 ta0) ?_
    rintro v11 cn' K' N' I7 R8 L9 ⟨rfl, rfl, rfl, rfl, rfl, g10, -⟩
    have hS12 := hS0.tr g10 (by decide +kernel) (by decide +kernel)
    exact tr_iret hZ dX10_wake_23 rfl (by decide) (by decide) ⟨v11, rfl, rfl, rfl, rfl, rfl, hS12, trivial⟩
  · skip
    refine tr_aload_n dX10_wake_7 rfl ?_
    refine tr_aload_n dX10_wake_8 rfl ?_
    refine q_callVi hE (M' := mX10_bestCalls) (as := []) dX10_wake_9 lk10_241 inX10_bestCalls seX10_bestCalls myX10_bestCalls (by decide) ⟨by decide, by decide⟩ rfl (kR1 hS0.1 ta0) (Nat.le_of_ble_eq_true rfl) rfl rfl (by decide) (by decide) (k_X10_bestCalls hS0.1 ta0) ?_
    rintro v17 cn' K' N' I13 R14 L15 ⟨rfl, rfl, rfl, rfl, g16, -⟩
    have hS18 := hS0.tr g16 (by decide +kernel) (by decide +kernel)
    refine q_callVi hE (M' := mX10_answered) (as := [_]) dX10_wake_12 lk10_109 inX10_answered seX10_answered myX10_answered (by decide) ⟨by decide, by decide⟩ rfl (kR1 hS18.1 ta0) (Nat.le_of_ble_eq_true rfl) rfl rfl (by decide) (by decide) (k_X10_answered hS18.1 ta0) ?_
    rintro v23 cn' K' N' I19 R20 L21 ⟨rfl, rfl, rfl, rfl, rfl, g22, -⟩
    have hS24 := hS18.tr g22 (by decide +kernel) (by decide +kernel)
    refine tr_goto 23 dX10_wake_15 (by decide) ?_
    exact tr_iret hZ dX10_wake_23 rfl (by decide) (by decide) ⟨v23, rfl, rfl, rfl, rfl, rfl, hS24, trivial⟩
def wi_X10_wakeTotal : List Nat := [73, 81, 768, 769, 778, 834, 2303, 2367, 2431, 2495, 2559, 2623, 2687, 2751, 2815, 2879, 2943, 3007, 3071, 3135, 3199, 3263, 3327, 3391]
def wr_X10_wakeTotal : List Nat := [832, 833]
set_option maxHeartbeats 4000000 in
theorem k_X10_wakeTotal {l : Launch} {T : Nat → Nat} {cn : Nat} {K N : Nat → Nat} {I0 : cz_I} {R0 : cz_R} {L0 : cz_L} {d : Int} (hW0 : Wf T cn K N I0 R0 d) {a0 : Nat} (ta0 : T a0 = 1) : ConE l mX10_wakeTotal [.ref a0] cn K N I0 R0 L0 (ca_i (fun v cn' K' N' I' R' L' => cn = cn' ∧ K = K' ∧ N = N' ∧ L0 = L' ∧ St T cn K N d wi_X10_wakeTotal wr_X10_wakeTotal I0 R0 I' R' ∧ True)) := by
  refine ConE.of (by decide +kernel) rfl (Nat.le_of_ble_eq_true rfl) rfl (fun X hX hZ hE => ?_)
  subst hX
  have hS0 : St T cn K N d wi_X10_wakeTotal wr_X10_wakeTotal I0 R0 I0 R0 := St.rf0 hW0
  refine tr_aload_n dX10_wakeTotal_0 rfl ?_
  obtain ⟨v1, c2⟩ : ∃ v, I0 a0 5 = v := ⟨_, rfl⟩
  have b3 := iv1_5 hW0 ta0 c2
  refine q_getZ dX10_wakeTotal_1 fl10_95 (kR1 hS0.1 ta0) c2 ?_
  refine q_if_ne 13 dX10_wakeTotal_4 (by decide) (fun h4 => ?_) (fun h4 => ?_)
  · skip
    refine tr_aload_n dX10_wakeTotal_13 rfl ?_
    obtain ⟨a5, d6, ta5⟩ := rf1_14 hW0 ta0
    refine tr_getR dX10_wakeTotal_14 fl10_68 (kR1 hS0.1 ta0) d6 ?_
    refine tr_aload_n dX10_wakeTotal_17 rfl ?_
    obtain ⟨a7, d8, ta7⟩ := rf1_2 hW0 ta0
    refine tr_getR dX10_wakeTotal_18 fl10_16 (kR1 hS0.1 ta0) d8 ?_
    refine tr_aload_n dX10_wakeTotal_21 rfl ?_
    refine q_callVr hE (M' := mX10_presentSky) (as := []) dX10_wakeTotal_22 lk10_119 inX10_presentSky seX10_presentSky myX10_presentSky (by decide) ⟨by decide, by decide⟩ rfl (kR1 hS0.1 ta0) (Nat.le_of_ble_eq_true rfl) rfl rfl (by decide) (by decide) (k_X10_presentSky hS0.1 ta0) ?_
    rintro a13 cn' K' N' I9 R10 L11 ⟨rfl, rfl, rfl, rfl, rfl, g12, ta13, -⟩
    have hS14 := hS0.tr g12 (by decide +kernel) (by decide +kernel)
    refine tr_aload_n dX10_wakeTotal_25 rfl ?_
    refine q_callVi hE (M' := mX10_bestCalls) (as := []) dX10_wakeTotal_26 lk10_241 inX10_bestCalls seX10_bestCalls myX10_bestCalls (by decide) ⟨by decide, by decide⟩ rfl (kR1 hS14.1 ta0) (Nat.le_of_ble_eq_true rfl) rfl rfl (by decide) (by decide) (k_X10_bestCalls hS14.1 ta0) ?_
    rintro v19 cn' K' N' I15 R16 L17 ⟨rfl, rfl, rfl, rfl, g18, -⟩
    have hS20 := hS14.tr g18 (by decide +kernel) (by decide +kernel)
    refine tr_aload_n dX10_wakeTotal_29 rfl ?_
    refine q_callVi hE (M' := mX10_allTurners) (as := []) dX10_wakeTotal_30 lk10_184 inX10_allTurners seX10_allTurners myX10_allTurners (by decide) ⟨by decide, by decide⟩ rfl (kR1 hS20.1 ta0) (Nat.le_of_ble_eq_true rfl) rfl rfl (by decide) (by decide) (k_X10_allTurners hS20.1 ta0) ?_
    rintro v25 cn' K' N' I21 R22 L23 ⟨rfl, rfl, rfl, rfl, rfl, rfl, h26, -⟩
    refine q_callVv hE (M' := mX5_play) (as := [_, _, _, _]) dX10_wakeTotal_33 lk10_188 inX5_play seX5_play myX5_play (by decide) ⟨by decide, by decide⟩ rfl (kR13 hS20.1 ta5) (Nat.le_of_ble_eq_true rfl) rfl rfl (by decide) (by decide) (k_X5_play hS20.1 ta5 ta7 ta13) ?_
    rintro cn' K' N' I27 R28 L29 ⟨rfl, rfl, rfl, rfl, g30, -⟩
    have hS32 := hS20.tr g30 (by decide +kernel) (by decide +kernel)
    refine tr_aload_n dX10_wakeTotal_36 rfl ?_
    refine tr_aload_n dX10_wakeTotal_37 rfl ?_
    refine tr_getR dX10_wakeTotal_38 fl10_68 (kR1 hS32.1 ta0) ((hS32.rcell ta0 (by decide +kernel)).trans d6) ?_
    refine q_callVi hE (M' := mX5_sum) (as := []) dX10_wakeTotal_41 lk10_192 inX5_sum seX5_sum myX5_sum (by decide) ⟨by decide, by decide⟩ rfl (kR13 hS32.1 ta5) (Nat.le_of_ble_eq_true rfl) rfl rfl (by decide) (by decide) (k_X5_sum hS32.1 ta5) ?_
    rintro v37 cn' K' N' I33 R34 L35 ⟨rfl, rfl, rfl, rfl, rfl, rfl, -⟩
    refine q_callVi hE (M' := mX10_answered) (as := [_]) dX10_wakeTotal_44 lk10_109 inX10_answered seX10_answered myX10_answered (by decide) ⟨by decide, by decide⟩ rfl (kR1 hS32.1 ta0) (Nat.le_of_ble_eq_true rfl) rfl rfl (by decide) (by decide) (k_X10_answered hS32.1 ta0) ?_
    rintro v42 cn' K' N' I38 R39 L40 ⟨rfl, rfl, rfl, rfl, rfl, g41, -⟩
    have hS43 := hS32.tr g41 (by decide +kernel) (by decide +kernel)
    exact tr_iret hZ dX10_wakeTotal_47 rfl (by decide) (by decide) ⟨v42, rfl, rfl, rfl, rfl, rfl, hS43, trivial⟩
  · skip
    refine tr_aload_n dX10_wakeTotal_7 rfl ?_
    refine q_iconst dX10_wakeTotal_8 (by decide) ?_
    intro v44 h45
    refine q_callVi hE (M' := mX10_refusedTotal) (as := [_]) dX10_wakeTotal_9 lk10_178 inX10_refusedTotal seX10_refusedTotal myX10_refusedTotal (by decide) ⟨by decide, by decide⟩ rfl (kR1 hS0.1 ta0) (Nat.le_of_ble_eq_true rfl) rfl rfl (by decide) (by decide) (k_X10_refusedTotal hS0.1 ta0) ?_
    rintro v50 cn' K' N' I46 R47 L48 ⟨rfl, rfl, rfl, rfl, rfl, g49, -⟩
    have hS51 := hS0.tr g49 (by decide +kernel) (by decide +kernel)
    exact tr_iret hZ dX10_wakeTotal_12 rfl (by decide) (by decide) ⟨v50, rfl, rfl, rfl, rfl, rfl, hS51, trivial⟩
set_option maxHeartbeats 4000000 in
theorem k_X5_missesAny {l : Launch} {T : Nat → Nat} {cn : Nat} {K N : Nat → Nat} {I0 : cz_I} {R0 : cz_R} {L0 : cz_L} {d : Int} (hW0 : Wf T cn K N I0 R0 d) {a0 : Nat} (ta0 : T a0 = 13) : ConE l mX5_missesAny [.ref a0] cn K N I0 R0 L0 (ca_i (fun v cn' K' N' I' R' L' => cn = cn' ∧ K = K' ∧ N = N' ∧ I0 = I' ∧ R0 = R' ∧ L0 = L' ∧ (0 ≤ v.toInt ∧ v.toInt ≤ 1) ∧ True)) := by
  refine ConE.of (by decide +kernel) rfl (Nat.le_of_ble_eq_true rfl) rfl (fun X hX hZ hE => ?_)
  subst hX
  refine q_iconst dX5_missesAny_0 (by decide) ?_
  intro v1 h2
  refine tr_istore_n dX5_missesAny_1 (by decide) (by decide) ?_
  have lp7 : ∀ (fu : Nat) (ls : Nat → Option Value) (v3 : Int32), ls 0 = some (.ref a0) → ls 1 = some (.int v3) → 0 ≤ v3.toInt → (-v3.toInt + 2147483647).toNat < fu → Tr X mX5_missesAny 2 ls [] cn K N I0 R0 L0 0 0 := by
    intro fu
    induction fu with
    | zero => intros; rename_i hz; exact absurd hz (Nat.not_lt_zero _)
    | succ fu ih7 =>
      intro ls v3 hl4 hl5 g6 hm7
      refine tr_iload_n dX5_missesAny_2 hl5 ?_
      refine tr_aload_n dX5_missesAny_3 hl4 ?_
      obtain ⟨a9, d10, ta9⟩ := rf13_0 hW0 ta0
      refine tr_getR dX5_missesAny_4 fl5_39 (kR13 hW0 ta0) d10 ?_
      obtain ⟨v11, c12⟩ : ∃ v, I0 a9 5 = v := ⟨_, rfl⟩
      have b13 := iv2_5 hW0 ta9 c12
      refine q_getI dX5_missesAny_7 fl5_107 (kR2 hW0 ta9) c12 ?_
      refine q_icmp_ge 30 dX5_missesAny_10 (by decide) (fun h14 => ?_) (fun h14 => ?_)
      · skip
        refine q_iconst dX5_missesAny_30 (by decide) ?_
        intro v15 h16
        exact tr_zret hZ dX5_missesAny_31 rfl (ti_b01 (by exact om_d99fa9e4 h16) (by exact om_d3de7ec9 h16)) (by decide) (by decide) ⟨v15, rfl, rfl, rfl, rfl, rfl, rfl, rfl, (by exact om_3b50ecb9 h16), trivial⟩
      · skip
        refine tr_aload_n dX5_missesAny_13 hl4 ?_
        obtain ⟨a17, d18, ta17⟩ := rf13_6 hW0 ta0
        refine tr_getR dX5_missesAny_14 fl5_21 (kR13 hW0 ta0) d18 ?_
        refine tr_iload_n dX5_missesAny_17 hl5 ?_
        refine q_iald dX5_missesAny_18 (kR47 hW0 ta17) (ti_in (nR47 hW0 ta17) (by exact om_2cfcd5a5 g6) (by exact om_5f13cc30 b13.2 b13.1 h14)) ?_
        intro v19 c20
        refine q_if_le 24 dX5_missesAny_19 (by decide) (fun h21 => ?_) (fun h21 => ?_)
        · skip
          refine q_iincE dX5_missesAny_24 hl5 (by decide) (by decide) (by intro j1 j2; exact om_4034714d g6 b13.2 b13.1 h14 j2) ?_
          intro v22 h23
          refine tr_goto 2 dX5_missesAny_27 (by decide) ?_
          exact ih7 _ v22 hl4 rfl (by exact om_68881c41 g6 h23) (by exact om_fc025699 g6 hm7 b13.2 b13.1 h14 h23)
        · skip
          refine q_iconst dX5_missesAny_22 (by decide) ?_
          intro v24 h25
          exact tr_zret hZ dX5_missesAny_23 rfl (ti_b01 (by exact om_f9079521 h25) (by exact om_e6632817 h25)) (by decide) (by decide) ⟨v24, rfl, rfl, rfl, rfl, rfl, rfl, rfl, (by exact om_d753bc65 h25), trivial⟩
  exact lp7 _ _ v1 rfl rfl (by exact om_d99fa9e4 h2) (Nat.lt_succ_self _)
def wi_X10_fewestTurners : List Nat := [73, 75, 768, 769, 778, 834, 2303, 2367, 2431, 2495, 2559, 2623, 2687, 2751, 2815, 2879, 2943, 3007, 3071, 3135, 3199, 3263, 3327, 3391]
def wr_X10_fewestTurners : List Nat := [832, 833]
set_option maxHeartbeats 4000000 in
theorem k_X10_fewestTurners {l : Launch} {T : Nat → Nat} {cn : Nat} {K N : Nat → Nat} {I0 : cz_I} {R0 : cz_R} {L0 : cz_L} {d : Int} (hW0 : Wf T cn K N I0 R0 d) {a0 : Nat} (ta0 : T a0 = 1) : ConE l mX10_fewestTurners [.ref a0] cn K N I0 R0 L0 (ca_i (fun v cn' K' N' I' R' L' => cn = cn' ∧ K = K' ∧ N = N' ∧ L0 = L' ∧ St T cn K N d wi_X10_fewestTurners wr_X10_fewestTurners I0 R0 I' R' ∧ True)) := by
  refine ConE.of (by decide +kernel) rfl (Nat.le_of_ble_eq_true rfl) rfl (fun X hX hZ hE => ?_)
  subst hX
  have hS0 : St T cn K N d wi_X10_fewestTurners wr_X10_fewestTurners I0 R0 I0 R0 := St.rf0 hW0
  refine tr_aload_n dX10_fewestTurners_0 rfl ?_
  refine q_callVr hE (M' := mX10_presentNight) (as := []) dX10_fewestTurners_1 lk10_155 inX10_presentNight seX10_presentNight myX10_presentNight (by decide) ⟨by decide, by decide⟩ rfl (kR1 hS0.1 ta0) (Nat.le_of_ble_eq_true rfl) rfl rfl (by decide) (by decide) (k_X10_presentNight hS0.1 ta0) ?_
  rintro a5 cn' K' N' I1 R2 L3 ⟨rfl, rfl, rfl, rfl, g4, ta5, -⟩
  have hS6 := hS0.tr g4 (by decide +kernel) (by decide +kernel)
  refine q_callVi hE (M' := mX5_missesAny) (as := []) dX10_fewestTurners_4 lk10_374 inX5_missesAny seX5_missesAny myX5_missesAny (by decide) ⟨by decide, by decide⟩ rfl (kR13 hS6.1 ta5) (Nat.le_of_ble_eq_true rfl) rfl rfl (by decide) (by decide) (k_X5_missesAny hS6.1 ta5) ?_
  rintro v11 cn' K' N' I7 R8 L9 ⟨rfl, rfl, rfl, rfl, rfl, rfl, h12, -⟩
  refine q_if_eq 13 dX10_fewestTurners_7 (by decide) (fun h13 => ?_) (fun h13 => ?_)
  · skip
    refine tr_aload_n dX10_fewestTurners_13 rfl ?_
    refine q_callVi hE (M' := mX10_allTurners) (as := []) dX10_fewestTurners_14 lk10_184 inX10_allTurners seX10_allTurners myX10_allTurners (by decide) ⟨by decide, by decide⟩ rfl (kR1 hS6.1 ta0) (Nat.le_of_ble_eq_true rfl) rfl rfl (by decide) (by decide) (k_X10_allTurners hS6.1 ta0) ?_
    rintro v18 cn' K' N' I14 R15 L16 ⟨rfl, rfl, rfl, rfl, rfl, rfl, h19, -⟩
    refine tr_istore_n dX10_fewestTurners_17 (by decide) (by decide) ?_
    refine q_iconst dX10_fewestTurners_18 (by decide) ?_
    intro v20 h21
    refine tr_istore_n dX10_fewestTurners_19 (by decide) (by decide) ?_
    have lp31 : ∀ (fu : Nat) (ls : Nat → Option Value) (v22 : Int32) (v23 : Int32) (I27 : cz_I) (R28 : cz_R), ls 0 = some (.ref a0) → ls 1 = some (.int v22) → ls 2 = some (.int v23) → St T cn K N d wi_X10_fewestTurners wr_X10_fewestTurners I0 R0 I27 R28 → 0 ≤ v23.toInt → (-v23.toInt + 2147483647).toNat < fu → Tr X mX10_fewestTurners 20 ls [] cn K N I27 R28 L0 0 0 := by
      intro fu
      induction fu with
      | zero => intros; rename_i hz; exact absurd hz (Nat.not_lt_zero _)
      | succ fu ih31 =>
        intro ls v22 v23 I27 R28 hl24 hl25 hl26 hS29 g30 hm31
        refine tr_iload_n dX10_fewestTurners_20 hl26 ?_
        refine tr_aload_n dX10_fewestTurners_21 hl24 ?_
        refine q_callVi hE (M' := mX10_allTurners) (as := []) dX10_fewestTurners_22 lk10_184 inX10_allTurners seX10_allTurners myX10_allTurners (by decide) ⟨by decide, by decide⟩ rfl (kR1 hS29.1 ta0) (Nat.le_of_ble_eq_true rfl) rfl rfl (by decide) (by decide) (k_X10_allTurners hS29.1 ta0) ?_
        rintro v37 cn' K' N' I33 R34 L35 ⟨rfl, rfl, rfl, rfl, rfl, rfl, h38, -⟩
        refine q_icmp_ge 80 dX10_fewestTurners_25 (by decide) (fun h39 => ?_) (fun h39 => ?_)
        · skip
          refine tr_iload_n dX10_fewestTurners_80 hl25 ?_
          exact tr_iret hZ dX10_fewestTurners_81 rfl (by decide) (by decide) ⟨v22, rfl, rfl, rfl, rfl, rfl, hS29, trivial⟩
        · skip
          refine tr_iload_n dX10_fewestTurners_28 hl26 ?_
          refine q_callSi hE (M' := mJ6_bitCount_0f7a4) (as := [_]) dX10_fewestTurners_29 lk10_247 inJ6_bitCount_0f7a4 myJ6_bitCount_0f7a4 ⟨by decide, by decide⟩ rfl (Nat.le_of_ble_eq_true rfl) rfl rfl (by decide) (by decide) (k_J6_bitCount_0f7a4 hS29.1 ) ?_
          rintro v44 cn' K' N' I40 R41 L42 ⟨rfl, rfl, rfl, rfl, rfl, rfl, -⟩
          refine tr_iload_n dX10_fewestTurners_32 hl25 ?_
          refine q_callSi hE (M' := mJ6_bitCount_0f7a4) (as := [_]) dX10_fewestTurners_33 lk10_247 inJ6_bitCount_0f7a4 myJ6_bitCount_0f7a4 ⟨by decide, by decide⟩ rfl (Nat.le_of_ble_eq_true rfl) rfl rfl (by decide) (by decide) (k_J6_bitCount_0f7a4 hS29.1 ) ?_
          rintro v49 cn' K' N' I45 R46 L47 ⟨rfl, rfl, rfl, rfl, rfl, rfl, -⟩
          refine q_icmp_ge 74 dX10_fewestTurners_36 (by decide) (fun h50 => ?_) (fun h50 => ?_)
          · skip
            refine q_iincE dX10_fewestTurners_74 hl26 (by decide) (by decide) (by intro j1 j2; exact om_615c401a g30 h38.2 h38.1 h39 j2) ?_
            intro v51 h52
            refine tr_goto 20 dX10_fewestTurners_77 (by decide) ?_
            exact ih31 _ v22 v51 I27 R28 hl24 hl25 rfl hS29 (by exact om_68881c41 g30 h52) (by exact om_fd0314f2 g30 hm31 h38.2 h38.1 h39 h52)
          · skip
            refine tr_aload_n dX10_fewestTurners_39 hl24 ?_
            obtain ⟨a53, d54, ta53⟩ := rf1_14 hW0 ta0
            refine tr_getR dX10_fewestTurners_40 fl10_68 (kR1 hS29.1 ta0) ((hS29.rcell ta0 (by decide +kernel)).trans d54) ?_
            refine tr_aload_n dX10_fewestTurners_43 hl24 ?_
            obtain ⟨a55, d56, ta55⟩ := rf1_2 hW0 ta0
            refine tr_getR dX10_fewestTurners_44 fl10_16 (kR1 hS29.1 ta0) ((hS29.rcell ta0 (by decide +kernel)).trans d56) ?_
            refine tr_aload_n dX10_fewestTurners_47 hl24 ?_
            refine q_callVr hE (M' := mX10_presentSky) (as := []) dX10_fewestTurners_48 lk10_119 inX10_presentSky seX10_presentSky myX10_presentSky (by decide) ⟨by decide, by decide⟩ rfl (kR1 hS29.1 ta0) (Nat.le_of_ble_eq_true rfl) rfl rfl (by decide) (by decide) (k_X10_presentSky hS29.1 ta0) ?_
            rintro a61 cn' K' N' I57 R58 L59 ⟨rfl, rfl, rfl, rfl, rfl, g60, ta61, -⟩
            have hS62 := hS29.tr g60 (by decide +kernel) (by decide +kernel)
            refine tr_aload_n dX10_fewestTurners_51 hl24 ?_
            obtain ⟨a63, d64, ta63⟩ := rf1_6 hW0 ta0
            refine tr_getR dX10_fewestTurners_52 fl10_35 (kR1 hS62.1 ta0) ((hS62.rcell ta0 (by decide +kernel)).trans d64) ?_
            obtain ⟨v65, c66⟩ : ∃ v, I0 a63 0 = v := ⟨_, rfl⟩
            refine q_getI dX10_fewestTurners_55 fl10_181 (kR8 hS62.1 ta63) ((hS62.cell ta63 (by decide +kernel)).trans c66) ?_
            refine tr_iload_n dX10_fewestTurners_58 hl26 ?_
            refine q_callVv hE (M' := mX5_play) (as := [_, _, _, _]) dX10_fewestTurners_59 lk10_188 inX5_play seX5_play myX5_play (by decide) ⟨by decide, by decide⟩ rfl (kR13 hS62.1 ta53) (Nat.le_of_ble_eq_true rfl) rfl rfl (by decide) (by decide) (k_X5_play hS62.1 ta53 ta55 ta61) ?_
            rintro cn' K' N' I67 R68 L69 ⟨rfl, rfl, rfl, rfl, g70, -⟩
            have hS72 := hS62.tr g70 (by decide +kernel) (by decide +kernel)
            refine tr_aload_n dX10_fewestTurners_62 hl24 ?_
            refine tr_getR dX10_fewestTurners_63 fl10_68 (kR1 hS72.1 ta0) ((hS72.rcell ta0 (by decide +kernel)).trans d54) ?_
            refine q_callVi hE (M' := mX5_missesAny) (as := []) dX10_fewestTurners_66 lk10_374 inX5_missesAny seX5_missesAny myX5_missesAny (by decide) ⟨by decide, by decide⟩ rfl (kR13 hS72.1 ta53) (Nat.le_of_ble_eq_true rfl) rfl rfl (by decide) (by decide) (k_X5_missesAny hS72.1 ta53) ?_
            rintro v77 cn' K' N' I73 R74 L75 ⟨rfl, rfl, rfl, rfl, rfl, rfl, h78, -⟩
            refine q_if_ne 74 dX10_fewestTurners_69 (by decide) (fun h79 => ?_) (fun h79 => ?_)
            · skip
              refine q_iincE dX10_fewestTurners_74 hl26 (by decide) (by decide) (by intro j1 j2; exact om_615c401a g30 h38.2 h38.1 h39 j2) ?_
              intro v80 h81
              refine tr_goto 20 dX10_fewestTurners_77 (by decide) ?_
              exact ih31 _ v22 v80 I67 R68 hl24 hl25 rfl hS72 (by exact om_68881c41 g30 h81) (by exact om_57977dbd g30 hm31 h38.2 h38.1 h39 h78.2 h78.1 h79 h81)
            · skip
              refine tr_iload_n dX10_fewestTurners_72 hl26 ?_
              refine tr_istore_n dX10_fewestTurners_73 (by decide) (by decide) ?_
              refine q_iincE dX10_fewestTurners_74 hl26 (by decide) (by decide) (by intro j1 j2; exact om_615c401a g30 h38.2 h38.1 h39 j2) ?_
              intro v82 h83
              refine tr_goto 20 dX10_fewestTurners_77 (by decide) ?_
              exact ih31 _ v23 v82 I67 R68 hl24 rfl rfl hS72 (by exact om_68881c41 g30 h83) (by exact om_fd0314f2 g30 hm31 h38.2 h38.1 h39 h83)
    exact lp31 _ _ v18 v20 I1 R2 rfl rfl rfl hS6 (by exact om_d99fa9e4 h21) (Nat.lt_succ_self _)
  · skip
    refine q_bipush dX10_fewestTurners_10 (by decide +kernel) ?_
    intro v84 h85
    exact tr_iret hZ dX10_fewestTurners_12 rfl (by decide) (by decide) ⟨v84, rfl, rfl, rfl, rfl, rfl, hS6, trivial⟩
def wi_X10_fewest : List Nat := [73, 75, 81, 768, 769, 778, 834, 2303, 2367, 2431, 2495, 2559, 2623, 2687, 2751, 2815, 2879, 2943, 3007, 3071, 3135, 3199, 3263, 3327, 3391]
def wr_X10_fewest : List Nat := [832, 833]
set_option maxHeartbeats 4000000 in
theorem k_X10_fewest {l : Launch} {T : Nat → Nat} {cn : Nat} {K N : Nat → Nat} {I0 : cz_I} {R0 : cz_R} {L0 : cz_L} {d : Int} (hW0 : Wf T cn K N I0 R0 d) {a0 : Nat} (ta0 : T a0 = 1) : ConE l mX10_fewest [.ref a0] cn K N I0 R0 L0 (ca_i (fun v cn' K' N' I' R' L' => cn = cn' ∧ K = K' ∧ N = N' ∧ L0 = L' ∧ St T cn K N d wi_X10_fewest wr_X10_fewest I0 R0 I' R' ∧ True)) := by
  refine ConE.of (by decide +kernel) rfl (Nat.le_of_ble_eq_true rfl) rfl (fun X hX hZ hE => ?_)
  subst hX
  have hS0 : St T cn K N d wi_X10_fewest wr_X10_fewest I0 R0 I0 R0 := St.rf0 hW0
  refine tr_aload_n dX10_fewest_0 rfl ?_
  obtain ⟨v1, c2⟩ : ∃ v, I0 a0 5 = v := ⟨_, rfl⟩
  have b3 := iv1_5 hW0 ta0 c2
  refine q_getZ dX10_fewest_1 fl10_95 (kR1 hS0.1 ta0) c2 ?_
  refine q_if_ne 13 dX10_fewest_4 (by decide) (fun h4 => ?_) (fun h4 => ?_)
  · skip
    refine tr_aload_n dX10_fewest_13 rfl ?_
    refine q_callVi hE (M' := mX10_fewestTurners) (as := []) dX10_fewest_14 lk10_244 inX10_fewestTurners seX10_fewestTurners myX10_fewestTurners (by decide) ⟨by decide, by decide⟩ rfl (kR1 hS0.1 ta0) (Nat.le_of_ble_eq_true rfl) rfl rfl (by decide) (by decide) (k_X10_fewestTurners hS0.1 ta0) ?_
    rintro v9 cn' K' N' I5 R6 L7 ⟨rfl, rfl, rfl, rfl, g8, -⟩
    have hS10 := hS0.tr g8 (by decide +kernel) (by decide +kernel)
    refine tr_istore_n dX10_fewest_17 (by decide) (by decide) ?_
    refine tr_aload_n dX10_fewest_18 rfl ?_
    refine tr_iload_n dX10_fewest_19 rfl ?_
    refine q_bipush dX10_fewest_20 (by decide +kernel) ?_
    intro v11 h12
    refine q_icmp_ne 30 dX10_fewest_22 (by decide) (fun h13 => ?_) (fun h13 => ?_)
    · skip
      refine tr_iload_n dX10_fewest_30 rfl ?_
      refine q_callSi hE (M' := mJ6_bitCount_0f7a4) (as := [_]) dX10_fewest_31 lk10_247 inJ6_bitCount_0f7a4 myJ6_bitCount_0f7a4 ⟨by decide, by decide⟩ rfl (Nat.le_of_ble_eq_true rfl) rfl rfl (by decide) (by decide) (k_J6_bitCount_0f7a4 hS10.1 ) ?_
      rintro v18 cn' K' N' I14 R15 L16 ⟨rfl, rfl, rfl, rfl, rfl, rfl, -⟩
      refine q_callVi hE (M' := mX10_answered) (as := [_]) dX10_fewest_34 lk10_109 inX10_answered seX10_answered myX10_answered (by decide) ⟨by decide, by decide⟩ rfl (kR1 hS10.1 ta0) (Nat.le_of_ble_eq_true rfl) rfl rfl (by decide) (by decide) (k_X10_answered hS10.1 ta0) ?_
      rintro v23 cn' K' N' I19 R20 L21 ⟨rfl, rfl, rfl, rfl, rfl, g22, -⟩
      have hS24 := hS10.tr g22 (by decide +kernel) (by decide +kernel)
      exact tr_iret hZ dX10_fewest_37 rfl (by decide) (by decide) ⟨v23, rfl, rfl, rfl, rfl, rfl, hS24, trivial⟩
    · skip
      refine q_bipush dX10_fewest_25 (by decide +kernel) ?_
      intro v25 h26
      refine tr_goto 34 dX10_fewest_27 (by decide) ?_
      refine q_callVi hE (M' := mX10_answered) (as := [_]) dX10_fewest_34 lk10_109 inX10_answered seX10_answered myX10_answered (by decide) ⟨by decide, by decide⟩ rfl (kR1 hS10.1 ta0) (Nat.le_of_ble_eq_true rfl) rfl rfl (by decide) (by decide) (k_X10_answered hS10.1 ta0) ?_
      rintro v31 cn' K' N' I27 R28 L29 ⟨rfl, rfl, rfl, rfl, rfl, g30, -⟩
      have hS32 := hS10.tr g30 (by decide +kernel) (by decide +kernel)
      exact tr_iret hZ dX10_fewest_37 rfl (by decide) (by decide) ⟨v31, rfl, rfl, rfl, rfl, rfl, hS32, trivial⟩
  · skip
    refine tr_aload_n dX10_fewest_7 rfl ?_
    refine q_iconst dX10_fewest_8 (by decide) ?_
    intro v33 h34
    refine q_callVi hE (M' := mX10_refused) (as := [_]) dX10_fewest_9 lk10_79 inX10_refused seX10_refused myX10_refused (by decide) ⟨by decide, by decide⟩ rfl (kR1 hS0.1 ta0) (Nat.le_of_ble_eq_true rfl) rfl rfl (by decide) (by decide) (k_X10_refused hS0.1 ta0) ?_
    rintro v39 cn' K' N' I35 R36 L37 ⟨rfl, rfl, rfl, rfl, rfl, g38, -⟩
    have hS40 := hS0.tr g38 (by decide +kernel) (by decide +kernel)
    exact tr_iret hZ dX10_fewest_12 rfl (by decide) (by decide) ⟨v39, rfl, rfl, rfl, rfl, rfl, hS40, trivial⟩
def wi_X10_fewestBy : List Nat := [73, 75, 81, 768, 769, 778, 834, 2303, 2367, 2431, 2495, 2559, 2623, 2687, 2751, 2815, 2879, 2943, 3007, 3071, 3135, 3199, 3263, 3327, 3391]
def wr_X10_fewestBy : List Nat := [832, 833]
set_option maxHeartbeats 4000000 in
theorem k_X10_fewestBy {l : Launch} {T : Nat → Nat} {cn : Nat} {K N : Nat → Nat} {I0 : cz_I} {R0 : cz_R} {L0 : cz_L} {d : Int} (hW0 : Wf T cn K N I0 R0 d) {a0 : Nat} (ta0 : T a0 = 1) : ConE l mX10_fewestBy [.ref a0] cn K N I0 R0 L0 (ca_i (fun v cn' K' N' I' R' L' => cn = cn' ∧ K = K' ∧ N = N' ∧ L0 = L' ∧ St T cn K N d wi_X10_fewestBy wr_X10_fewestBy I0 R0 I' R' ∧ True)) := by
  refine ConE.of (by decide +kernel) rfl (Nat.le_of_ble_eq_true rfl) rfl (fun X hX hZ hE => ?_)
  subst hX
  have hS0 : St T cn K N d wi_X10_fewestBy wr_X10_fewestBy I0 R0 I0 R0 := St.rf0 hW0
  refine tr_aload_n dX10_fewestBy_0 rfl ?_
  obtain ⟨v1, c2⟩ : ∃ v, I0 a0 5 = v := ⟨_, rfl⟩
  have b3 := iv1_5 hW0 ta0 c2
  refine q_getZ dX10_fewestBy_1 fl10_95 (kR1 hS0.1 ta0) c2 ?_
  refine q_if_eq 18 dX10_fewestBy_4 (by decide) (fun h4 => ?_) (fun h4 => ?_)
  · skip
    refine tr_aload_n dX10_fewestBy_18 rfl ?_
    refine q_iconst dX10_fewestBy_19 (by decide) ?_
    intro v5 h6
    refine q_callVi hE (M' := mX10_refused) (as := [_]) dX10_fewestBy_20 lk10_79 inX10_refused seX10_refused myX10_refused (by decide) ⟨by decide, by decide⟩ rfl (kR1 hS0.1 ta0) (Nat.le_of_ble_eq_true rfl) rfl rfl (by decide) (by decide) (k_X10_refused hS0.1 ta0) ?_
    rintro v11 cn' K' N' I7 R8 L9 ⟨rfl, rfl, rfl, rfl, rfl, g10, -⟩
    have hS12 := hS0.tr g10 (by decide +kernel) (by decide +kernel)
    exact tr_iret hZ dX10_fewestBy_23 rfl (by decide) (by decide) ⟨v11, rfl, rfl, rfl, rfl, rfl, hS12, trivial⟩
  · skip
    refine tr_aload_n dX10_fewestBy_7 rfl ?_
    refine tr_aload_n dX10_fewestBy_8 rfl ?_
    refine q_callVi hE (M' := mX10_fewestTurners) (as := []) dX10_fewestBy_9 lk10_244 inX10_fewestTurners seX10_fewestTurners myX10_fewestTurners (by decide) ⟨by decide, by decide⟩ rfl (kR1 hS0.1 ta0) (Nat.le_of_ble_eq_true rfl) rfl rfl (by decide) (by decide) (k_X10_fewestTurners hS0.1 ta0) ?_
    rintro v17 cn' K' N' I13 R14 L15 ⟨rfl, rfl, rfl, rfl, g16, -⟩
    have hS18 := hS0.tr g16 (by decide +kernel) (by decide +kernel)
    refine q_callVi hE (M' := mX10_answered) (as := [_]) dX10_fewestBy_12 lk10_109 inX10_answered seX10_answered myX10_answered (by decide) ⟨by decide, by decide⟩ rfl (kR1 hS18.1 ta0) (Nat.le_of_ble_eq_true rfl) rfl rfl (by decide) (by decide) (k_X10_answered hS18.1 ta0) ?_
    rintro v23 cn' K' N' I19 R20 L21 ⟨rfl, rfl, rfl, rfl, rfl, g22, -⟩
    have hS24 := hS18.tr g22 (by decide +kernel) (by decide +kernel)
    refine tr_goto 23 dX10_fewestBy_15 (by decide) ?_
    exact tr_iret hZ dX10_fewestBy_23 rfl (by decide) (by decide) ⟨v23, rfl, rfl, rfl, rfl, rfl, hS24, trivial⟩
set_option maxHeartbeats 4000000 in
theorem k_X10_isSlice {l : Launch} {T : Nat → Nat} {cn : Nat} {K N : Nat → Nat} {I0 : cz_I} {R0 : cz_R} {L0 : cz_L} {d : Int} (hW0 : Wf T cn K N I0 R0 d) {a0 : Nat} (ta0 : T a0 = 1) {x1 : Int32} : ConE l mX10_isSlice [.ref a0, .int x1] cn K N I0 R0 L0 (ca_i (fun v cn' K' N' I' R' L' => cn = cn' ∧ K = K' ∧ N = N' ∧ I0 = I' ∧ R0 = R' ∧ L0 = L' ∧ (0 ≤ v.toInt ∧ v.toInt ≤ 1) ∧ ((v.toInt = 1 → (0 ≤ x1.toInt ∧ x1.toInt ≤ 3))) ∧ True)) := by
  refine ConE.of (by decide +kernel) rfl (Nat.le_of_ble_eq_true rfl) rfl (fun X hX hZ hE => ?_)
  subst hX
  refine tr_iload_n dX10_isSlice_0 rfl ?_
  refine q_if_lt 19 dX10_isSlice_1 (by decide) (fun h1 => ?_) (fun h1 => ?_)
  · skip
    refine q_iconst dX10_isSlice_19 (by decide) ?_
    intro v2 h3
    exact tr_zret hZ dX10_isSlice_20 rfl (ti_b01 (by exact om_d99fa9e4 h3) (by exact om_d3de7ec9 h3)) (by decide) (by decide) ⟨v2, rfl, rfl, rfl, rfl, rfl, rfl, rfl, (by exact om_3b50ecb9 h3), (by exact om_baaf1ab0 h3), trivial⟩
  · skip
    refine tr_iload_n dX10_isSlice_4 rfl ?_
    refine tr_aload_n dX10_isSlice_5 rfl ?_
    obtain ⟨a4, d5, ta4⟩ := rf1_2 hW0 ta0
    refine tr_getR dX10_isSlice_6 fl10_16 (kR1 hW0 ta0) d5 ?_
    obtain ⟨v6, c7⟩ : ∃ v, I0 a4 13 = v := ⟨_, rfl⟩
    have b8 := iv2_13 hW0 ta4 c7
    refine q_getI dX10_isSlice_9 fl10_338 (kR2 hW0 ta4) c7 ?_
    refine q_icmp_ge 19 dX10_isSlice_12 (by decide) (fun h9 => ?_) (fun h9 => ?_)
    · skip
      refine q_iconst dX10_isSlice_19 (by decide) ?_
      intro v10 h11
      exact tr_zret hZ dX10_isSlice_20 rfl (ti_b01 (by exact om_d99fa9e4 h11) (by exact om_d3de7ec9 h11)) (by decide) (by decide) ⟨v10, rfl, rfl, rfl, rfl, rfl, rfl, rfl, (by exact om_3b50ecb9 h11), (by exact om_baaf1ab0 h11), trivial⟩
    · skip
      refine q_iconst dX10_isSlice_15 (by decide) ?_
      intro v12 h13
      refine tr_goto 20 dX10_isSlice_16 (by decide) ?_
      exact tr_zret hZ dX10_isSlice_20 rfl (ti_b01 (by exact om_f9079521 h13) (by exact om_e6632817 h13)) (by decide) (by decide) ⟨v12, rfl, rfl, rfl, rfl, rfl, rfl, rfl, (by exact om_d753bc65 h13), (by exact om_9d00385c h1 b8.2 b8.1 h9), trivial⟩
set_option maxHeartbeats 4000000 in
theorem k_X5_hasJustVeins {l : Launch} {T : Nat → Nat} {cn : Nat} {K N : Nat → Nat} {I0 : cz_I} {R0 : cz_R} {L0 : cz_L} {d : Int} (hW0 : Wf T cn K N I0 R0 d) {a0 : Nat} (ta0 : T a0 = 13) {x1 : Int32} (hx1 : 0 ≤ x1.toInt ∧ x1.toInt ≤ 7) {a2 : Nat} (ta2 : T a2 = 6) : ConE l mX5_hasJustVeins [.ref a0, .int x1, .ref a2] cn K N I0 R0 L0 (ca_i (fun v cn' K' N' I' R' L' => cn = cn' ∧ K = K' ∧ N = N' ∧ I0 = I' ∧ R0 = R' ∧ L0 = L' ∧ (0 ≤ v.toInt ∧ v.toInt ≤ 1) ∧ True)) := by
  refine ConE.of (by decide +kernel) rfl (Nat.le_of_ble_eq_true rfl) rfl (fun X hX hZ hE => ?_)
  subst hX
  refine tr_aload_n dX5_hasJustVeins_0 rfl ?_
  obtain ⟨a1, d2, ta1⟩ := rf13_4 hW0 ta0
  refine tr_getR dX5_hasJustVeins_1 fl5_15 (kR13 hW0 ta0) d2 ?_
  refine tr_iload_n dX5_hasJustVeins_4 rfl ?_
  refine q_iald dX5_hasJustVeins_5 (kR45 hW0 ta1) (ti_in (nR45 hW0 ta1) (by exact om_2a7998d2 hx1.2 hx1.1) (by exact om_2801faaf hx1.2 hx1.1)) ?_
  intro v3 c4
  refine tr_aload_n dX5_hasJustVeins_6 rfl ?_
  obtain ⟨a5, d6, ta5⟩ := rf13_5 hW0 ta0
  refine tr_getR dX5_hasJustVeins_7 fl5_18 (kR13 hW0 ta0) d6 ?_
  refine tr_iload_n dX5_hasJustVeins_10 rfl ?_
  refine q_iald dX5_hasJustVeins_11 (kR46 hW0 ta5) (ti_in (nR46 hW0 ta5) (by exact om_2a7998d2 hx1.2 hx1.1) (by exact om_2801faaf hx1.2 hx1.1)) ?_
  intro v7 c8
  refine q_iadd dX5_hasJustVeins_12 ?_
  intro v9
  refine tr_aload_n dX5_hasJustVeins_13 rfl ?_
  obtain ⟨v10, c11⟩ : ∃ v, I0 a2 0 = v := ⟨_, rfl⟩
  have b12 := iv6_0 hW0 ta2 c11
  refine q_getI dX5_hasJustVeins_14 fl5_187 (kR6 hW0 ta2) c11 ?_
  refine q_icmp_eq 22 dX5_hasJustVeins_17 (by decide) (fun h13 => ?_) (fun h13 => ?_)
  · skip
    refine q_iconst dX5_hasJustVeins_22 (by decide) ?_
    intro v14 h15
    refine tr_istore_n dX5_hasJustVeins_23 (by decide) (by decide) ?_
    have lp22 : ∀ (fu : Nat) (ls : Nat → Option Value) (v16 : Int32), ls 0 = some (.ref a0) → ls 1 = some (.int x1) → ls 2 = some (.ref a2) → ls 3 = some (.int v16) → 0 ≤ v16.toInt → (-v16.toInt + 2147483647).toNat < fu → Tr X mX5_hasJustVeins 24 ls [] cn K N I0 R0 L0 0 0 := by
      intro fu
      induction fu with
      | zero => intros; rename_i hz; exact absurd hz (Nat.not_lt_zero _)
      | succ fu ih22 =>
        intro ls v16 hl17 hl18 hl19 hl20 g21 hm22
        refine tr_iload_n dX5_hasJustVeins_24 hl20 ?_
        refine tr_aload_n dX5_hasJustVeins_25 hl19 ?_
        refine q_getI dX5_hasJustVeins_26 fl5_187 (kR6 hW0 ta2) c11 ?_
        refine q_icmp_ge 54 dX5_hasJustVeins_29 (by decide) (fun h24 => ?_) (fun h24 => ?_)
        · skip
          refine q_iconst dX5_hasJustVeins_54 (by decide) ?_
          intro v25 h26
          exact tr_zret hZ dX5_hasJustVeins_55 rfl (ti_b01 (by exact om_f9079521 h26) (by exact om_e6632817 h26)) (by decide) (by decide) ⟨v25, rfl, rfl, rfl, rfl, rfl, rfl, rfl, (by exact om_d753bc65 h26), trivial⟩
        · skip
          refine tr_aload_n dX5_hasJustVeins_32 hl17 ?_
          refine tr_iload_n dX5_hasJustVeins_33 hl18 ?_
          refine tr_aload_n dX5_hasJustVeins_34 hl19 ?_
          obtain ⟨a27, d28, ta27⟩ := rf6_1 hW0 ta2
          refine tr_getR dX5_hasJustVeins_35 fl5_190 (kR6 hW0 ta2) d28 ?_
          refine tr_iload_n dX5_hasJustVeins_38 hl20 ?_
          refine q_iald dX5_hasJustVeins_39 (kR24 hW0 ta27) (ti_in (nR24 hW0 ta27) (by exact om_2cfcd5a5 g21) (by exact om_6cba337b b12.2 b12.1 h13 h24)) ?_
          intro v29 c30
          have b31 := iv24 hW0 ta27 c30
          refine q_callVi hE (M' := mX5_isTurned) (as := [_, _]) dX5_hasJustVeins_40 lk5_180 inX5_isTurned seX5_isTurned myX5_isTurned (by decide) ⟨by decide, by decide⟩ rfl (kR13 hW0 ta0) (Nat.le_of_ble_eq_true rfl) rfl rfl (by decide) (by decide) (k_X5_isTurned hW0 ta0 (by exact om_87537644 b31)) ?_
          rintro v36 cn' K' N' I32 R33 L34 ⟨rfl, rfl, rfl, rfl, rfl, rfl, h37, -⟩
          refine q_if_ne 48 dX5_hasJustVeins_43 (by decide) (fun h38 => ?_) (fun h38 => ?_)
          · skip
            refine q_iincE dX5_hasJustVeins_48 hl20 (by decide) (by decide) (by intro j1 j2; exact om_f9a478bb b12.2 b12.1 h13 g21 h24 j2) ?_
            intro v39 h40
            refine tr_goto 24 dX5_hasJustVeins_51 (by decide) ?_
            exact ih22 _ v39 hl17 hl18 hl19 rfl (by exact om_68881c41 g21 h40) (by exact om_2f919960 b12.2 b12.1 h13 g21 hm22 h24 h37.2 h37.1 h38 h40)
          · skip
            refine q_iconst dX5_hasJustVeins_46 (by decide) ?_
            intro v41 h42
            exact tr_zret hZ dX5_hasJustVeins_47 rfl (ti_b01 (by exact om_d99fa9e4 h42) (by exact om_d3de7ec9 h42)) (by decide) (by decide) ⟨v41, rfl, rfl, rfl, rfl, rfl, rfl, rfl, (by exact om_3b50ecb9 h42), trivial⟩
    exact lp22 _ _ v14 rfl rfl rfl rfl (by exact om_d99fa9e4 h15) (Nat.lt_succ_self _)
  · skip
    refine q_iconst dX5_hasJustVeins_20 (by decide) ?_
    intro v43 h44
    exact tr_zret hZ dX5_hasJustVeins_21 rfl (ti_b01 (by exact om_d99fa9e4 h44) (by exact om_d3de7ec9 h44)) (by decide) (by decide) ⟨v43, rfl, rfl, rfl, rfl, rfl, rfl, rfl, (by exact om_3b50ecb9 h44), trivial⟩
set_option maxHeartbeats 4000000 in
theorem k_X5_cheesesWithVeins {l : Launch} {T : Nat → Nat} {cn : Nat} {K N : Nat → Nat} {I0 : cz_I} {R0 : cz_R} {L0 : cz_L} {d : Int} (hW0 : Wf T cn K N I0 R0 d) {a0 : Nat} (ta0 : T a0 = 13) {a1 : Nat} (ta1 : T a1 = 6) : ConE l mX5_cheesesWithVeins [.ref a0, .ref a1] cn K N I0 R0 L0 (ca_i (fun v cn' K' N' I' R' L' => cn = cn' ∧ K = K' ∧ N = N' ∧ I0 = I' ∧ R0 = R' ∧ L0 = L' ∧ True)) := by
  refine ConE.of (by decide +kernel) rfl (Nat.le_of_ble_eq_true rfl) rfl (fun X hX hZ hE => ?_)
  subst hX
  refine q_iconst dX5_cheesesWithVeins_0 (by decide) ?_
  intro v1 h2
  refine tr_istore_n dX5_cheesesWithVeins_1 (by decide) (by decide) ?_
  refine q_iconst dX5_cheesesWithVeins_2 (by decide) ?_
  intro v3 h4
  refine tr_istore_n dX5_cheesesWithVeins_3 (by decide) (by decide) ?_
  have lp12 : ∀ (fu : Nat) (ls : Nat → Option Value) (v5 : Int32) (v6 : Int32), ls 0 = some (.ref a0) → ls 1 = some (.ref a1) → ls 2 = some (.int v5) → ls 3 = some (.int v6) → 0 ≤ v6.toInt → (-v6.toInt + 2147483647).toNat < fu → Tr X mX5_cheesesWithVeins 4 ls [] cn K N I0 R0 L0 0 0 := by
    intro fu
    induction fu with
    | zero => intros; rename_i hz; exact absurd hz (Nat.not_lt_zero _)
    | succ fu ih12 =>
      intro ls v5 v6 hl7 hl8 hl9 hl10 g11 hm12
      refine tr_iload_n dX5_cheesesWithVeins_4 hl10 ?_
      refine tr_aload_n dX5_cheesesWithVeins_5 hl7 ?_
      obtain ⟨a14, d15, ta14⟩ := rf13_0 hW0 ta0
      refine tr_getR dX5_cheesesWithVeins_6 fl5_39 (kR13 hW0 ta0) d15 ?_
      obtain ⟨v16, c17⟩ : ∃ v, I0 a14 5 = v := ⟨_, rfl⟩
      have b18 := iv2_5 hW0 ta14 c17
      refine q_getI dX5_cheesesWithVeins_9 fl5_107 (kR2 hW0 ta14) c17 ?_
      refine q_icmp_ge 36 dX5_cheesesWithVeins_12 (by decide) (fun h19 => ?_) (fun h19 => ?_)
      · skip
        refine tr_iload_n dX5_cheesesWithVeins_36 hl9 ?_
        exact tr_iret hZ dX5_cheesesWithVeins_37 rfl (by decide) (by decide) ⟨v5, rfl, rfl, rfl, rfl, rfl, rfl, rfl, trivial⟩
      · skip
        refine tr_aload_n dX5_cheesesWithVeins_15 hl7 ?_
        refine tr_iload_n dX5_cheesesWithVeins_16 hl10 ?_
        refine tr_aload_n dX5_cheesesWithVeins_17 hl8 ?_
        refine q_callVi hE (M' := mX5_hasJustVeins) (as := [_, _]) dX5_cheesesWithVeins_18 lk5_183 inX5_hasJustVeins seX5_hasJustVeins myX5_hasJustVeins (by decide) ⟨by decide, by decide⟩ rfl (kR13 hW0 ta0) (Nat.le_of_ble_eq_true rfl) rfl rfl (by decide) (by decide) (k_X5_hasJustVeins hW0 ta0 (by exact om_c633c06e g11 b18.2 b18.1 h19) ta1) ?_
        rintro v24 cn' K' N' I20 R21 L22 ⟨rfl, rfl, rfl, rfl, rfl, rfl, h25, -⟩
        refine q_if_eq 30 dX5_cheesesWithVeins_21 (by decide) (fun h26 => ?_) (fun h26 => ?_)
        · skip
          refine q_iincE dX5_cheesesWithVeins_30 hl10 (by decide) (by decide) (by intro j1 j2; exact om_4034714d g11 b18.2 b18.1 h19 j2) ?_
          intro v27 h28
          refine tr_goto 4 dX5_cheesesWithVeins_33 (by decide) ?_
          exact ih12 _ v5 v27 hl7 hl8 hl9 rfl (by exact om_68881c41 g11 h28) (by exact om_fc025699 g11 hm12 b18.2 b18.1 h19 h28)
        · skip
          refine tr_iload_n dX5_cheesesWithVeins_24 hl9 ?_
          refine q_iconst dX5_cheesesWithVeins_25 (by decide) ?_
          intro v29 h30
          refine tr_iload_n dX5_cheesesWithVeins_26 hl10 ?_
          refine q_ishl dX5_cheesesWithVeins_27 ?_
          intro v31
          refine q_ior dX5_cheesesWithVeins_28 ?_
          intro v32
          refine tr_istore_n dX5_cheesesWithVeins_29 (by decide) (by decide) ?_
          refine q_iincE dX5_cheesesWithVeins_30 hl10 (by decide) (by decide) (by intro j1 j2; exact om_4034714d g11 b18.2 b18.1 h19 j2) ?_
          intro v33 h34
          refine tr_goto 4 dX5_cheesesWithVeins_33 (by decide) ?_
          exact ih12 _ v32 v33 hl7 hl8 rfl rfl (by exact om_68881c41 g11 h34) (by exact om_ed32802d g11 hm12 b18.2 b18.1 h19 h25.2 h25.1 h26 h34)
  exact lp12 _ _ v1 v3 rfl rfl rfl rfl (by exact om_d99fa9e4 h4) (Nat.lt_succ_self _)
def wi_X10_fits : List Nat := [73, 75, 81, 768, 769, 778, 834, 2303, 2367, 2431, 2495, 2559, 2623, 2687, 2751, 2815, 2879, 2943, 3007, 3071, 3135, 3199, 3263, 3327, 3391]
def wr_X10_fits : List Nat := [832, 833]
set_option maxHeartbeats 4000000 in
theorem k_X10_fits {l : Launch} {T : Nat → Nat} {cn : Nat} {K N : Nat → Nat} {I0 : cz_I} {R0 : cz_R} {L0 : cz_L} {d : Int} (hW0 : Wf T cn K N I0 R0 d) {a0 : Nat} (ta0 : T a0 = 1) {x1 : Int32} : ConE l mX10_fits [.ref a0, .int x1] cn K N I0 R0 L0 (ca_i (fun v cn' K' N' I' R' L' => cn = cn' ∧ K = K' ∧ N = N' ∧ L0 = L' ∧ St T cn K N d wi_X10_fits wr_X10_fits I0 R0 I' R' ∧ True)) := by
  refine ConE.of (by decide +kernel) rfl (Nat.le_of_ble_eq_true rfl) rfl (fun X hX hZ hE => ?_)
  subst hX
  have hS0 : St T cn K N d wi_X10_fits wr_X10_fits I0 R0 I0 R0 := St.rf0 hW0
  refine tr_aload_n dX10_fits_0 rfl ?_
  refine tr_iload_n dX10_fits_1 rfl ?_
  refine q_callVi hE (M' := mX10_isSlice) (as := [_]) dX10_fits_2 lk10_252 inX10_isSlice seX10_isSlice myX10_isSlice (by decide) ⟨by decide, by decide⟩ rfl (kR1 hS0.1 ta0) (Nat.le_of_ble_eq_true rfl) rfl rfl (by decide) (by decide) (k_X10_isSlice hS0.1 ta0) ?_
  rintro v5 cn' K' N' I1 R2 L3 ⟨rfl, rfl, rfl, rfl, rfl, rfl, h6, p7, -⟩
  refine q_if_ne 14 dX10_fits_5 (by decide) (fun h8 => ?_) (fun h8 => ?_)
  · skip
    refine tr_aload_n dX10_fits_14 rfl ?_
    refine tr_aload_n dX10_fits_15 rfl ?_
    refine q_callVr hE (M' := mX10_presentNight) (as := []) dX10_fits_16 lk10_155 inX10_presentNight seX10_presentNight myX10_presentNight (by decide) ⟨by decide, by decide⟩ rfl (kR1 hS0.1 ta0) (Nat.le_of_ble_eq_true rfl) rfl rfl (by decide) (by decide) (k_X10_presentNight hS0.1 ta0) ?_
    rintro a13 cn' K' N' I9 R10 L11 ⟨rfl, rfl, rfl, rfl, g12, ta13, -⟩
    have hS14 := hS0.tr g12 (by decide +kernel) (by decide +kernel)
    refine tr_aload_n dX10_fits_19 rfl ?_
    obtain ⟨a15, d16, ta15⟩ := rf1_2 hW0 ta0
    refine tr_getR dX10_fits_20 fl10_16 (kR1 hS14.1 ta0) ((hS14.rcell ta0 (by decide +kernel)).trans d16) ?_
    obtain ⟨a17, d18, ta17⟩ := rf2_14 hW0 ta15
    refine tr_getR dX10_fits_23 fl10_255 (kR2 hS14.1 ta15) ((hS14.rcell ta15 (by decide +kernel)).trans d18) ?_
    refine tr_iload_n dX10_fits_26 rfl ?_
    obtain ⟨a19, d20, ta19⟩ := rf23 hS14.1 ta17 (j := x1.toNatClampNeg) (ti_lt (by exact om_77ab9389 h6.2 h6.1 p7 h8) (by exact om_5e4298c0 h6.2 h6.1 p7 h8))
    refine tr_aald dX10_fits_27 (kR23 hS14.1 ta17) (by decide) (by decide) (ti_in (nR23 hS14.1 ta17) (by exact om_77ab9389 h6.2 h6.1 p7 h8) (by exact om_5e4298c0 h6.2 h6.1 p7 h8)) d20 ?_
    refine q_callVi hE (M' := mX5_cheesesWithVeins) (as := [_]) dX10_fits_28 lk10_259 inX5_cheesesWithVeins seX5_cheesesWithVeins myX5_cheesesWithVeins (by decide) ⟨by decide, by decide⟩ rfl (kR13 hS14.1 ta13) (Nat.le_of_ble_eq_true rfl) rfl rfl (by decide) (by decide) (k_X5_cheesesWithVeins hS14.1 ta13 ta19) ?_
    rintro v25 cn' K' N' I21 R22 L23 ⟨rfl, rfl, rfl, rfl, rfl, rfl, -⟩
    refine q_callVi hE (M' := mX10_answered) (as := [_]) dX10_fits_31 lk10_109 inX10_answered seX10_answered myX10_answered (by decide) ⟨by decide, by decide⟩ rfl (kR1 hS14.1 ta0) (Nat.le_of_ble_eq_true rfl) rfl rfl (by decide) (by decide) (k_X10_answered hS14.1 ta0) ?_
    rintro v30 cn' K' N' I26 R27 L28 ⟨rfl, rfl, rfl, rfl, rfl, g29, -⟩
    have hS31 := hS14.tr g29 (by decide +kernel) (by decide +kernel)
    exact tr_iret hZ dX10_fits_34 rfl (by decide) (by decide) ⟨v30, rfl, rfl, rfl, rfl, rfl, hS31, trivial⟩
  · skip
    refine tr_aload_n dX10_fits_8 rfl ?_
    refine q_iconst dX10_fits_9 (by decide) ?_
    intro v32 h33
    refine q_callVi hE (M' := mX10_refused) (as := [_]) dX10_fits_10 lk10_79 inX10_refused seX10_refused myX10_refused (by decide) ⟨by decide, by decide⟩ rfl (kR1 hS0.1 ta0) (Nat.le_of_ble_eq_true rfl) rfl rfl (by decide) (by decide) (k_X10_refused hS0.1 ta0) ?_
    rintro v38 cn' K' N' I34 R35 L36 ⟨rfl, rfl, rfl, rfl, rfl, g37, -⟩
    have hS39 := hS0.tr g37 (by decide +kernel) (by decide +kernel)
    exact tr_iret hZ dX10_fits_13 rfl (by decide) (by decide) ⟨v38, rfl, rfl, rfl, rfl, rfl, hS39, trivial⟩
def wi_X10_by : List Nat := [73, 81, 768, 769, 778, 834, 2303, 2367, 2431, 2495, 2559, 2623, 2687, 2751, 2815, 2879, 2943, 3007, 3071, 3135, 3199, 3263, 3327, 3391]
def wr_X10_by : List Nat := [832, 833]
set_option maxHeartbeats 4000000 in
theorem k_X10_by {l : Launch} {T : Nat → Nat} {cn : Nat} {K N : Nat → Nat} {I0 : cz_I} {R0 : cz_R} {L0 : cz_L} {d : Int} (hW0 : Wf T cn K N I0 R0 d) {a0 : Nat} (ta0 : T a0 = 1) {x1 : Int32} : ConE l mX10_by [.ref a0, .int x1] cn K N I0 R0 L0 (ca_i (fun v cn' K' N' I' R' L' => cn = cn' ∧ K = K' ∧ N = N' ∧ L0 = L' ∧ St T cn K N d wi_X10_by wr_X10_by I0 R0 I' R' ∧ True)) := by
  refine ConE.of (by decide +kernel) rfl (Nat.le_of_ble_eq_true rfl) rfl (fun X hX hZ hE => ?_)
  subst hX
  have hS0 : St T cn K N d wi_X10_by wr_X10_by I0 R0 I0 R0 := St.rf0 hW0
  refine tr_aload_n dX10_by_0 rfl ?_
  refine tr_iload_n dX10_by_1 rfl ?_
  refine q_callVi hE (M' := mX10_isSlice) (as := [_]) dX10_by_2 lk10_252 inX10_isSlice seX10_isSlice myX10_isSlice (by decide) ⟨by decide, by decide⟩ rfl (kR1 hS0.1 ta0) (Nat.le_of_ble_eq_true rfl) rfl rfl (by decide) (by decide) (k_X10_isSlice hS0.1 ta0) ?_
  rintro v5 cn' K' N' I1 R2 L3 ⟨rfl, rfl, rfl, rfl, rfl, rfl, h6, p7, -⟩
  refine q_if_ne 14 dX10_by_5 (by decide) (fun h8 => ?_) (fun h8 => ?_)
  · skip
    refine q_bipush dX10_by_14 (by decide +kernel) ?_
    intro v9 h10
    refine tr_istore_n dX10_by_16 (by decide) (by decide) ?_
    refine q_iconst dX10_by_17 (by decide) ?_
    intro v11 h12
    refine tr_istore_n dX10_by_18 (by decide) (by decide) ?_
    have lp23 : ∀ (fu : Nat) (ls : Nat → Option Value) (v13 : Int32) (v14 : Int32) (I19 : cz_I) (R20 : cz_R), ls 0 = some (.ref a0) → ls 1 = some (.int x1) → ls 2 = some (.int v13) → ls 3 = some (.int v14) → St T cn K N d wi_X10_by wr_X10_by I0 R0 I19 R20 → 0 ≤ v14.toInt → (-v14.toInt + 2147483647).toNat < fu → Tr X mX10_by 19 ls [] cn K N I19 R20 L0 0 0 := by
      intro fu
      induction fu with
      | zero => intros; rename_i hz; exact absurd hz (Nat.not_lt_zero _)
      | succ fu ih23 =>
        intro ls v13 v14 I19 R20 hl15 hl16 hl17 hl18 hS21 g22 hm23
        refine tr_iload_n dX10_by_19 hl18 ?_
        refine tr_aload_n dX10_by_20 hl15 ?_
        refine q_callVi hE (M' := mX10_allCalls) (as := []) dX10_by_21 lk10_263 inX10_allCalls seX10_allCalls myX10_allCalls (by decide) ⟨by decide, by decide⟩ rfl (kR1 hS21.1 ta0) (Nat.le_of_ble_eq_true rfl) rfl rfl (by decide) (by decide) (k_X10_allCalls hS21.1 ta0) ?_
        rintro v29 cn' K' N' I25 R26 L27 ⟨rfl, rfl, rfl, rfl, rfl, rfl, h30, -⟩
        refine q_icmp_gt 91 dX10_by_24 (by decide) (fun h31 => ?_) (fun h31 => ?_)
        · skip
          refine tr_aload_n dX10_by_91 hl15 ?_
          refine tr_iload_n dX10_by_92 hl17 ?_
          refine q_callVi hE (M' := mX10_answered) (as := [_]) dX10_by_93 lk10_109 inX10_answered seX10_answered myX10_answered (by decide) ⟨by decide, by decide⟩ rfl (kR1 hS21.1 ta0) (Nat.le_of_ble_eq_true rfl) rfl rfl (by decide) (by decide) (k_X10_answered hS21.1 ta0) ?_
          rintro v36 cn' K' N' I32 R33 L34 ⟨rfl, rfl, rfl, rfl, rfl, g35, -⟩
          have hS37 := hS21.tr g35 (by decide +kernel) (by decide +kernel)
          exact tr_iret hZ dX10_by_96 rfl (by decide) (by decide) ⟨v36, rfl, rfl, rfl, rfl, rfl, hS37, trivial⟩
        · skip
          refine tr_iload_n dX10_by_27 hl17 ?_
          refine q_bipush dX10_by_28 (by decide +kernel) ?_
          intro v38 h39
          refine q_icmp_eq 44 dX10_by_30 (by decide) (fun h40 => ?_) (fun h40 => ?_)
          · skip
            refine tr_aload_n dX10_by_44 hl15 ?_
            obtain ⟨a41, d42, ta41⟩ := rf1_14 hW0 ta0
            refine tr_getR dX10_by_45 fl10_68 (kR1 hS21.1 ta0) ((hS21.rcell ta0 (by decide +kernel)).trans d42) ?_
            refine tr_aload_n dX10_by_48 hl15 ?_
            obtain ⟨a43, d44, ta43⟩ := rf1_2 hW0 ta0
            refine tr_getR dX10_by_49 fl10_16 (kR1 hS21.1 ta0) ((hS21.rcell ta0 (by decide +kernel)).trans d44) ?_
            refine tr_aload_n dX10_by_52 hl15 ?_
            refine q_callVr hE (M' := mX10_presentSky) (as := []) dX10_by_53 lk10_119 inX10_presentSky seX10_presentSky myX10_presentSky (by decide) ⟨by decide, by decide⟩ rfl (kR1 hS21.1 ta0) (Nat.le_of_ble_eq_true rfl) rfl rfl (by decide) (by decide) (k_X10_presentSky hS21.1 ta0) ?_
            rintro a49 cn' K' N' I45 R46 L47 ⟨rfl, rfl, rfl, rfl, rfl, g48, ta49, -⟩
            have hS50 := hS21.tr g48 (by decide +kernel) (by decide +kernel)
            refine tr_iload_n dX10_by_56 hl18 ?_
            refine tr_aload_n dX10_by_57 hl15 ?_
            refine q_callVi hE (M' := mX10_allTurners) (as := []) dX10_by_58 lk10_184 inX10_allTurners seX10_allTurners myX10_allTurners (by decide) ⟨by decide, by decide⟩ rfl (kR1 hS50.1 ta0) (Nat.le_of_ble_eq_true rfl) rfl rfl (by decide) (by decide) (k_X10_allTurners hS50.1 ta0) ?_
            rintro v55 cn' K' N' I51 R52 L53 ⟨rfl, rfl, rfl, rfl, rfl, rfl, h56, -⟩
            refine q_callVv hE (M' := mX5_play) (as := [_, _, _, _]) dX10_by_61 lk10_188 inX5_play seX5_play myX5_play (by decide) ⟨by decide, by decide⟩ rfl (kR13 hS50.1 ta41) (Nat.le_of_ble_eq_true rfl) rfl rfl (by decide) (by decide) (k_X5_play hS50.1 ta41 ta43 ta49) ?_
            rintro cn' K' N' I57 R58 L59 ⟨rfl, rfl, rfl, rfl, g60, -⟩
            have hS62 := hS50.tr g60 (by decide +kernel) (by decide +kernel)
            refine tr_aload_n dX10_by_64 hl15 ?_
            refine tr_getR dX10_by_65 fl10_68 (kR1 hS62.1 ta0) ((hS62.rcell ta0 (by decide +kernel)).trans d42) ?_
            refine tr_aload_n dX10_by_68 hl15 ?_
            refine tr_getR dX10_by_69 fl10_16 (kR1 hS62.1 ta0) ((hS62.rcell ta0 (by decide +kernel)).trans d44) ?_
            obtain ⟨a63, d64, ta63⟩ := rf2_14 hW0 ta43
            refine tr_getR dX10_by_72 fl10_255 (kR2 hS62.1 ta43) ((hS62.rcell ta43 (by decide +kernel)).trans d64) ?_
            refine tr_iload_n dX10_by_75 hl16 ?_
            obtain ⟨a65, d66, ta65⟩ := rf23 hS62.1 ta63 (j := x1.toNatClampNeg) (ti_lt (by exact om_60b9a072 h6.2 h6.1 p7 h8 h30.2 h30.1 h31) (by exact om_80932db0 h6.2 h6.1 p7 h8 h30.2 h30.1 h31))
            refine tr_aald dX10_by_76 (kR23 hS62.1 ta63) (by decide) (by decide) (ti_in (nR23 hS62.1 ta63) (by exact om_60b9a072 h6.2 h6.1 p7 h8 h30.2 h30.1 h31) (by exact om_80932db0 h6.2 h6.1 p7 h8 h30.2 h30.1 h31)) d66 ?_
            refine q_callVi hE (M' := mX5_cheesesWithVeins) (as := [_]) dX10_by_77 lk10_259 inX5_cheesesWithVeins seX5_cheesesWithVeins myX5_cheesesWithVeins (by decide) ⟨by decide, by decide⟩ rfl (kR13 hS62.1 ta41) (Nat.le_of_ble_eq_true rfl) rfl rfl (by decide) (by decide) (k_X5_cheesesWithVeins hS62.1 ta41 ta65) ?_
            rintro v71 cn' K' N' I67 R68 L69 ⟨rfl, rfl, rfl, rfl, rfl, rfl, -⟩
            refine q_if_eq 85 dX10_by_80 (by decide) (fun h72 => ?_) (fun h72 => ?_)
            · skip
              refine q_iincE dX10_by_85 hl18 (by decide) (by decide) (by intro j1 j2; exact om_9c1e56ba g22 h30.2 h30.1 h31 j2) ?_
              intro v73 h74
              refine tr_goto 19 dX10_by_88 (by decide) ?_
              exact ih23 _ v13 v73 I57 R58 hl15 hl16 hl17 rfl hS62 (by exact om_68881c41 g22 h74) (by exact om_3c5c590e g22 hm23 h30.2 h30.1 h31 h74)
            · skip
              refine tr_iload_n dX10_by_83 hl18 ?_
              refine tr_istore_n dX10_by_84 (by decide) (by decide) ?_
              refine q_iincE dX10_by_85 hl18 (by decide) (by decide) (by intro j1 j2; exact om_9c1e56ba g22 h30.2 h30.1 h31 j2) ?_
              intro v75 h76
              refine tr_goto 19 dX10_by_88 (by decide) ?_
              exact ih23 _ v14 v75 I57 R58 hl15 hl16 rfl rfl hS62 (by exact om_68881c41 g22 h76) (by exact om_20bc2fd7 g22 hm23 h30.2 h30.1 h31 h72 h76)
          · skip
            refine tr_iload_n dX10_by_33 hl18 ?_
            refine q_callSi hE (M' := mJ6_bitCount_0f7a4) (as := [_]) dX10_by_34 lk10_247 inJ6_bitCount_0f7a4 myJ6_bitCount_0f7a4 ⟨by decide, by decide⟩ rfl (Nat.le_of_ble_eq_true rfl) rfl rfl (by decide) (by decide) (k_J6_bitCount_0f7a4 hS21.1 ) ?_
            rintro v81 cn' K' N' I77 R78 L79 ⟨rfl, rfl, rfl, rfl, rfl, rfl, -⟩
            refine tr_iload_n dX10_by_37 hl17 ?_
            refine q_callSi hE (M' := mJ6_bitCount_0f7a4) (as := [_]) dX10_by_38 lk10_247 inJ6_bitCount_0f7a4 myJ6_bitCount_0f7a4 ⟨by decide, by decide⟩ rfl (Nat.le_of_ble_eq_true rfl) rfl rfl (by decide) (by decide) (k_J6_bitCount_0f7a4 hS21.1 ) ?_
            rintro v86 cn' K' N' I82 R83 L84 ⟨rfl, rfl, rfl, rfl, rfl, rfl, -⟩
            refine q_icmp_ge 85 dX10_by_41 (by decide) (fun h87 => ?_) (fun h87 => ?_)
            · skip
              refine q_iincE dX10_by_85 hl18 (by decide) (by decide) (by intro j1 j2; exact om_9c1e56ba g22 h30.2 h30.1 h31 j2) ?_
              intro v88 h89
              refine tr_goto 19 dX10_by_88 (by decide) ?_
              exact ih23 _ v13 v88 I19 R20 hl15 hl16 hl17 rfl hS21 (by exact om_68881c41 g22 h89) (by exact om_80aacbaa g22 hm23 h30.2 h30.1 h31 h40 h89)
            · skip
              refine tr_aload_n dX10_by_44 hl15 ?_
              obtain ⟨a90, d91, ta90⟩ := rf1_14 hW0 ta0
              refine tr_getR dX10_by_45 fl10_68 (kR1 hS21.1 ta0) ((hS21.rcell ta0 (by decide +kernel)).trans d91) ?_
              refine tr_aload_n dX10_by_48 hl15 ?_
              obtain ⟨a92, d93, ta92⟩ := rf1_2 hW0 ta0
              refine tr_getR dX10_by_49 fl10_16 (kR1 hS21.1 ta0) ((hS21.rcell ta0 (by decide +kernel)).trans d93) ?_
              refine tr_aload_n dX10_by_52 hl15 ?_
              refine q_callVr hE (M' := mX10_presentSky) (as := []) dX10_by_53 lk10_119 inX10_presentSky seX10_presentSky myX10_presentSky (by decide) ⟨by decide, by decide⟩ rfl (kR1 hS21.1 ta0) (Nat.le_of_ble_eq_true rfl) rfl rfl (by decide) (by decide) (k_X10_presentSky hS21.1 ta0) ?_
              rintro a98 cn' K' N' I94 R95 L96 ⟨rfl, rfl, rfl, rfl, rfl, g97, ta98, -⟩
              have hS99 := hS21.tr g97 (by decide +kernel) (by decide +kernel)
              refine tr_iload_n dX10_by_56 hl18 ?_
              refine tr_aload_n dX10_by_57 hl15 ?_
              refine q_callVi hE (M' := mX10_allTurners) (as := []) dX10_by_58 lk10_184 inX10_allTurners seX10_allTurners myX10_allTurners (by decide) ⟨by decide, by decide⟩ rfl (kR1 hS99.1 ta0) (Nat.le_of_ble_eq_true rfl) rfl rfl (by decide) (by decide) (k_X10_allTurners hS99.1 ta0) ?_
              rintro v104 cn' K' N' I100 R101 L102 ⟨rfl, rfl, rfl, rfl, rfl, rfl, h105, -⟩
              refine q_callVv hE (M' := mX5_play) (as := [_, _, _, _]) dX10_by_61 lk10_188 inX5_play seX5_play myX5_play (by decide) ⟨by decide, by decide⟩ rfl (kR13 hS99.1 ta90) (Nat.le_of_ble_eq_true rfl) rfl rfl (by decide) (by decide) (k_X5_play hS99.1 ta90 ta92 ta98) ?_
              rintro cn' K' N' I106 R107 L108 ⟨rfl, rfl, rfl, rfl, g109, -⟩
              have hS111 := hS99.tr g109 (by decide +kernel) (by decide +kernel)
              refine tr_aload_n dX10_by_64 hl15 ?_
              refine tr_getR dX10_by_65 fl10_68 (kR1 hS111.1 ta0) ((hS111.rcell ta0 (by decide +kernel)).trans d91) ?_
              refine tr_aload_n dX10_by_68 hl15 ?_
              refine tr_getR dX10_by_69 fl10_16 (kR1 hS111.1 ta0) ((hS111.rcell ta0 (by decide +kernel)).trans d93) ?_
              obtain ⟨a112, d113, ta112⟩ := rf2_14 hW0 ta92
              refine tr_getR dX10_by_72 fl10_255 (kR2 hS111.1 ta92) ((hS111.rcell ta92 (by decide +kernel)).trans d113) ?_
              refine tr_iload_n dX10_by_75 hl16 ?_
              obtain ⟨a114, d115, ta114⟩ := rf23 hS111.1 ta112 (j := x1.toNatClampNeg) (ti_lt (by exact om_9f2ac036 h6.2 h6.1 p7 h8 h30.2 h30.1 h31 h40) (by exact om_c0aa9524 h6.2 h6.1 p7 h8 h30.2 h30.1 h31 h40))
              refine tr_aald dX10_by_76 (kR23 hS111.1 ta112) (by decide) (by decide) (ti_in (nR23 hS111.1 ta112) (by exact om_9f2ac036 h6.2 h6.1 p7 h8 h30.2 h30.1 h31 h40) (by exact om_c0aa9524 h6.2 h6.1 p7 h8 h30.2 h30.1 h31 h40)) d115 ?_
              refine q_callVi hE (M' := mX5_cheesesWithVeins) (as := [_]) dX10_by_77 lk10_259 inX5_cheesesWithVeins seX5_cheesesWithVeins myX5_cheesesWithVeins (by decide) ⟨by decide, by decide⟩ rfl (kR13 hS111.1 ta90) (Nat.le_of_ble_eq_true rfl) rfl rfl (by decide) (by decide) (k_X5_cheesesWithVeins hS111.1 ta90 ta114) ?_
              rintro v120 cn' K' N' I116 R117 L118 ⟨rfl, rfl, rfl, rfl, rfl, rfl, -⟩
              refine q_if_eq 85 dX10_by_80 (by decide) (fun h121 => ?_) (fun h121 => ?_)
              · skip
                refine q_iincE dX10_by_85 hl18 (by decide) (by decide) (by intro j1 j2; exact om_9c1e56ba g22 h30.2 h30.1 h31 j2) ?_
                intro v122 h123
                refine tr_goto 19 dX10_by_88 (by decide) ?_
                exact ih23 _ v13 v122 I106 R107 hl15 hl16 hl17 rfl hS111 (by exact om_68881c41 g22 h123) (by exact om_80aacbaa g22 hm23 h30.2 h30.1 h31 h40 h123)
              · skip
                refine tr_iload_n dX10_by_83 hl18 ?_
                refine tr_istore_n dX10_by_84 (by decide) (by decide) ?_
                refine q_iincE dX10_by_85 hl18 (by decide) (by decide) (by intro j1 j2; exact om_9c1e56ba g22 h30.2 h30.1 h31 j2) ?_
                intro v124 h125
                refine tr_goto 19 dX10_by_88 (by decide) ?_
                exact ih23 _ v14 v124 I106 R107 hl15 hl16 rfl rfl hS111 (by exact om_68881c41 g22 h125) (by exact om_70d674ec g22 hm23 h30.2 h30.1 h31 h40 h121 h125)
    exact lp23 _ _ v9 v11 I0 R0 rfl rfl rfl rfl hS0 (by exact om_d99fa9e4 h12) (Nat.lt_succ_self _)
  · skip
    refine tr_aload_n dX10_by_8 rfl ?_
    refine q_iconst dX10_by_9 (by decide) ?_
    intro v126 h127
    refine q_callVi hE (M' := mX10_refused) (as := [_]) dX10_by_10 lk10_79 inX10_refused seX10_refused myX10_refused (by decide) ⟨by decide, by decide⟩ rfl (kR1 hS0.1 ta0) (Nat.le_of_ble_eq_true rfl) rfl rfl (by decide) (by decide) (k_X10_refused hS0.1 ta0) ?_
    rintro v132 cn' K' N' I128 R129 L130 ⟨rfl, rfl, rfl, rfl, rfl, g131, -⟩
    have hS133 := hS0.tr g131 (by decide +kernel) (by decide +kernel)
    exact tr_iret hZ dX10_by_13 rfl (by decide) (by decide) ⟨v132, rfl, rfl, rfl, rfl, rfl, hS133, trivial⟩
set_option maxHeartbeats 4000000 in
theorem k_X10_isSeed {l : Launch} {T : Nat → Nat} {cn : Nat} {K N : Nat → Nat} {I0 : cz_I} {R0 : cz_R} {L0 : cz_L} {d : Int} (hW0 : Wf T cn K N I0 R0 d) {x0 : Int32} : ConE l mX10_isSeed [.int x0] cn K N I0 R0 L0 (ca_i (fun v cn' K' N' I' R' L' => cn = cn' ∧ K = K' ∧ N = N' ∧ I0 = I' ∧ R0 = R' ∧ L0 = L' ∧ (0 ≤ v.toInt ∧ v.toInt ≤ 1) ∧ ((v.toInt = 1 → (0 ≤ x0.toInt ∧ x0.toInt ≤ 65536))) ∧ True)) := by
  refine ConE.of (by decide +kernel) rfl (Nat.le_of_ble_eq_true rfl) rfl (fun X hX hZ hE => ?_)
  subst hX
  refine tr_iload_n dX10_isSeed_0 rfl ?_
  refine q_if_lt 15 dX10_isSeed_1 (by decide) (fun h1 => ?_) (fun h1 => ?_)
  · skip
    refine q_iconst dX10_isSeed_15 (by decide) ?_
    intro v2 h3
    exact tr_zret hZ dX10_isSeed_16 rfl (ti_b01 (by exact om_d99fa9e4 h3) (by exact om_d3de7ec9 h3)) (by decide) (by decide) ⟨v2, rfl, rfl, rfl, rfl, rfl, rfl, rfl, (by exact om_3b50ecb9 h3), (by exact om_060355dc h3), trivial⟩
  · skip
    refine tr_iload_n dX10_isSeed_4 rfl ?_
    refine q_ldcw 65537 dX10_isSeed_5 ld10_357 (by decide +kernel) ?_
    intro v4 h5
    refine q_icmp_ge 15 dX10_isSeed_8 (by decide) (fun h6 => ?_) (fun h6 => ?_)
    · skip
      refine q_iconst dX10_isSeed_15 (by decide) ?_
      intro v7 h8
      exact tr_zret hZ dX10_isSeed_16 rfl (ti_b01 (by exact om_d99fa9e4 h8) (by exact om_d3de7ec9 h8)) (by decide) (by decide) ⟨v7, rfl, rfl, rfl, rfl, rfl, rfl, rfl, (by exact om_3b50ecb9 h8), (by exact om_060355dc h8), trivial⟩
    · skip
      refine q_iconst dX10_isSeed_11 (by decide) ?_
      intro v9 h10
      refine tr_goto 16 dX10_isSeed_12 (by decide) ?_
      exact tr_zret hZ dX10_isSeed_16 rfl (ti_b01 (by exact om_f9079521 h10) (by exact om_e6632817 h10)) (by decide) (by decide) ⟨v9, rfl, rfl, rfl, rfl, rfl, rfl, rfl, (by exact om_d753bc65 h10), (by exact om_5af01e33 h1 h5 h6), trivial⟩
def wi_X3_clear_1 : List Nat := [576, 577, 578]
def wr_X3_clear_1 : List Nat := []
set_option maxHeartbeats 4000000 in
theorem k_X3_clear_1 {l : Launch} {T : Nat → Nat} {cn : Nat} {K N : Nat → Nat} {I0 : cz_I} {R0 : cz_R} {L0 : cz_L} {d : Int} (hW0 : Wf T cn K N I0 R0 d) {a0 : Nat} (ta0 : T a0 = 9) : ConE l mX3_clear [.ref a0] cn K N I0 R0 L0 (ca_v (fun cn' K' N' I' R' L' => cn = cn' ∧ K = K' ∧ N = N' ∧ R0 = R' ∧ L0 = L' ∧ St T cn K N d wi_X3_clear_1 wr_X3_clear_1 I0 R0 I' R0 ∧ True)) := by
  refine ConE.of (by decide +kernel) rfl (Nat.le_of_ble_eq_true rfl) rfl (fun X hX hZ hE => ?_)
  subst hX
  have hS0 : St T cn K N d wi_X3_clear_1 wr_X3_clear_1 I0 R0 I0 R0 := St.rf0 hW0
  refine tr_aload_n dX3_clear_0 rfl ?_
  refine q_iconst dX3_clear_1 (by decide) ?_
  intro v1 h2
  refine q_putI dX3_clear_2 fl3_18 (kR9 hS0.1 ta0) (Or.inl rfl) hS0 ta0 (iokF rfl) rfl (by decide +kernel) ?_
  intro I3 hS4 e5 f6
  refine tr_aload_n dX3_clear_5 rfl ?_
  refine q_iconst dX3_clear_6 (by decide) ?_
  intro v7 h8
  refine q_putI dX3_clear_7 fl3_22 (kR9 hS4.1 ta0) (Or.inl rfl) hS4 ta0 (by show (0 : Int) ≤ v7.toInt ∧ v7.toInt ≤ (65536 : Int); exact om_a4a2c3e9 h8) rfl (by decide +kernel) ?_
  intro I9 hS10 e11 f12
  have c13 : I9 a0 0 = v1 := (f12 _ _ (fun q => absurd q.2 (by decide))).trans e5
  refine tr_aload_n dX3_clear_10 rfl ?_
  refine q_iconst dX3_clear_11 (by decide) ?_
  intro v14 h15
  refine q_putI dX3_clear_12 fl3_25 (kR9 hS10.1 ta0) (Or.inl rfl) hS10 ta0 (by show (0 : Int) ≤ v14.toInt ∧ v14.toInt ≤ (6 : Int); exact om_a3bde316 h15) rfl (by decide +kernel) ?_
  intro I16 hS17 e18 f19
  have c20 : I16 a0 0 = v1 := (f19 _ _ (fun q => absurd q.2 (by decide))).trans c13
  have c21 : I16 a0 1 = v7 := (f19 _ _ (fun q => absurd q.2 (by decide))).trans e11
  exact tr_vret hZ dX3_clear_15 rfl (by decide) (by decide) ⟨rfl, rfl, rfl, rfl, rfl, rfl, hS17, trivial⟩
def wi_X8_build_1 : List Nat := [768, 769, 778, 2303, 2367, 2431, 2495, 2559, 2623, 2687, 2751, 2815]
def wr_X8_build_1 : List Nat := []
set_option maxHeartbeats 4000000 in
theorem k_X8_build_1 {l : Launch} {T : Nat → Nat} {cn : Nat} {K N : Nat → Nat} {I0 : cz_I} {R0 : cz_R} {L0 : cz_L} {d : Int} (hW0 : Wf T cn K N I0 R0 d) {a0 : Nat} (ta0 : T a0 = 12) {a1 : Nat} (ta1 : T a1 = 2) {a2 : Nat} (ta2 : T a2 = 9) {x3 : Int32} : ConE l mX8_build [.ref a0, .ref a1, .ref a2, .int x3] cn K N I0 R0 L0 (ca_v (fun cn' K' N' I' R' L' => cn = cn' ∧ K = K' ∧ N = N' ∧ R0 = R' ∧ L0 = L' ∧ St T cn K N d wi_X8_build_1 wr_X8_build_1 I0 R0 I' R0 ∧ True)) := by
  refine ConE.of (by decide +kernel) rfl (Nat.le_of_ble_eq_true rfl) rfl (fun X hX hZ hE => ?_)
  subst hX
  have hS0 : St T cn K N d wi_X8_build_1 wr_X8_build_1 I0 R0 I0 R0 := St.rf0 hW0
  refine tr_aload_n dX8_build_0 rfl ?_
  refine tr_aload_n dX8_build_1 rfl ?_
  obtain ⟨v1, c2⟩ : ∃ v, I0 a1 0 = v := ⟨_, rfl⟩
  have b3 := iv2_0 hW0 ta1 c2
  refine q_getI dX8_build_2 fl8_40 (kR2 hS0.1 ta1) c2 ?_
  refine q_putI dX8_build_5 fl8_46 (kR12 hS0.1 ta0) (Or.inl rfl) hS0 ta0 (by show (0 : Int) ≤ v1.toInt ∧ v1.toInt ≤ (240 : Int); exact om_d956ef70 b3) rfl (by decide +kernel) ?_
  intro I4 hS5 e6 f7
  refine tr_aload_n dX8_build_8 rfl ?_
  refine q_iconst dX8_build_9 (by decide) ?_
  intro v8 h9
  refine tr_aload_n dX8_build_10 rfl ?_
  obtain ⟨v10, c11⟩ : ∃ v, I0 a1 1 = v := ⟨_, rfl⟩
  have b12 := iv2_1 hW0 ta1 c11
  refine q_getI dX8_build_11 fl8_47 (kR2 hS5.1 ta1) ((hS5.cell ta1 (by decide +kernel)).trans c11) ?_
  refine q_ishlE dX8_build_14 (by exact om_ee8a1e2d h9) (by exact om_182edae7 b12.2 b12.1) ?_
  intro v13 h14
  refine q_iconst dX8_build_15 (by decide) ?_
  intro v15 h16
  refine q_isubE dX8_build_16 (by intro j1 j2 j3 j4; exact om_87919627 h14.2 h14.1 h16) ?_
  intro v17 h18
  refine q_putI dX8_build_17 fl8_50 (kR12 hS5.1 ta0) (Or.inl rfl) hS5 ta0 (iokF rfl) rfl (by decide +kernel) ?_
  intro I19 hS20 e21 f22
  have c23 : I19 a0 0 = v1 := (f22 _ _ (fun q => absurd q.2 (by decide))).trans e6
  refine tr_aload_n dX8_build_20 rfl ?_
  refine q_callVv hE (M' := mX8_wipe) (as := []) dX8_build_21 lk8_53 inX8_wipe seX8_wipe myX8_wipe (by decide) ⟨by decide, by decide⟩ rfl (kR12 hS20.1 ta0) (Nat.le_of_ble_eq_true rfl) rfl rfl (by decide) (by decide) (k_X8_wipe hS20.1 ta0) ?_
  rintro cn' K' N' I24 R25 L26 ⟨rfl, rfl, rfl, rfl, rfl, g27, -⟩
  have hS29 := hS20.tr g27 (by decide +kernel) (by decide +kernel)
  have c30 : I24 a0 0 = v1 := (g27.cell ta0 (by decide +kernel)).trans c23
  have c31 : I24 a0 1 = v17 := (g27.cell ta0 (by decide +kernel)).trans e21
  refine q_iconst dX8_build_24 (by decide) ?_
  intro v32 h33
  refine tr_istore dX8_build_25 (by decide) (by decide) ?_
  have lp43 : ∀ (fu : Nat) (ls : Nat → Option Value) (v34 : Int32) (I40 : cz_I), ls 0 = some (.ref a0) → ls 1 = some (.ref a1) → ls 2 = some (.ref a2) → ls 3 = some (.int x3) → ls 4 = some (.int v34) → St T cn K N d wi_X8_build_1 wr_X8_build_1 I0 R0 I40 R0 → 0 ≤ v34.toInt → (-v34.toInt + 2147483647).toNat < fu → Tr X mX8_build 27 ls [] cn K N I40 R0 L0 0 0 := by
    intro fu
    induction fu with
    | zero => intros; rename_i hz; exact absurd hz (Nat.not_lt_zero _)
    | succ fu ih43 =>
      intro ls v34 I40 hl35 hl36 hl37 hl38 hl39 hS41 g42 hm43
      refine tr_iload dX8_build_27 hl39 ?_
      refine tr_aload_n dX8_build_29 hl36 ?_
      obtain ⟨v45, c46⟩ : ∃ v, I0 a1 3 = v := ⟨_, rfl⟩
      have b47 := iv2_3 hW0 ta1 c46
      refine q_getI dX8_build_30 fl8_56 (kR2 hS41.1 ta1) ((hS41.cell ta1 (by decide +kernel)).trans c46) ?_
      refine q_icmp_ge 59 dX8_build_33 (by decide) (fun h48 => ?_) (fun h48 => ?_)
      · skip
        refine q_iconst dX8_build_59 (by decide) ?_
        intro v49 h50
        refine tr_istore dX8_build_60 (by decide) (by decide) ?_
        have lp60 : ∀ (fu : Nat) (ls : Nat → Option Value) (v51 : Int32) (I57 : cz_I), ls 0 = some (.ref a0) → ls 1 = some (.ref a1) → ls 2 = some (.ref a2) → ls 3 = some (.int x3) → ls 4 = some (.int v51) → St T cn K N d wi_X8_build_1 wr_X8_build_1 I0 R0 I57 R0 → 0 ≤ v51.toInt → (-v51.toInt + 2147483647).toNat < fu → Tr X mX8_build 62 ls [] cn K N I57 R0 L0 0 0 := by
          intro fu
          induction fu with
          | zero => intros; rename_i hz; exact absurd hz (Nat.not_lt_zero _)
          | succ fu ih60 =>
            intro ls v51 I57 hl52 hl53 hl54 hl55 hl56 hS58 g59 hm60
            refine tr_iload dX8_build_62 hl56 ?_
            refine tr_aload_n dX8_build_64 hl54 ?_
            obtain ⟨v62, c63⟩ : ∃ v, I0 a2 2 = v := ⟨_, rfl⟩
            have b64 := iv9_2 hW0 ta2 c63
            refine q_getI dX8_build_65 fl8_67 (kR9 hS58.1 ta2) ((hS58.cell ta2 (by decide +kernel)).trans c63) ?_
            refine q_icmp_ge 106 dX8_build_68 (by decide) (fun h65 => ?_) (fun h65 => ?_)
            · skip
              refine tr_aload_n dX8_build_106 hl52 ?_
              refine q_callVv hE (M' := mX8_findLight) (as := []) dX8_build_107 lk8_82 inX8_findLight seX8_findLight myX8_findLight (by decide) ⟨by decide, by decide⟩ rfl (kR12 hS58.1 ta0) (Nat.le_of_ble_eq_true rfl) rfl rfl (by decide) (by decide) (k_X8_findLight hS58.1 ta0) ?_
              rintro cn' K' N' I66 R67 L68 ⟨rfl, rfl, rfl, rfl, rfl, g69, -⟩
              have hS71 := hS58.tr g69 (by decide +kernel) (by decide +kernel)
              refine tr_aload_n dX8_build_110 hl52 ?_
              refine tr_aload_n dX8_build_111 hl53 ?_
              obtain ⟨a72, d73, ta72⟩ := rf2_8 hW0 ta1
              refine tr_getR dX8_build_112 fl8_85 (kR2 hS71.1 ta1) d73 ?_
              refine q_callVv hE (M' := mX8_findStirs) (as := [_]) dX8_build_115 lk8_89 inX8_findStirs seX8_findStirs myX8_findStirs (by decide) ⟨by decide, by decide⟩ rfl (kR12 hS71.1 ta0) (Nat.le_of_ble_eq_true rfl) rfl rfl (by decide) (by decide) (k_X8_findStirs hS71.1 ta0 ta72) ?_
              rintro cn' K' N' I74 R75 L76 ⟨rfl, rfl, rfl, rfl, rfl, g77, -⟩
              have hS79 := hS71.tr g77 (by decide +kernel) (by decide +kernel)
              exact tr_vret hZ dX8_build_118 rfl (by decide) (by decide) ⟨rfl, rfl, rfl, rfl, rfl, rfl, hS79, trivial⟩
            · skip
              refine tr_aload_n dX8_build_71 hl53 ?_
              refine q_getI dX8_build_72 fl8_56 (kR2 hS58.1 ta1) ((hS58.cell ta1 (by decide +kernel)).trans c46) ?_
              refine tr_iload dX8_build_75 hl56 ?_
              refine q_iaddE dX8_build_77 (by intro j1 j2 j3 j4; exact om_f7f8d2ed b47.2 b47.1 g59 b64.2 b64.1 h65 j4) ?_
              intro v80 h81
              refine tr_iload_n dX8_build_78 hl55 ?_
              refine q_icmp_eq 100 dX8_build_79 (by decide) (fun h82 => ?_) (fun h82 => ?_)
              · skip
                refine q_iincE dX8_build_100 hl56 (by decide) (by decide) (by intro j1 j2; exact om_1c62f9ff g59 b64.2 b64.1 h65 j2) ?_
                intro v83 h84
                refine tr_goto 62 dX8_build_103 (by decide) ?_
                exact ih60 _ v83 I57 hl52 hl53 hl54 hl55 rfl hS58 (by exact om_68881c41 g59 h84) (by exact om_78718bb6 g59 hm60 b64.2 b64.1 h65 h84)
              · skip
                refine tr_aload_n dX8_build_82 hl52 ?_
                refine tr_aload_n dX8_build_83 hl54 ?_
                obtain ⟨a85, d86, ta85⟩ := rf9_3 hW0 ta2
                refine tr_getR dX8_build_84 fl8_72 (kR9 hS58.1 ta2) d86 ?_
                refine tr_iload dX8_build_87 hl56 ?_
                refine q_iald dX8_build_89 (kR29 hS58.1 ta85) (ti_in (nR29 hS58.1 ta85) (by exact om_2cfcd5a5 g59) (by exact om_2b874313 b64.2 b64.1 h65)) ?_
                intro v87 c88
                have b89 := iv29 hS58.1 ta85 c88
                refine tr_aload_n dX8_build_90 hl54 ?_
                obtain ⟨a90, d91, ta90⟩ := rf9_4 hW0 ta2
                refine tr_getR dX8_build_91 fl8_75 (kR9 hS58.1 ta2) d91 ?_
                refine tr_iload dX8_build_94 hl56 ?_
                refine q_iald dX8_build_96 (kR30 hS58.1 ta90) (ti_in (nR30 hS58.1 ta90) (by exact om_2cfcd5a5 g59) (by exact om_2b874313 b64.2 b64.1 h65)) ?_
                intro v92 c93
                have b94 := iv30 hS58.1 ta90 c93
                refine q_callVv hE (M' := mX8_layCloud) (as := [_, _]) dX8_build_97 lk8_78 inX8_layCloud seX8_layCloud myX8_layCloud (by decide) ⟨by decide, by decide⟩ rfl (kR12 hS58.1 ta0) (Nat.le_of_ble_eq_true rfl) rfl rfl (by decide) (by decide) (k_X8_layCloud hS58.1 ta0 (by exact om_d956ef70 b89) (by exact om_d956ef70 b94)) ?_
                rintro cn' K' N' I95 R96 L97 ⟨rfl, rfl, rfl, rfl, rfl, g98, -⟩
                have hS100 := hS58.tr g98 (by decide +kernel) (by decide +kernel)
                refine q_iincE dX8_build_100 hl56 (by decide) (by decide) (by intro j1 j2; exact om_1c62f9ff g59 b64.2 b64.1 h65 j2) ?_
                intro v101 h102
                refine tr_goto 62 dX8_build_103 (by decide) ?_
                exact ih60 _ v101 I95 hl52 hl53 hl54 hl55 rfl hS100 (by exact om_68881c41 g59 h102) (by exact om_cf5afe83 g59 hm60 b64.2 b64.1 h65 h82 h102)
        exact lp60 _ _ v49 I40 hl35 hl36 hl37 hl38 rfl hS41 (by exact om_d99fa9e4 h50) (Nat.lt_succ_self _)
      · skip
        refine tr_iload dX8_build_36 hl39 ?_
        refine tr_iload_n dX8_build_38 hl38 ?_
        refine q_icmp_eq 53 dX8_build_39 (by decide) (fun h103 => ?_) (fun h103 => ?_)
        · skip
          refine q_iincE dX8_build_53 hl39 (by decide) (by decide) (by intro j1 j2; exact om_e4f88b50 g42 b47.2 b47.1 h48 h103 j2) ?_
          intro v104 h105
          refine tr_goto 27 dX8_build_56 (by decide) ?_
          exact ih43 _ v104 I40 hl35 hl36 hl37 hl38 rfl hS41 (by exact om_075c04dc g42 h103 h105) (by exact om_04adf890 g42 hm43 b47.2 b47.1 h48 h103 h105)
        · skip
          refine tr_aload_n dX8_build_42 hl35 ?_
          refine tr_aload_n dX8_build_43 hl36 ?_
          obtain ⟨a106, d107, ta106⟩ := rf2_4 hW0 ta1
          refine tr_getR dX8_build_44 fl8_59 (kR2 hS41.1 ta1) d107 ?_
          refine tr_iload dX8_build_47 hl39 ?_
          obtain ⟨a108, d109, ta108⟩ := rf19 hS41.1 ta106 (j := v34.toNatClampNeg) (ti_lt (by exact om_2cfcd5a5 g42) (by exact om_d7ac722a b47.2 b47.1 h48))
          refine tr_aald dX8_build_49 (kR19 hS41.1 ta106) (by decide) (by decide) (ti_in (nR19 hS41.1 ta106) (by exact om_2cfcd5a5 g42) (by exact om_d7ac722a b47.2 b47.1 h48)) d109 ?_
          refine q_callVv hE (M' := mX8_layEvent) (as := [_]) dX8_build_50 lk8_63 inX8_layEvent seX8_layEvent myX8_layEvent (by decide) ⟨by decide, by decide⟩ rfl (kR12 hS41.1 ta0) (Nat.le_of_ble_eq_true rfl) rfl rfl (by decide) (by decide) (k_X8_layEvent hS41.1 ta0 ta108) ?_
          rintro cn' K' N' I110 R111 L112 ⟨rfl, rfl, rfl, rfl, rfl, g113, -⟩
          have hS115 := hS41.tr g113 (by decide +kernel) (by decide +kernel)
          refine q_iincE dX8_build_53 hl39 (by decide) (by decide) (by have z0 := x3.toInt_lt; have y0 := x3.le_toInt; intros; omega) ?_
          intro v116 h117
          refine tr_goto 27 dX8_build_56 (by decide) ?_
          exact ih43 _ v116 I110 hl35 hl36 hl37 hl38 rfl hS115 (by exact om_68881c41 g42 h117) (by exact om_062a9da4 g42 hm43 b47.2 b47.1 h48 h103 h117)
  exact lp43 _ _ v32 I24 rfl rfl rfl rfl rfl hS29 (by exact om_d99fa9e4 h33) (Nat.lt_succ_self _)
def wi_X3_drawBelow : List Nat := [577]
def wr_X3_drawBelow : List Nat := []
set_option maxHeartbeats 4000000 in
theorem k_X3_drawBelow {l : Launch} {T : Nat → Nat} {cn : Nat} {K N : Nat → Nat} {I0 : cz_I} {R0 : cz_R} {L0 : cz_L} {d : Int} (hW0 : Wf T cn K N I0 R0 d) {a0 : Nat} (ta0 : T a0 = 9) {x1 : Int32} (hx1 : 0 ≤ x1.toInt ∧ x1.toInt ≤ 240) : ConE l mX3_drawBelow [.ref a0, .int x1] cn K N I0 R0 L0 (ca_i (fun v cn' K' N' I' R' L' => cn = cn' ∧ K = K' ∧ N = N' ∧ R0 = R' ∧ L0 = L' ∧ St T cn K N d wi_X3_drawBelow wr_X3_drawBelow I0 R0 I' R0 ∧ (0 ≤ v.toInt ∧ v.toInt ≤ 239) ∧ True)) := by
  refine ConE.of (by decide +kernel) rfl (Nat.le_of_ble_eq_true rfl) rfl (fun X hX hZ hE => ?_)
  subst hX
  have hS0 : St T cn K N d wi_X3_drawBelow wr_X3_drawBelow I0 R0 I0 R0 := St.rf0 hW0
  refine tr_aload_n dX3_drawBelow_0 rfl ?_
  refine q_bipush dX3_drawBelow_1 (by decide +kernel) ?_
  intro v1 h2
  refine tr_aload_n dX3_drawBelow_3 rfl ?_
  obtain ⟨v3, c4⟩ : ∃ v, I0 a0 1 = v := ⟨_, rfl⟩
  have b5 := iv9_1 hS0.1 ta0 c4
  refine q_getI dX3_drawBelow_4 fl3_22 (kR9 hS0.1 ta0) c4 ?_
  refine q_imulE (c := 75) dX3_drawBelow_7 (by exact om_563a2c66 h2) (by exact om_d18d9d8c b5.2 b5.1) ?_
  intro v6 h7
  refine q_bipush dX3_drawBelow_8 (by decide +kernel) ?_
  intro v8 h9
  refine q_iaddE dX3_drawBelow_10 (by intro j1 j2 j3 j4; exact om_e2c0ec39 b5.2 b5.1 h7 h9 j1 j2) ?_
  intro v10 h11
  refine q_ldc 65537 dX3_drawBelow_11 ld3_42 (by decide +kernel) ?_
  intro v12 h13
  refine q_iremE dX3_drawBelow_13 (by exact om_91e55e16 b5.2 b5.1 h7 h9 h11 h13) ?_
  intro v14 h15
  refine q_putI dX3_drawBelow_14 fl3_22 (kR9 hS0.1 ta0) (Or.inl rfl) hS0 ta0 (by show (0 : Int) ≤ v14.toInt ∧ v14.toInt ≤ (65536 : Int); exact om_20a8c661 h13 h15.2 h15.1) rfl (by decide +kernel) ?_
  intro I16 hS17 e18 f19
  refine tr_iload_n dX3_drawBelow_17 rfl ?_
  refine q_iconst dX3_drawBelow_18 (by decide) ?_
  intro v20 h21
  refine q_icmp_ge 26 dX3_drawBelow_19 (by decide) (fun h22 => ?_) (fun h22 => ?_)
  · skip
    refine tr_aload_n dX3_drawBelow_26 rfl ?_
    refine q_getI dX3_drawBelow_27 fl3_22 (kR9 hS17.1 ta0) e18 ?_
    refine tr_iload_n dX3_drawBelow_30 rfl ?_
    refine q_iremE dX3_drawBelow_31 (by exact om_0ee0b9d2 hx1.2 hx1.1 h13 h15.2 h15.1 h21 h22) ?_
    intro v23 h24
    exact tr_iret hZ dX3_drawBelow_32 rfl (by decide) (by decide) ⟨v23, rfl, rfl, rfl, rfl, rfl, rfl, hS17, (by exact om_a67abe45 hx1.2 hx1.1 h24.1 h24.2), trivial⟩
  · skip
    refine q_iconst dX3_drawBelow_22 (by decide) ?_
    intro v25 h26
    refine tr_goto 32 dX3_drawBelow_23 (by decide) ?_
    exact tr_iret hZ dX3_drawBelow_32 rfl (by decide) (by decide) ⟨v25, rfl, rfl, rfl, rfl, rfl, rfl, hS17, (by exact om_152feea5 h26), trivial⟩
def wi_X3_add : List Nat := [578, 1919, 1983]
def wr_X3_add : List Nat := []
set_option maxHeartbeats 4000000 in
theorem k_X3_add {l : Launch} {T : Nat → Nat} {cn : Nat} {K N : Nat → Nat} {I0 : cz_I} {R0 : cz_R} {L0 : cz_L} {d : Int} (hW0 : Wf T cn K N I0 R0 d) {a0 : Nat} (ta0 : T a0 = 9) {x1 : Int32} (hx1 : 0 ≤ x1.toInt ∧ x1.toInt ≤ 240) {x2 : Int32} (hx2 : 0 ≤ x2.toInt ∧ x2.toInt ≤ 240) : ConE l mX3_add [.ref a0, .int x1, .int x2] cn K N I0 R0 L0 (ca_v (fun cn' K' N' I' R' L' => cn = cn' ∧ K = K' ∧ N = N' ∧ R0 = R' ∧ L0 = L' ∧ St T cn K N d wi_X3_add wr_X3_add I0 R0 I' R0 ∧ True)) := by
  refine ConE.of (by decide +kernel) rfl (Nat.le_of_ble_eq_true rfl) rfl (fun X hX hZ hE => ?_)
  subst hX
  have hS0 : St T cn K N d wi_X3_add wr_X3_add I0 R0 I0 R0 := St.rf0 hW0
  refine tr_aload_n dX3_add_0 rfl ?_
  obtain ⟨v1, c2⟩ : ∃ v, I0 a0 2 = v := ⟨_, rfl⟩
  have b3 := iv9_2 hS0.1 ta0 c2
  refine q_getI dX3_add_1 fl3_25 (kR9 hS0.1 ta0) c2 ?_
  refine q_bipush dX3_add_4 (by decide +kernel) ?_
  intro v4 h5
  refine q_icmp_ge 39 dX3_add_6 (by decide) (fun h6 => ?_) (fun h6 => ?_)
  · skip
    exact tr_vret hZ dX3_add_39 rfl (by decide) (by decide) ⟨rfl, rfl, rfl, rfl, rfl, rfl, hS0, trivial⟩
  · skip
    refine tr_aload_n dX3_add_9 rfl ?_
    obtain ⟨a7, d8, ta7⟩ := rf9_3 hW0 ta0
    refine tr_getR dX3_add_10 fl3_9 (kR9 hS0.1 ta0) d8 ?_
    refine tr_aload_n dX3_add_13 rfl ?_
    refine q_getI dX3_add_14 fl3_25 (kR9 hS0.1 ta0) c2 ?_
    refine tr_iload_n dX3_add_17 rfl ?_
    refine q_iast dX3_add_18 (kR29 hS0.1 ta7) (ti_in (nR29 hS0.1 ta7) (by exact om_c9b1e0f6 b3.2 b3.1) (by exact om_a89fdd2c b3.2 b3.1 h5 h6)) hS0 ta7 (by show (0 : Int) ≤ x1.toInt ∧ x1.toInt ≤ (240 : Int); exact om_d956ef70 hx1) rfl (by rfl) ?_
    intro I9 hS10 e12 f11
    have c13 : I9 a0 2 = v1 := (f11 _ _ (fun q => by have z := ta0; rw [q.1, ta7] at z; exact absurd z (by decide))).trans c2
    refine tr_aload_n dX3_add_19 rfl ?_
    obtain ⟨a14, d15, ta14⟩ := rf9_4 hW0 ta0
    refine tr_getR dX3_add_20 fl3_15 (kR9 hS10.1 ta0) d15 ?_
    refine tr_aload_n dX3_add_23 rfl ?_
    refine q_getI dX3_add_24 fl3_25 (kR9 hS10.1 ta0) c13 ?_
    refine tr_iload_n dX3_add_27 rfl ?_
    refine q_iast dX3_add_28 (kR30 hS10.1 ta14) (ti_in (nR30 hS10.1 ta14) (by exact om_c9b1e0f6 b3.2 b3.1) (by exact om_a89fdd2c b3.2 b3.1 h5 h6)) hS10 ta14 (by show (0 : Int) ≤ x2.toInt ∧ x2.toInt ≤ (240 : Int); exact om_d956ef70 hx2) rfl (by rfl) ?_
    intro I16 hS17 e19 f18
    have c20 : I16 a0 2 = v1 := (f18 _ _ (fun q => by have z := ta0; rw [q.1, ta14] at z; exact absurd z (by decide))).trans c13
    refine tr_aload_n dX3_add_29 rfl ?_
    refine tr_dup dX3_add_30 rfl ?_
    refine q_getI dX3_add_31 fl3_25 (kR9 hS17.1 ta0) c20 ?_
    refine q_iconst dX3_add_34 (by decide) ?_
    intro v21 h22
    refine q_iaddE dX3_add_35 (by intro j1 j2 j3 j4; exact om_0fb085fe b3.2 b3.1 h5 h6 h22) ?_
    intro v23 h24
    refine q_putI dX3_add_36 fl3_25 (kR9 hS17.1 ta0) (Or.inl rfl) hS17 ta0 (by show (0 : Int) ≤ v23.toInt ∧ v23.toInt ≤ (6 : Int); exact om_2c6378a2 b3.2 b3.1 h5 h6 h22 h24) rfl (by decide +kernel) ?_
    intro I25 hS26 e27 f28
    exact tr_vret hZ dX3_add_39 rfl (by decide) (by decide) ⟨rfl, rfl, rfl, rfl, rfl, rfl, hS26, trivial⟩
def wi_X3_addDrawn : List Nat := [577, 578, 1919, 1983]
def wr_X3_addDrawn : List Nat := []
set_option maxHeartbeats 4000000 in
theorem k_X3_addDrawn {l : Launch} {T : Nat → Nat} {cn : Nat} {K N : Nat → Nat} {I0 : cz_I} {R0 : cz_R} {L0 : cz_L} {d : Int} (hW0 : Wf T cn K N I0 R0 d) {a0 : Nat} (ta0 : T a0 = 9) {x1 : Int32} (hx1 : 0 ≤ x1.toInt ∧ x1.toInt ≤ 240) : ConE l mX3_addDrawn [.ref a0, .int x1] cn K N I0 R0 L0 (ca_i (fun v cn' K' N' I' R' L' => cn = cn' ∧ K = K' ∧ N = N' ∧ R0 = R' ∧ L0 = L' ∧ St T cn K N d wi_X3_addDrawn wr_X3_addDrawn I0 R0 I' R0 ∧ (0 ≤ v.toInt ∧ v.toInt ≤ 239) ∧ True)) := by
  refine ConE.of (by decide +kernel) rfl (Nat.le_of_ble_eq_true rfl) rfl (fun X hX hZ hE => ?_)
  subst hX
  have hS0 : St T cn K N d wi_X3_addDrawn wr_X3_addDrawn I0 R0 I0 R0 := St.rf0 hW0
  refine tr_aload_n dX3_addDrawn_0 rfl ?_
  refine tr_iload_n dX3_addDrawn_1 rfl ?_
  refine q_callVi hE (M' := mX3_drawBelow) (as := [_]) dX3_addDrawn_2 lk3_28 inX3_drawBelow seX3_drawBelow myX3_drawBelow (by decide) ⟨by decide, by decide⟩ rfl (kR9 hS0.1 ta0) (Nat.le_of_ble_eq_true rfl) rfl rfl (by decide) (by decide) (k_X3_drawBelow hS0.1 ta0 (by exact om_d956ef70 hx1)) ?_
  rintro v5 cn' K' N' I1 R2 L3 ⟨rfl, rfl, rfl, rfl, rfl, g4, h6, -⟩
  have hS7 := hS0.tr g4 (by decide +kernel) (by decide +kernel)
  refine tr_istore_n dX3_addDrawn_5 (by decide) (by decide) ?_
  refine q_iconst dX3_addDrawn_6 (by decide) ?_
  intro v8 h9
  refine tr_aload_n dX3_addDrawn_7 rfl ?_
  refine q_bipush dX3_addDrawn_8 (by decide +kernel) ?_
  intro v10 h11
  refine q_callVi hE (M' := mX3_drawBelow) (as := [_]) dX3_addDrawn_10 lk3_28 inX3_drawBelow seX3_drawBelow myX3_drawBelow (by decide) ⟨by decide, by decide⟩ rfl (kR9 hS7.1 ta0) (Nat.le_of_ble_eq_true rfl) rfl rfl (by decide) (by decide) (k_X3_drawBelow hS7.1 ta0 (by exact om_6fa0956e h11)) ?_
  rintro v16 cn' K' N' I12 R13 L14 ⟨rfl, rfl, rfl, rfl, rfl, g15, h17, -⟩
  have hS18 := hS7.tr g15 (by decide +kernel) (by decide +kernel)
  refine q_iaddE dX3_addDrawn_13 (by intro j1 j2 j3 j4; exact om_57cfbf44 h9 h17.2 h17.1) ?_
  intro v19 h20
  refine tr_istore_n dX3_addDrawn_14 (by decide) (by decide) ?_
  refine tr_aload_n dX3_addDrawn_15 rfl ?_
  refine tr_iload_n dX3_addDrawn_16 rfl ?_
  refine tr_iload_n dX3_addDrawn_17 rfl ?_
  refine tr_iload_n dX3_addDrawn_18 rfl ?_
  refine q_iaddE dX3_addDrawn_19 (by intro j1 j2 j3 j4; exact om_41648b6b h6.2 h6.1 h9 h17.2 h17.1 h20) ?_
  intro v21 h22
  refine tr_iload_n dX3_addDrawn_20 rfl ?_
  refine q_mmin dX3_addDrawn_21 lk3_32 (by decide) (Nat.le_of_ble_eq_true rfl) (by decide) (by decide) ?_
  intro v23 h24
  refine q_callVv hE (M' := mX3_add) (as := [_, _]) dX3_addDrawn_24 lk3_38 inX3_add seX3_add myX3_add (by decide) ⟨by decide, by decide⟩ rfl (kR9 hS18.1 ta0) (Nat.le_of_ble_eq_true rfl) rfl rfl (by decide) (by decide) (k_X3_add hS18.1 ta0 (by exact om_e3386c53 h6.2 h6.1 h22) (by exact om_7442ebf1 hx1.2 hx1.1 h6.2 h6.1 h9 h17.2 h17.1 h20 h22 h24.1 h24.2.2)) ?_
  rintro cn' K' N' I25 R26 L27 ⟨rfl, rfl, rfl, rfl, rfl, g28, -⟩
  have hS30 := hS18.tr g28 (by decide +kernel) (by decide +kernel)
  refine tr_iload_n dX3_addDrawn_27 rfl ?_
  exact tr_iret hZ dX3_addDrawn_28 rfl (by decide) (by decide) ⟨v5, rfl, rfl, rfl, rfl, rfl, rfl, hS30, (by exact om_87537644 h6), trivial⟩
def wi_X10_nights : List Nat := [81, 576, 577, 578, 768, 769, 778, 834, 1919, 1983, 2303, 2367, 2431, 2495, 2559, 2623, 2687, 2751, 2815, 2879, 2943, 3007, 3071, 3135, 3199, 3263, 3327, 3391]
def wr_X10_nights : List Nat := [832, 833]
set_option maxHeartbeats 4000000 in
theorem k_X10_nights {l : Launch} {T : Nat → Nat} {cn : Nat} {K N : Nat → Nat} {I0 : cz_I} {R0 : cz_R} {L0 : cz_L} {d : Int} (hW0 : Wf T cn K N I0 R0 d) {a0 : Nat} (ta0 : T a0 = 1) {x1 : Int32} {x2 : Int32} {x3 : Int32} : ConE l mX10_nights [.ref a0, .int x1, .int x2, .int x3] cn K N I0 R0 L0 (ca_i (fun v cn' K' N' I' R' L' => cn = cn' ∧ K = K' ∧ N = N' ∧ L0 = L' ∧ St T cn K N d wi_X10_nights wr_X10_nights I0 R0 I' R' ∧ True)) := by
  refine ConE.of (by decide +kernel) rfl (Nat.le_of_ble_eq_true rfl) rfl (fun X hX hZ hE => ?_)
  subst hX
  have hS0 : St T cn K N d wi_X10_nights wr_X10_nights I0 R0 I0 R0 := St.rf0 hW0
  refine tr_aload_n dX10_nights_0 rfl ?_
  obtain ⟨v1, c2⟩ : ∃ v, I0 a0 5 = v := ⟨_, rfl⟩
  have b3 := iv1_5 hW0 ta0 c2
  refine q_getZ dX10_nights_1 fl10_95 (kR1 hS0.1 ta0) c2 ?_
  refine q_if_ne 13 dX10_nights_4 (by decide) (fun h4 => ?_) (fun h4 => ?_)
  · skip
    refine tr_iload_n dX10_nights_13 rfl ?_
    refine q_callSi hE (M' := mX10_isSeed) (as := [_]) dX10_nights_14 lk10_266 inX10_isSeed myX10_isSeed ⟨by decide, by decide⟩ rfl (Nat.le_of_ble_eq_true rfl) rfl rfl (by decide) (by decide) (k_X10_isSeed hS0.1 ) ?_
    rintro v9 cn' K' N' I5 R6 L7 ⟨rfl, rfl, rfl, rfl, rfl, rfl, h10, p11, -⟩
    refine q_if_eq 41 dX10_nights_17 (by decide) (fun h12 => ?_) (fun h12 => ?_)
    · skip
      refine tr_aload_n dX10_nights_41 rfl ?_
      refine q_iconst dX10_nights_42 (by decide) ?_
      intro v13 h14
      refine q_callVi hE (M' := mX10_refusedTotal) (as := [_]) dX10_nights_43 lk10_178 inX10_refusedTotal seX10_refusedTotal myX10_refusedTotal (by decide) ⟨by decide, by decide⟩ rfl (kR1 hS0.1 ta0) (Nat.le_of_ble_eq_true rfl) rfl rfl (by decide) (by decide) (k_X10_refusedTotal hS0.1 ta0) ?_
      rintro v19 cn' K' N' I15 R16 L17 ⟨rfl, rfl, rfl, rfl, rfl, g18, -⟩
      have hS20 := hS0.tr g18 (by decide +kernel) (by decide +kernel)
      exact tr_iret hZ dX10_nights_46 rfl (by decide) (by decide) ⟨v19, rfl, rfl, rfl, rfl, rfl, hS20, trivial⟩
    · skip
      refine tr_iload_n dX10_nights_20 rfl ?_
      refine q_iconst dX10_nights_21 (by decide) ?_
      intro v21 h22
      refine q_icmp_lt 41 dX10_nights_22 (by decide) (fun h23 => ?_) (fun h23 => ?_)
      · skip
        refine tr_aload_n dX10_nights_41 rfl ?_
        refine q_iconst dX10_nights_42 (by decide) ?_
        intro v24 h25
        refine q_callVi hE (M' := mX10_refusedTotal) (as := [_]) dX10_nights_43 lk10_178 inX10_refusedTotal seX10_refusedTotal myX10_refusedTotal (by decide) ⟨by decide, by decide⟩ rfl (kR1 hS0.1 ta0) (Nat.le_of_ble_eq_true rfl) rfl rfl (by decide) (by decide) (k_X10_refusedTotal hS0.1 ta0) ?_
        rintro v30 cn' K' N' I26 R27 L28 ⟨rfl, rfl, rfl, rfl, rfl, g29, -⟩
        have hS31 := hS0.tr g29 (by decide +kernel) (by decide +kernel)
        exact tr_iret hZ dX10_nights_46 rfl (by decide) (by decide) ⟨v30, rfl, rfl, rfl, rfl, rfl, hS31, trivial⟩
      · skip
        refine tr_iload_n dX10_nights_25 rfl ?_
        refine q_bipush dX10_nights_26 (by decide +kernel) ?_
        intro v32 h33
        refine q_icmp_gt 41 dX10_nights_28 (by decide) (fun h34 => ?_) (fun h34 => ?_)
        · skip
          refine tr_aload_n dX10_nights_41 rfl ?_
          refine q_iconst dX10_nights_42 (by decide) ?_
          intro v35 h36
          refine q_callVi hE (M' := mX10_refusedTotal) (as := [_]) dX10_nights_43 lk10_178 inX10_refusedTotal seX10_refusedTotal myX10_refusedTotal (by decide) ⟨by decide, by decide⟩ rfl (kR1 hS0.1 ta0) (Nat.le_of_ble_eq_true rfl) rfl rfl (by decide) (by decide) (k_X10_refusedTotal hS0.1 ta0) ?_
          rintro v41 cn' K' N' I37 R38 L39 ⟨rfl, rfl, rfl, rfl, rfl, g40, -⟩
          have hS42 := hS0.tr g40 (by decide +kernel) (by decide +kernel)
          exact tr_iret hZ dX10_nights_46 rfl (by decide) (by decide) ⟨v41, rfl, rfl, rfl, rfl, rfl, hS42, trivial⟩
        · skip
          refine tr_iload_n dX10_nights_31 rfl ?_
          refine q_if_lt 41 dX10_nights_32 (by decide) (fun h43 => ?_) (fun h43 => ?_)
          · skip
            refine tr_aload_n dX10_nights_41 rfl ?_
            refine q_iconst dX10_nights_42 (by decide) ?_
            intro v44 h45
            refine q_callVi hE (M' := mX10_refusedTotal) (as := [_]) dX10_nights_43 lk10_178 inX10_refusedTotal seX10_refusedTotal myX10_refusedTotal (by decide) ⟨by decide, by decide⟩ rfl (kR1 hS0.1 ta0) (Nat.le_of_ble_eq_true rfl) rfl rfl (by decide) (by decide) (k_X10_refusedTotal hS0.1 ta0) ?_
            rintro v50 cn' K' N' I46 R47 L48 ⟨rfl, rfl, rfl, rfl, rfl, g49, -⟩
            have hS51 := hS0.tr g49 (by decide +kernel) (by decide +kernel)
            exact tr_iret hZ dX10_nights_46 rfl (by decide) (by decide) ⟨v50, rfl, rfl, rfl, rfl, rfl, hS51, trivial⟩
          · skip
            refine tr_iload_n dX10_nights_35 rfl ?_
            refine q_bipush dX10_nights_36 (by decide +kernel) ?_
            intro v52 h53
            refine q_icmp_le 47 dX10_nights_38 (by decide) (fun h54 => ?_) (fun h54 => ?_)
            · skip
              refine tr_aload_n dX10_nights_47 rfl ?_
              obtain ⟨a55, d56, ta55⟩ := rf1_12 hW0 ta0
              refine tr_getR dX10_nights_48 fl10_62 (kR1 hS0.1 ta0) d56 ?_
              refine q_callVv hE (M' := mX3_clear) (as := []) dX10_nights_51 lk10_99 inX3_clear seX3_clear myX3_clear (by decide) ⟨by decide, by decide⟩ rfl (kR9 hS0.1 ta55) (Nat.le_of_ble_eq_true rfl) rfl rfl (by decide) (by decide) (k_X3_clear_1 hS0.1 ta55) ?_
              rintro cn' K' N' I57 R58 L59 ⟨rfl, rfl, rfl, rfl, rfl, g60, -⟩
              have hS62 := hS0.tr g60 (by decide +kernel) (by decide +kernel)
              refine tr_aload_n dX10_nights_54 rfl ?_
              refine tr_getR dX10_nights_55 fl10_62 (kR1 hS62.1 ta0) d56 ?_
              refine tr_iload_n dX10_nights_58 rfl ?_
              refine q_putI dX10_nights_59 fl10_269 (kR9 hS62.1 ta55) (Or.inl rfl) hS62 ta55 (by show (0 : Int) ≤ x1.toInt ∧ x1.toInt ≤ (65536 : Int); exact om_a66945df h10.2 h10.1 p11 h12) rfl (by decide +kernel) ?_
              intro I63 hS64 e65 f66
              refine q_iconst dX10_nights_62 (by decide) ?_
              intro v67 h68
              refine tr_istore dX10_nights_63 (by decide) (by decide) ?_
              refine q_iconst dX10_nights_65 (by decide) ?_
              intro v69 h70
              refine tr_istore dX10_nights_66 (by decide) (by decide) ?_
              have lp83 : ∀ (fu : Nat) (ls : Nat → Option Value) (v71 : Int32) (v72 : Int32) (I79 : cz_I) (R80 : cz_R), ls 0 = some (.ref a0) → ls 1 = some (.int x1) → ls 2 = some (.int x2) → ls 3 = some (.int x3) → ls 4 = some (.int v71) → ls 5 = some (.int v72) → St T cn K N d wi_X10_nights wr_X10_nights I0 R0 I79 R80 → 0 ≤ v72.toInt → (-v72.toInt + 2147483647).toNat < fu → Tr X mX10_nights 68 ls [] cn K N I79 R80 L0 0 0 := by
                intro fu
                induction fu with
                | zero => intros; rename_i hz; exact absurd hz (Nat.not_lt_zero _)
                | succ fu ih83 =>
                  intro ls v71 v72 I79 R80 hl73 hl74 hl75 hl76 hl77 hl78 hS81 g82 hm83
                  refine tr_iload dX10_nights_68 hl78 ?_
                  refine tr_iload_n dX10_nights_70 hl75 ?_
                  refine q_icmp_ge 172 dX10_nights_71 (by decide) (fun h85 => ?_) (fun h85 => ?_)
                  · skip
                    refine tr_aload_n dX10_nights_172 hl73 ?_
                    refine tr_iload dX10_nights_173 hl77 ?_
                    refine q_callVi hE (M' := mX10_answered) (as := [_]) dX10_nights_175 lk10_109 inX10_answered seX10_answered myX10_answered (by decide) ⟨by decide, by decide⟩ rfl (kR1 hS81.1 ta0) (Nat.le_of_ble_eq_true rfl) rfl rfl (by decide) (by decide) (k_X10_answered hS81.1 ta0) ?_
                    rintro v90 cn' K' N' I86 R87 L88 ⟨rfl, rfl, rfl, rfl, rfl, g89, -⟩
                    have hS91 := hS81.tr g89 (by decide +kernel) (by decide +kernel)
                    exact tr_iret hZ dX10_nights_178 rfl (by decide) (by decide) ⟨v90, rfl, rfl, rfl, rfl, rfl, hS91, trivial⟩
                  · skip
                    refine tr_aload_n dX10_nights_74 hl73 ?_
                    refine tr_getR dX10_nights_75 fl10_62 (kR1 hS81.1 ta0) ((hS81.rcell ta0 (by decide +kernel)).trans d56) ?_
                    refine q_iconst dX10_nights_78 (by decide) ?_
                    intro v92 h93
                    refine q_putI dX10_nights_79 fl10_272 (kR9 hS81.1 ta55) (Or.inl rfl) hS81 ta55 (by show (0 : Int) ≤ v92.toInt ∧ v92.toInt ≤ (6 : Int); exact om_a3bde316 h93) rfl (by decide +kernel) ?_
                    intro I94 hS95 e96 f97
                    refine q_iconst dX10_nights_82 (by decide) ?_
                    intro v98 h99
                    refine tr_istore dX10_nights_83 (by decide) (by decide) ?_
                    have lp112 : ∀ (fu : Nat) (ls : Nat → Option Value) (v100 : Int32) (I108 : cz_I) (R109 : cz_R), ls 0 = some (.ref a0) → ls 1 = some (.int x1) → ls 2 = some (.int x2) → ls 3 = some (.int x3) → ls 4 = some (.int v71) → ls 5 = some (.int v72) → ls 6 = some (.int v100) → St T cn K N d wi_X10_nights wr_X10_nights I0 R0 I108 R109 → 0 ≤ v100.toInt → (-v100.toInt + 2147483647).toNat < fu → Tr X mX10_nights 85 ls [] cn K N I108 R109 L0 0 0 := by
                      intro fu
                      induction fu with
                      | zero => intros; rename_i hz; exact absurd hz (Nat.not_lt_zero _)
                      | succ fu ih112 =>
                        intro ls v100 I108 R109 hl101 hl102 hl103 hl104 hl105 hl106 hl107 hS110 g111 hm112
                        refine tr_iload dX10_nights_85 hl107 ?_
                        refine tr_iload_n dX10_nights_87 hl104 ?_
                        refine q_icmp_ge 112 dX10_nights_88 (by decide) (fun h114 => ?_) (fun h114 => ?_)
                        · skip
                          refine tr_aload_n dX10_nights_112 hl101 ?_
                          obtain ⟨a115, d116, ta115⟩ := rf1_13 hW0 ta0
                          refine tr_getR dX10_nights_113 fl10_65 (kR1 hS110.1 ta0) ((hS110.rcell ta0 (by decide +kernel)).trans d116) ?_
                          refine tr_aload_n dX10_nights_116 hl101 ?_
                          obtain ⟨a117, d118, ta117⟩ := rf1_2 hW0 ta0
                          refine tr_getR dX10_nights_117 fl10_16 (kR1 hS110.1 ta0) ((hS110.rcell ta0 (by decide +kernel)).trans d118) ?_
                          refine tr_aload_n dX10_nights_120 hl101 ?_
                          refine tr_getR dX10_nights_121 fl10_62 (kR1 hS110.1 ta0) ((hS110.rcell ta0 (by decide +kernel)).trans d56) ?_
                          refine q_iconst dX10_nights_124 (by decide) ?_
                          intro v119 h120
                          refine q_callVv hE (M' := mX8_build) (as := [_, _, _]) dX10_nights_125 lk10_237 inX8_build seX8_build myX8_build (by decide) ⟨by decide, by decide⟩ rfl (kR12 hS110.1 ta115) (Nat.le_of_ble_eq_true rfl) rfl rfl (by decide) (by decide) (k_X8_build_1 hS110.1 ta115 ta117 ta55) ?_
                          rintro cn' K' N' I121 R122 L123 ⟨rfl, rfl, rfl, rfl, rfl, g124, -⟩
                          have hS126 := hS110.tr g124 (by decide +kernel) (by decide +kernel)
                          refine tr_aload_n dX10_nights_128 hl101 ?_
                          obtain ⟨a127, d128, ta127⟩ := rf1_14 hW0 ta0
                          refine tr_getR dX10_nights_129 fl10_68 (kR1 hS126.1 ta0) ((hS126.rcell ta0 (by decide +kernel)).trans d128) ?_
                          refine tr_aload_n dX10_nights_132 hl101 ?_
                          refine tr_getR dX10_nights_133 fl10_16 (kR1 hS126.1 ta0) ((hS126.rcell ta0 (by decide +kernel)).trans d118) ?_
                          refine tr_aload_n dX10_nights_136 hl101 ?_
                          refine tr_getR dX10_nights_137 fl10_65 (kR1 hS126.1 ta0) ((hS126.rcell ta0 (by decide +kernel)).trans d116) ?_
                          refine tr_aload_n dX10_nights_140 hl101 ?_
                          obtain ⟨a129, d130, ta129⟩ := rf1_6 hW0 ta0
                          refine tr_getR dX10_nights_141 fl10_35 (kR1 hS126.1 ta0) ((hS126.rcell ta0 (by decide +kernel)).trans d130) ?_
                          obtain ⟨v131, c132⟩ : ∃ v, I0 a129 0 = v := ⟨_, rfl⟩
                          refine q_getI dX10_nights_144 fl10_181 (kR8 hS126.1 ta129) ((hS126.cell ta129 (by decide +kernel)).trans c132) ?_
                          refine tr_aload_n dX10_nights_147 hl101 ?_
                          refine q_callVi hE (M' := mX10_allTurners) (as := []) dX10_nights_148 lk10_184 inX10_allTurners seX10_allTurners myX10_allTurners (by decide) ⟨by decide, by decide⟩ rfl (kR1 hS126.1 ta0) (Nat.le_of_ble_eq_true rfl) rfl rfl (by decide) (by decide) (k_X10_allTurners hS126.1 ta0) ?_
                          rintro v137 cn' K' N' I133 R134 L135 ⟨rfl, rfl, rfl, rfl, rfl, rfl, h138, -⟩
                          refine q_callVv hE (M' := mX5_play) (as := [_, _, _, _]) dX10_nights_151 lk10_188 inX5_play seX5_play myX5_play (by decide) ⟨by decide, by decide⟩ rfl (kR13 hS126.1 ta127) (Nat.le_of_ble_eq_true rfl) rfl rfl (by decide) (by decide) (k_X5_play hS126.1 ta127 ta117 ta115) ?_
                          rintro cn' K' N' I139 R140 L141 ⟨rfl, rfl, rfl, rfl, g142, -⟩
                          have hS144 := hS126.tr g142 (by decide +kernel) (by decide +kernel)
                          refine tr_iload dX10_nights_154 hl105 ?_
                          refine tr_aload_n dX10_nights_156 hl101 ?_
                          refine tr_getR dX10_nights_157 fl10_68 (kR1 hS144.1 ta0) ((hS144.rcell ta0 (by decide +kernel)).trans d128) ?_
                          refine q_callVi hE (M' := mX5_sum) (as := []) dX10_nights_160 lk10_192 inX5_sum seX5_sum myX5_sum (by decide) ⟨by decide, by decide⟩ rfl (kR13 hS144.1 ta127) (Nat.le_of_ble_eq_true rfl) rfl rfl (by decide) (by decide) (k_X5_sum hS144.1 ta127) ?_
                          rintro v149 cn' K' N' I145 R146 L147 ⟨rfl, rfl, rfl, rfl, rfl, rfl, -⟩
                          refine q_iadd dX10_nights_163 ?_
                          intro v150
                          refine tr_istore dX10_nights_164 (by decide) (by decide) ?_
                          refine q_iincE dX10_nights_166 hl106 (by decide) (by decide) (by intro j1 j2; exact om_968345ed h33 h34 g82 h85 j2) ?_
                          intro v151 h152
                          refine tr_goto 68 dX10_nights_169 (by decide) ?_
                          exact ih83 _ v150 v151 I139 R140 hl101 hl102 hl103 hl104 rfl rfl hS144 (by exact om_68881c41 g82 h152) (by exact om_eae6c0aa h33 h34 g82 hm83 h85 h152)
                        · skip
                          refine tr_aload_n dX10_nights_91 hl101 ?_
                          refine tr_getR dX10_nights_92 fl10_62 (kR1 hS110.1 ta0) ((hS110.rcell ta0 (by decide +kernel)).trans d56) ?_
                          refine tr_aload_n dX10_nights_95 hl101 ?_
                          obtain ⟨a153, d154, ta153⟩ := rf1_2 hW0 ta0
                          refine tr_getR dX10_nights_96 fl10_16 (kR1 hS110.1 ta0) ((hS110.rcell ta0 (by decide +kernel)).trans d154) ?_
                          obtain ⟨v155, c156⟩ : ∃ v, I0 a153 0 = v := ⟨_, rfl⟩
                          have b157 := iv2_0 hW0 ta153 c156
                          refine q_getI dX10_nights_99 fl10_146 (kR2 hS110.1 ta153) ((hS110.cell ta153 (by decide +kernel)).trans c156) ?_
                          refine q_callVi hE (M' := mX3_addDrawn) (as := [_]) dX10_nights_102 lk10_275 inX3_addDrawn seX3_addDrawn myX3_addDrawn (by decide) ⟨by decide, by decide⟩ rfl (kR9 hS110.1 ta55) (Nat.le_of_ble_eq_true rfl) rfl rfl (by decide) (by decide) (k_X3_addDrawn hS110.1 ta55 (by exact om_d956ef70 b157)) ?_
                          rintro v162 cn' K' N' I158 R159 L160 ⟨rfl, rfl, rfl, rfl, rfl, g161, h163, -⟩
                          have hS164 := hS110.tr g161 (by decide +kernel) (by decide +kernel)
                          refine tr_pop dX10_nights_105 rfl ?_
                          refine q_iincE dX10_nights_106 hl107 (by decide) (by decide) (by intro j1 j2; exact om_830c6524 h53 h54 g111 h114 j2) ?_
                          intro v165 h166
                          refine tr_goto 85 dX10_nights_109 (by decide) ?_
                          exact ih112 _ v165 I158 R109 hl101 hl102 hl103 hl104 hl105 hl106 rfl hS164 (by exact om_68881c41 g111 h166) (by exact om_4dbe2747 h53 h54 g111 hm112 h114 h166)
                    exact lp112 _ _ v98 I94 R80 hl73 hl74 hl75 hl76 hl77 hl78 rfl hS95 (by exact om_d99fa9e4 h99) (Nat.lt_succ_self _)
              exact lp83 _ _ v67 v69 I63 R0 rfl rfl rfl rfl rfl rfl hS64 (by exact om_d99fa9e4 h70) (Nat.lt_succ_self _)
            · skip
              refine tr_aload_n dX10_nights_41 rfl ?_
              refine q_iconst dX10_nights_42 (by decide) ?_
              intro v167 h168
              refine q_callVi hE (M' := mX10_refusedTotal) (as := [_]) dX10_nights_43 lk10_178 inX10_refusedTotal seX10_refusedTotal myX10_refusedTotal (by decide) ⟨by decide, by decide⟩ rfl (kR1 hS0.1 ta0) (Nat.le_of_ble_eq_true rfl) rfl rfl (by decide) (by decide) (k_X10_refusedTotal hS0.1 ta0) ?_
              rintro v173 cn' K' N' I169 R170 L171 ⟨rfl, rfl, rfl, rfl, rfl, g172, -⟩
              have hS174 := hS0.tr g172 (by decide +kernel) (by decide +kernel)
              exact tr_iret hZ dX10_nights_46 rfl (by decide) (by decide) ⟨v173, rfl, rfl, rfl, rfl, rfl, hS174, trivial⟩
  · skip
    refine tr_aload_n dX10_nights_7 rfl ?_
    refine q_iconst dX10_nights_8 (by decide) ?_
    intro v175 h176
    refine q_callVi hE (M' := mX10_refusedTotal) (as := [_]) dX10_nights_9 lk10_178 inX10_refusedTotal seX10_refusedTotal myX10_refusedTotal (by decide) ⟨by decide, by decide⟩ rfl (kR1 hS0.1 ta0) (Nat.le_of_ble_eq_true rfl) rfl rfl (by decide) (by decide) (k_X10_refusedTotal hS0.1 ta0) ?_
    rintro v181 cn' K' N' I177 R178 L179 ⟨rfl, rfl, rfl, rfl, rfl, g180, -⟩
    have hS182 := hS0.tr g180 (by decide +kernel) (by decide +kernel)
    exact tr_iret hZ dX10_nights_12 rfl (by decide) (by decide) ⟨v181, rfl, rfl, rfl, rfl, rfl, hS182, trivial⟩
def wi_X10_event : List Nat := [81]
def wr_X10_event : List Nat := []
set_option maxHeartbeats 4000000 in
theorem k_X10_event {l : Launch} {T : Nat → Nat} {cn : Nat} {K N : Nat → Nat} {I0 : cz_I} {R0 : cz_R} {L0 : cz_L} {d : Int} (hW0 : Wf T cn K N I0 R0 d) {a0 : Nat} (ta0 : T a0 = 1) {x1 : Int32} {x2 : Int32} : ConE l mX10_event [.ref a0, .int x1, .int x2] cn K N I0 R0 L0 (ca_i (fun v cn' K' N' I' R' L' => cn = cn' ∧ K = K' ∧ N = N' ∧ R0 = R' ∧ L0 = L' ∧ St T cn K N d wi_X10_event wr_X10_event I0 R0 I' R0 ∧ True)) := by
  refine ConE.of (by decide +kernel) rfl (Nat.le_of_ble_eq_true rfl) rfl (fun X hX hZ hE => ?_)
  subst hX
  have hS0 : St T cn K N d wi_X10_event wr_X10_event I0 R0 I0 R0 := St.rf0 hW0
  refine tr_aload_n dX10_event_0 rfl ?_
  refine tr_iload_n dX10_event_1 rfl ?_
  obtain ⟨a1, d2, ta1⟩ := rf1_2 hW0 ta0
  obtain ⟨v3, c4⟩ : ∃ v, I0 a1 3 = v := ⟨_, rfl⟩
  have b5 := iv2_3 hW0 ta1 c4
  obtain ⟨a6, d7, ta6⟩ := rf1_6 hW0 ta0
  obtain ⟨v8, c9⟩ : ∃ v, I0 a6 2 = v := ⟨_, rfl⟩
  have b10 := iv8_2 hW0 ta6 c9
  refine q_callVi hE (M' := mX10_isEvent) (as := [_]) dX10_event_2 lk10_234 inX10_isEvent seX10_isEvent myX10_isEvent (by decide) ⟨by decide, by decide⟩ rfl (kR1 hS0.1 ta0) (Nat.le_of_ble_eq_true rfl) rfl rfl (by decide) (by decide) (k_X10_isEvent hS0.1 ta0) ?_
  rintro v15 cn' K' N' I11 R12 L13 ⟨rfl, rfl, rfl, rfl, rfl, rfl, h16, p17, -⟩
  have p18 := p17 _ d2 _ d7
  clear p17
  rw [c4] at p18
  rw [c9] at p18
  refine q_if_ne 14 dX10_event_5 (by decide) (fun h19 => ?_) (fun h19 => ?_)
  · skip
    refine tr_iload_n dX10_event_14 rfl ?_
    refine tr_aload_n dX10_event_15 rfl ?_
    refine tr_getR dX10_event_16 fl10_16 (kR1 hS0.1 ta0) d2 ?_
    refine q_getI dX10_event_19 fl10_311 (kR2 hS0.1 ta1) c4 ?_
    refine q_icmp_ge 29 dX10_event_22 (by decide) (fun h20 => ?_) (fun h20 => ?_)
    · skip
      refine q_iconst dX10_event_29 (by decide) ?_
      intro v21 h22
      refine tr_istore_n dX10_event_30 (by decide) (by decide) ?_
      refine tr_iload_n dX10_event_31 rfl ?_
      by_cases h23 : x2.toInt = 0
      · skip
        refine tr_tabIn (off := 32) 64 dX10_event_32 (by exact om_7c055b42 h23) (by exact om_0e9741b2 h23) (by rw [h23]; decide +kernel) (by decide) ?_
        refine tr_aload_n dX10_event_64 rfl ?_
        refine tr_iload_n dX10_event_65 rfl ?_
        refine q_if_eq 84 dX10_event_66 (by decide) (fun h24 => ?_) (fun h24 => ?_)
        · skip
          refine q_iconst dX10_event_84 (by decide) ?_
          intro v25 h26
          refine q_callVi hE (M' := mX10_answered) (as := [_]) dX10_event_85 lk10_109 inX10_answered seX10_answered myX10_answered (by decide) ⟨by decide, by decide⟩ rfl (kR1 hS0.1 ta0) (Nat.le_of_ble_eq_true rfl) rfl rfl (by decide) (by decide) (k_X10_answered hS0.1 ta0) ?_
          rintro v31 cn' K' N' I27 R28 L29 ⟨rfl, rfl, rfl, rfl, rfl, g30, -⟩
          have hS32 := hS0.tr g30 (by decide +kernel) (by decide +kernel)
          exact tr_iret hZ dX10_event_88 rfl (by decide) (by decide) ⟨v31, rfl, rfl, rfl, rfl, rfl, rfl, hS32, trivial⟩
        · skip
          exfalso; exact om_3a97d4a5 h22 h24
      · skip
        by_cases h33 : x2.toInt = 1
        · skip
          refine tr_tabIn (off := 57) 89 dX10_event_32 (by exact om_6183b2fb h33) (by exact om_abf3c1b2 h33) (by rw [h33]; decide +kernel) (by decide) ?_
          refine tr_aload_n dX10_event_89 rfl ?_
          refine tr_iload_n dX10_event_90 rfl ?_
          refine q_if_eq 109 dX10_event_91 (by decide) (fun h34 => ?_) (fun h34 => ?_)
          · skip
            refine q_bipush dX10_event_109 (by decide +kernel) ?_
            intro v35 h36
            refine q_callVi hE (M' := mX10_answered) (as := [_]) dX10_event_111 lk10_109 inX10_answered seX10_answered myX10_answered (by decide) ⟨by decide, by decide⟩ rfl (kR1 hS0.1 ta0) (Nat.le_of_ble_eq_true rfl) rfl rfl (by decide) (by decide) (k_X10_answered hS0.1 ta0) ?_
            rintro v41 cn' K' N' I37 R38 L39 ⟨rfl, rfl, rfl, rfl, rfl, g40, -⟩
            have hS42 := hS0.tr g40 (by decide +kernel) (by decide +kernel)
            exact tr_iret hZ dX10_event_114 rfl (by decide) (by decide) ⟨v41, rfl, rfl, rfl, rfl, rfl, rfl, hS42, trivial⟩
          · skip
            exfalso; exact om_3a97d4a5 h22 h34
        · skip
          by_cases h43 : x2.toInt = 2
          · skip
            refine tr_tabIn (off := 83) 115 dX10_event_32 (by exact om_1174f472 h43) (by exact om_1555d2b1 h43) (by rw [h43]; decide +kernel) (by decide) ?_
            refine tr_aload_n dX10_event_115 rfl ?_
            refine tr_aload_n dX10_event_116 rfl ?_
            refine tr_iload_n dX10_event_117 rfl ?_
            refine q_callVi hE (M' := mX10_eventFrom) (as := [_]) dX10_event_118 lk10_228 inX10_eventFrom seX10_eventFrom myX10_eventFrom (by decide) ⟨by decide, by decide⟩ rfl (kR1 hS0.1 ta0) (Nat.le_of_ble_eq_true rfl) rfl rfl (by decide) (by decide) (k_X10_eventFrom hS0.1 ta0 (by exact om_f506c33d b5.2 b5.1 h20) (fun q0 z0 => fun q1 z1 => by obtain rfl := Option.some.inj ((d2).symm.trans z0); obtain rfl := Option.some.inj ((d7).symm.trans z1); (try rw [c4]); (try rw [c9]); (try exact om_b0546d98 h16.2 h16.1 p18 h19 h23 h33 h43))) ?_
            rintro v48 cn' K' N' I44 R45 L46 ⟨rfl, rfl, rfl, rfl, rfl, rfl, -⟩
            refine q_callVi hE (M' := mX10_answered) (as := [_]) dX10_event_121 lk10_109 inX10_answered seX10_answered myX10_answered (by decide) ⟨by decide, by decide⟩ rfl (kR1 hS0.1 ta0) (Nat.le_of_ble_eq_true rfl) rfl rfl (by decide) (by decide) (k_X10_answered hS0.1 ta0) ?_
            rintro v53 cn' K' N' I49 R50 L51 ⟨rfl, rfl, rfl, rfl, rfl, g52, -⟩
            have hS54 := hS0.tr g52 (by decide +kernel) (by decide +kernel)
            exact tr_iret hZ dX10_event_124 rfl (by decide) (by decide) ⟨v53, rfl, rfl, rfl, rfl, rfl, rfl, hS54, trivial⟩
          · skip
            by_cases h55 : x2.toInt = 3
            · skip
              refine tr_tabIn (off := 93) 125 dX10_event_32 (by exact om_d4b200a6 h55) (by exact om_52bff43b h55) (by rw [h55]; decide +kernel) (by decide) ?_
              refine tr_aload_n dX10_event_125 rfl ?_
              refine tr_aload_n dX10_event_126 rfl ?_
              refine tr_iload_n dX10_event_127 rfl ?_
              refine q_callVi hE (M' := mX10_eventTo) (as := [_]) dX10_event_128 lk10_231 inX10_eventTo seX10_eventTo myX10_eventTo (by decide) ⟨by decide, by decide⟩ rfl (kR1 hS0.1 ta0) (Nat.le_of_ble_eq_true rfl) rfl rfl (by decide) (by decide) (k_X10_eventTo hS0.1 ta0 (by exact om_f506c33d b5.2 b5.1 h20) (fun q0 z0 => fun q1 z1 => by obtain rfl := Option.some.inj ((d2).symm.trans z0); obtain rfl := Option.some.inj ((d7).symm.trans z1); (try rw [c4]); (try rw [c9]); (try exact om_81aaabda h16.2 h16.1 p18 h19 h23 h33 h43 h55))) ?_
              rintro v60 cn' K' N' I56 R57 L58 ⟨rfl, rfl, rfl, rfl, rfl, rfl, -⟩
              refine q_callVi hE (M' := mX10_answered) (as := [_]) dX10_event_131 lk10_109 inX10_answered seX10_answered myX10_answered (by decide) ⟨by decide, by decide⟩ rfl (kR1 hS0.1 ta0) (Nat.le_of_ble_eq_true rfl) rfl rfl (by decide) (by decide) (k_X10_answered hS0.1 ta0) ?_
              rintro v65 cn' K' N' I61 R62 L63 ⟨rfl, rfl, rfl, rfl, rfl, g64, -⟩
              have hS66 := hS0.tr g64 (by decide +kernel) (by decide +kernel)
              exact tr_iret hZ dX10_event_134 rfl (by decide) (by decide) ⟨v65, rfl, rfl, rfl, rfl, rfl, rfl, hS66, trivial⟩
            · skip
              refine tr_tabOut 135 dX10_event_32 (by exact om_4f2b3e28 h23 h33 h43 h55) (by decide) ?_
              refine tr_aload_n dX10_event_135 rfl ?_
              refine q_iconst dX10_event_136 (by decide) ?_
              intro v67 h68
              refine q_callVi hE (M' := mX10_refused) (as := [_]) dX10_event_137 lk10_79 inX10_refused seX10_refused myX10_refused (by decide) ⟨by decide, by decide⟩ rfl (kR1 hS0.1 ta0) (Nat.le_of_ble_eq_true rfl) rfl rfl (by decide) (by decide) (k_X10_refused hS0.1 ta0) ?_
              rintro v73 cn' K' N' I69 R70 L71 ⟨rfl, rfl, rfl, rfl, rfl, g72, -⟩
              have hS74 := hS0.tr g72 (by decide +kernel) (by decide +kernel)
              exact tr_iret hZ dX10_event_140 rfl (by decide) (by decide) ⟨v73, rfl, rfl, rfl, rfl, rfl, rfl, hS74, trivial⟩
    · skip
      refine q_iconst dX10_event_25 (by decide) ?_
      intro v75 h76
      refine tr_goto 30 dX10_event_26 (by decide) ?_
      refine tr_istore_n dX10_event_30 (by decide) (by decide) ?_
      refine tr_iload_n dX10_event_31 rfl ?_
      by_cases h77 : x2.toInt = 0
      · skip
        refine tr_tabIn (off := 32) 64 dX10_event_32 (by exact om_7c055b42 h77) (by exact om_0e9741b2 h77) (by rw [h77]; decide +kernel) (by decide) ?_
        refine tr_aload_n dX10_event_64 rfl ?_
        refine tr_iload_n dX10_event_65 rfl ?_
        refine q_if_eq 84 dX10_event_66 (by decide) (fun h78 => ?_) (fun h78 => ?_)
        · skip
          exfalso; exact om_3624102b h76 h78
        · skip
          refine tr_aload_n dX10_event_69 rfl ?_
          refine tr_getR dX10_event_70 fl10_16 (kR1 hS0.1 ta0) d2 ?_
          obtain ⟨a79, d80, ta79⟩ := rf2_4 hW0 ta1
          refine tr_getR dX10_event_73 fl10_313 (kR2 hS0.1 ta1) d80 ?_
          refine tr_iload_n dX10_event_76 rfl ?_
          obtain ⟨a81, d82, ta81⟩ := rf19 hS0.1 ta79 (j := x1.toNatClampNeg) (ti_lt (by exact om_0c75480f h16.2 h16.1 p18 h19 h76 h78) (by exact om_d7ac722a b5.2 b5.1 h20))
          refine tr_aald dX10_event_77 (kR19 hS0.1 ta79) (by decide) (by decide) (ti_in (nR19 hS0.1 ta79) (by exact om_0c75480f h16.2 h16.1 p18 h19 h76 h78) (by exact om_d7ac722a b5.2 b5.1 h20)) d82 ?_
          obtain ⟨v83, c84⟩ : ∃ v, I0 a81 0 = v := ⟨_, rfl⟩
          refine q_getI dX10_event_78 fl10_317 (kR3 hS0.1 ta81) c84 ?_
          refine tr_goto 85 dX10_event_81 (by decide) ?_
          refine q_callVi hE (M' := mX10_answered) (as := [_]) dX10_event_85 lk10_109 inX10_answered seX10_answered myX10_answered (by decide) ⟨by decide, by decide⟩ rfl (kR1 hS0.1 ta0) (Nat.le_of_ble_eq_true rfl) rfl rfl (by decide) (by decide) (k_X10_answered hS0.1 ta0) ?_
          rintro v89 cn' K' N' I85 R86 L87 ⟨rfl, rfl, rfl, rfl, rfl, g88, -⟩
          have hS90 := hS0.tr g88 (by decide +kernel) (by decide +kernel)
          exact tr_iret hZ dX10_event_88 rfl (by decide) (by decide) ⟨v89, rfl, rfl, rfl, rfl, rfl, rfl, hS90, trivial⟩
      · skip
        by_cases h91 : x2.toInt = 1
        · skip
          refine tr_tabIn (off := 57) 89 dX10_event_32 (by exact om_6183b2fb h91) (by exact om_abf3c1b2 h91) (by rw [h91]; decide +kernel) (by decide) ?_
          refine tr_aload_n dX10_event_89 rfl ?_
          refine tr_iload_n dX10_event_90 rfl ?_
          refine q_if_eq 109 dX10_event_91 (by decide) (fun h92 => ?_) (fun h92 => ?_)
          · skip
            exfalso; exact om_3624102b h76 h92
          · skip
            refine tr_aload_n dX10_event_94 rfl ?_
            refine tr_getR dX10_event_95 fl10_16 (kR1 hS0.1 ta0) d2 ?_
            obtain ⟨a93, d94, ta93⟩ := rf2_4 hW0 ta1
            refine tr_getR dX10_event_98 fl10_313 (kR2 hS0.1 ta1) d94 ?_
            refine tr_iload_n dX10_event_101 rfl ?_
            obtain ⟨a95, d96, ta95⟩ := rf19 hS0.1 ta93 (j := x1.toNatClampNeg) (ti_lt (by exact om_d80f7614 h16.2 h16.1 p18 h19 h76 h77 h91 h92) (by exact om_d7ac722a b5.2 b5.1 h20))
            refine tr_aald dX10_event_102 (kR19 hS0.1 ta93) (by decide) (by decide) (ti_in (nR19 hS0.1 ta93) (by exact om_d80f7614 h16.2 h16.1 p18 h19 h76 h77 h91 h92) (by exact om_d7ac722a b5.2 b5.1 h20)) d96 ?_
            obtain ⟨v97, c98⟩ : ∃ v, I0 a95 1 = v := ⟨_, rfl⟩
            refine q_getI dX10_event_103 fl10_322 (kR3 hS0.1 ta95) c98 ?_
            refine tr_goto 111 dX10_event_106 (by decide) ?_
            refine q_callVi hE (M' := mX10_answered) (as := [_]) dX10_event_111 lk10_109 inX10_answered seX10_answered myX10_answered (by decide) ⟨by decide, by decide⟩ rfl (kR1 hS0.1 ta0) (Nat.le_of_ble_eq_true rfl) rfl rfl (by decide) (by decide) (k_X10_answered hS0.1 ta0) ?_
            rintro v103 cn' K' N' I99 R100 L101 ⟨rfl, rfl, rfl, rfl, rfl, g102, -⟩
            have hS104 := hS0.tr g102 (by decide +kernel) (by decide +kernel)
            exact tr_iret hZ dX10_event_114 rfl (by decide) (by decide) ⟨v103, rfl, rfl, rfl, rfl, rfl, rfl, hS104, trivial⟩
        · skip
          by_cases h105 : x2.toInt = 2
          · skip
            refine tr_tabIn (off := 83) 115 dX10_event_32 (by exact om_1174f472 h105) (by exact om_1555d2b1 h105) (by rw [h105]; decide +kernel) (by decide) ?_
            refine tr_aload_n dX10_event_115 rfl ?_
            refine tr_aload_n dX10_event_116 rfl ?_
            refine tr_iload_n dX10_event_117 rfl ?_
            refine q_callVi hE (M' := mX10_eventFrom) (as := [_]) dX10_event_118 lk10_228 inX10_eventFrom seX10_eventFrom myX10_eventFrom (by decide) ⟨by decide, by decide⟩ rfl (kR1 hS0.1 ta0) (Nat.le_of_ble_eq_true rfl) rfl rfl (by decide) (by decide) (k_X10_eventFrom hS0.1 ta0 (by exact om_de9cccd3 h16.2 h16.1 p18 h19 h77 h91 h105) (fun q0 z0 => fun q1 z1 => by obtain rfl := Option.some.inj ((d2).symm.trans z0); obtain rfl := Option.some.inj ((d7).symm.trans z1); (try rw [c4]); (try rw [c9]); (try exact om_dff7202b b10.2 b10.1 h20))) ?_
            rintro v110 cn' K' N' I106 R107 L108 ⟨rfl, rfl, rfl, rfl, rfl, rfl, -⟩
            refine q_callVi hE (M' := mX10_answered) (as := [_]) dX10_event_121 lk10_109 inX10_answered seX10_answered myX10_answered (by decide) ⟨by decide, by decide⟩ rfl (kR1 hS0.1 ta0) (Nat.le_of_ble_eq_true rfl) rfl rfl (by decide) (by decide) (k_X10_answered hS0.1 ta0) ?_
            rintro v115 cn' K' N' I111 R112 L113 ⟨rfl, rfl, rfl, rfl, rfl, g114, -⟩
            have hS116 := hS0.tr g114 (by decide +kernel) (by decide +kernel)
            exact tr_iret hZ dX10_event_124 rfl (by decide) (by decide) ⟨v115, rfl, rfl, rfl, rfl, rfl, rfl, hS116, trivial⟩
          · skip
            by_cases h117 : x2.toInt = 3
            · skip
              refine tr_tabIn (off := 93) 125 dX10_event_32 (by exact om_d4b200a6 h117) (by exact om_52bff43b h117) (by rw [h117]; decide +kernel) (by decide) ?_
              refine tr_aload_n dX10_event_125 rfl ?_
              refine tr_aload_n dX10_event_126 rfl ?_
              refine tr_iload_n dX10_event_127 rfl ?_
              refine q_callVi hE (M' := mX10_eventTo) (as := [_]) dX10_event_128 lk10_231 inX10_eventTo seX10_eventTo myX10_eventTo (by decide) ⟨by decide, by decide⟩ rfl (kR1 hS0.1 ta0) (Nat.le_of_ble_eq_true rfl) rfl rfl (by decide) (by decide) (k_X10_eventTo hS0.1 ta0 (by exact om_2605c8d5 h16.2 h16.1 p18 h19 h77 h91 h105 h117) (fun q0 z0 => fun q1 z1 => by obtain rfl := Option.some.inj ((d2).symm.trans z0); obtain rfl := Option.some.inj ((d7).symm.trans z1); (try rw [c4]); (try rw [c9]); (try exact om_dff7202b b10.2 b10.1 h20))) ?_
              rintro v122 cn' K' N' I118 R119 L120 ⟨rfl, rfl, rfl, rfl, rfl, rfl, -⟩
              refine q_callVi hE (M' := mX10_answered) (as := [_]) dX10_event_131 lk10_109 inX10_answered seX10_answered myX10_answered (by decide) ⟨by decide, by decide⟩ rfl (kR1 hS0.1 ta0) (Nat.le_of_ble_eq_true rfl) rfl rfl (by decide) (by decide) (k_X10_answered hS0.1 ta0) ?_
              rintro v127 cn' K' N' I123 R124 L125 ⟨rfl, rfl, rfl, rfl, rfl, g126, -⟩
              have hS128 := hS0.tr g126 (by decide +kernel) (by decide +kernel)
              exact tr_iret hZ dX10_event_134 rfl (by decide) (by decide) ⟨v127, rfl, rfl, rfl, rfl, rfl, rfl, hS128, trivial⟩
            · skip
              refine tr_tabOut 135 dX10_event_32 (by exact om_4f2b3e28 h77 h91 h105 h117) (by decide) ?_
              refine tr_aload_n dX10_event_135 rfl ?_
              refine q_iconst dX10_event_136 (by decide) ?_
              intro v129 h130
              refine q_callVi hE (M' := mX10_refused) (as := [_]) dX10_event_137 lk10_79 inX10_refused seX10_refused myX10_refused (by decide) ⟨by decide, by decide⟩ rfl (kR1 hS0.1 ta0) (Nat.le_of_ble_eq_true rfl) rfl rfl (by decide) (by decide) (k_X10_refused hS0.1 ta0) ?_
              rintro v135 cn' K' N' I131 R132 L133 ⟨rfl, rfl, rfl, rfl, rfl, g134, -⟩
              have hS136 := hS0.tr g134 (by decide +kernel) (by decide +kernel)
              exact tr_iret hZ dX10_event_140 rfl (by decide) (by decide) ⟨v135, rfl, rfl, rfl, rfl, rfl, rfl, hS136, trivial⟩
  · skip
    refine tr_aload_n dX10_event_8 rfl ?_
    refine q_iconst dX10_event_9 (by decide) ?_
    intro v137 h138
    refine q_callVi hE (M' := mX10_refused) (as := [_]) dX10_event_10 lk10_79 inX10_refused seX10_refused myX10_refused (by decide) ⟨by decide, by decide⟩ rfl (kR1 hS0.1 ta0) (Nat.le_of_ble_eq_true rfl) rfl rfl (by decide) (by decide) (k_X10_refused hS0.1 ta0) ?_
    rintro v143 cn' K' N' I139 R140 L141 ⟨rfl, rfl, rfl, rfl, rfl, g142, -⟩
    have hS144 := hS0.tr g142 (by decide +kernel) (by decide +kernel)
    exact tr_iret hZ dX10_event_13 rfl (by decide) (by decide) ⟨v143, rfl, rfl, rfl, rfl, rfl, rfl, hS144, trivial⟩
set_option maxHeartbeats 4000000 in
theorem k_X10_size {l : Launch} {T : Nat → Nat} {cn : Nat} {K N : Nat → Nat} {I0 : cz_I} {R0 : cz_R} {L0 : cz_L} {d : Int} (hW0 : Wf T cn K N I0 R0 d) {a0 : Nat} (ta0 : T a0 = 1) {x1 : Int32} : ConE l mX10_size [.ref a0, .int x1] cn K N I0 R0 L0 (ca_i (fun v cn' K' N' I' R' L' => cn = cn' ∧ K = K' ∧ N = N' ∧ I0 = I' ∧ R0 = R' ∧ L0 = L' ∧ True)) := by
  refine ConE.of (by decide +kernel) rfl (Nat.le_of_ble_eq_true rfl) rfl (fun X hX hZ hE => ?_)
  subst hX
  refine tr_iload_n dX10_size_0 rfl ?_
  by_cases h1 : x1.toInt = 0
  · skip
    refine tr_tabIn (off := 67) 68 dX10_size_1 (by exact om_7c055b42 h1) (by exact om_dcbf4cd2 h1) (by rw [h1]; decide +kernel) (by decide) ?_
    refine tr_aload_n dX10_size_68 rfl ?_
    obtain ⟨a2, d3, ta2⟩ := rf1_2 hW0 ta0
    refine tr_getR dX10_size_69 fl10_16 (kR1 hW0 ta0) d3 ?_
    obtain ⟨v4, c5⟩ : ∃ v, I0 a2 0 = v := ⟨_, rfl⟩
    have b6 := iv2_0 hW0 ta2 c5
    refine q_getI dX10_size_72 fl10_146 (kR2 hW0 ta2) c5 ?_
    exact tr_iret hZ dX10_size_75 rfl (by decide) (by decide) ⟨v4, rfl, rfl, rfl, rfl, rfl, rfl, rfl, trivial⟩
  · skip
    by_cases h7 : x1.toInt = 1
    · skip
      refine tr_tabIn (off := 75) 76 dX10_size_1 (by exact om_6183b2fb h7) (by exact om_15856cf6 h7) (by rw [h7]; decide +kernel) (by decide) ?_
      refine tr_aload_n dX10_size_76 rfl ?_
      obtain ⟨a8, d9, ta8⟩ := rf1_2 hW0 ta0
      refine tr_getR dX10_size_77 fl10_16 (kR1 hW0 ta0) d9 ?_
      obtain ⟨v10, c11⟩ : ∃ v, I0 a8 1 = v := ⟨_, rfl⟩
      have b12 := iv2_1 hW0 ta8 c11
      refine q_getI dX10_size_80 fl10_332 (kR2 hW0 ta8) c11 ?_
      exact tr_iret hZ dX10_size_83 rfl (by decide) (by decide) ⟨v10, rfl, rfl, rfl, rfl, rfl, rfl, rfl, trivial⟩
    · skip
      by_cases h13 : x1.toInt = 2
      · skip
        refine tr_tabIn (off := 83) 84 dX10_size_1 (by exact om_1174f472 h13) (by exact om_90ff4fc7 h13) (by rw [h13]; decide +kernel) (by decide) ?_
        refine tr_aload_n dX10_size_84 rfl ?_
        obtain ⟨a14, d15, ta14⟩ := rf1_2 hW0 ta0
        refine tr_getR dX10_size_85 fl10_16 (kR1 hW0 ta0) d15 ?_
        obtain ⟨v16, c17⟩ : ∃ v, I0 a14 3 = v := ⟨_, rfl⟩
        have b18 := iv2_3 hW0 ta14 c17
        refine q_getI dX10_size_88 fl10_311 (kR2 hW0 ta14) c17 ?_
        exact tr_iret hZ dX10_size_91 rfl (by decide) (by decide) ⟨v16, rfl, rfl, rfl, rfl, rfl, rfl, rfl, trivial⟩
      · skip
        by_cases h19 : x1.toInt = 3
        · skip
          refine tr_tabIn (off := 91) 92 dX10_size_1 (by exact om_d4b200a6 h19) (by exact om_60ba2561 h19) (by rw [h19]; decide +kernel) (by decide) ?_
          refine tr_aload_n dX10_size_92 rfl ?_
          obtain ⟨a20, d21, ta20⟩ := rf1_6 hW0 ta0
          refine tr_getR dX10_size_93 fl10_35 (kR1 hW0 ta0) d21 ?_
          obtain ⟨v22, c23⟩ : ∃ v, I0 a20 2 = v := ⟨_, rfl⟩
          have b24 := iv8_2 hW0 ta20 c23
          refine q_getI dX10_size_96 fl10_272 (kR8 hW0 ta20) c23 ?_
          exact tr_iret hZ dX10_size_99 rfl (by decide) (by decide) ⟨v22, rfl, rfl, rfl, rfl, rfl, rfl, rfl, trivial⟩
        · skip
          by_cases h25 : x1.toInt = 4
          · skip
            refine tr_tabIn (off := 99) 100 dX10_size_1 (by exact om_d336d452 h25) (by exact om_7bbc1002 h25) (by rw [h25]; decide +kernel) (by decide) ?_
            refine tr_aload_n dX10_size_100 rfl ?_
            obtain ⟨a26, d27, ta26⟩ := rf1_2 hW0 ta0
            refine tr_getR dX10_size_101 fl10_16 (kR1 hW0 ta0) d27 ?_
            obtain ⟨v28, c29⟩ : ∃ v, I0 a26 5 = v := ⟨_, rfl⟩
            have b30 := iv2_5 hW0 ta26 c29
            refine q_getI dX10_size_104 fl10_106 (kR2 hW0 ta26) c29 ?_
            exact tr_iret hZ dX10_size_107 rfl (by decide) (by decide) ⟨v28, rfl, rfl, rfl, rfl, rfl, rfl, rfl, trivial⟩
          · skip
            by_cases h31 : x1.toInt = 5
            · skip
              refine tr_tabIn (off := 107) 108 dX10_size_1 (by exact om_d3aa380d h31) (by exact om_74b906af h31) (by rw [h31]; decide +kernel) (by decide) ?_
              refine tr_aload_n dX10_size_108 rfl ?_
              obtain ⟨a32, d33, ta32⟩ := rf1_2 hW0 ta0
              refine tr_getR dX10_size_109 fl10_16 (kR1 hW0 ta0) d33 ?_
              obtain ⟨v34, c35⟩ : ∃ v, I0 a32 9 = v := ⟨_, rfl⟩
              have b36 := iv2_9 hW0 ta32 c35
              refine q_getI dX10_size_112 fl10_335 (kR2 hW0 ta32) c35 ?_
              exact tr_iret hZ dX10_size_115 rfl (by decide) (by decide) ⟨v34, rfl, rfl, rfl, rfl, rfl, rfl, rfl, trivial⟩
            · skip
              by_cases h37 : x1.toInt = 6
              · skip
                refine tr_tabIn (off := 115) 116 dX10_size_1 (by exact om_59370c92 h37) (by exact om_ba9ed9a6 h37) (by rw [h37]; decide +kernel) (by decide) ?_
                refine tr_aload_n dX10_size_116 rfl ?_
                obtain ⟨a38, d39, ta38⟩ := rf1_2 hW0 ta0
                refine tr_getR dX10_size_117 fl10_16 (kR1 hW0 ta0) d39 ?_
                obtain ⟨v40, c41⟩ : ∃ v, I0 a38 11 = v := ⟨_, rfl⟩
                have b42 := iv2_11 hW0 ta38 c41
                refine q_getI dX10_size_120 fl10_278 (kR2 hW0 ta38) c41 ?_
                exact tr_iret hZ dX10_size_123 rfl (by decide) (by decide) ⟨v40, rfl, rfl, rfl, rfl, rfl, rfl, rfl, trivial⟩
              · skip
                by_cases h43 : x1.toInt = 7
                · skip
                  refine tr_tabIn (off := 123) 124 dX10_size_1 (by exact om_cec2ae46 h43) (by exact om_7c9a626b h43) (by rw [h43]; decide +kernel) (by decide) ?_
                  refine tr_aload_n dX10_size_124 rfl ?_
                  obtain ⟨a44, d45, ta44⟩ := rf1_2 hW0 ta0
                  refine tr_getR dX10_size_125 fl10_16 (kR1 hW0 ta0) d45 ?_
                  obtain ⟨v46, c47⟩ : ∃ v, I0 a44 13 = v := ⟨_, rfl⟩
                  have b48 := iv2_13 hW0 ta44 c47
                  refine q_getI dX10_size_128 fl10_338 (kR2 hW0 ta44) c47 ?_
                  exact tr_iret hZ dX10_size_131 rfl (by decide) (by decide) ⟨v46, rfl, rfl, rfl, rfl, rfl, rfl, rfl, trivial⟩
                · skip
                  by_cases h49 : x1.toInt = 8
                  · skip
                    refine tr_tabIn (off := 131) 132 dX10_size_1 (by exact om_e7d54e08 h49) (by exact om_c672036c h49) (by rw [h49]; decide +kernel) (by decide) ?_
                    refine tr_aload_n dX10_size_132 rfl ?_
                    obtain ⟨a50, d51, ta50⟩ := rf1_2 hW0 ta0
                    refine tr_getR dX10_size_133 fl10_16 (kR1 hW0 ta0) d51 ?_
                    obtain ⟨a52, d53, ta52⟩ := rf2_8 hW0 ta50
                    refine tr_getR dX10_size_136 fl10_341 (kR2 hW0 ta50) d53 ?_
                    obtain ⟨v54, c55⟩ : ∃ v, I0 a52 0 = v := ⟨_, rfl⟩
                    have b56 := iv6_0 hW0 ta52 c55
                    refine q_getI dX10_size_139 fl10_345 (kR6 hW0 ta52) c55 ?_
                    exact tr_iret hZ dX10_size_142 rfl (by decide) (by decide) ⟨v54, rfl, rfl, rfl, rfl, rfl, rfl, rfl, trivial⟩
                  · skip
                    by_cases h57 : x1.toInt = 9
                    · skip
                      refine tr_tabIn (off := 142) 143 dX10_size_1 (by exact om_5471ed28 h57) (by exact om_f9baa684 h57) (by rw [h57]; decide +kernel) (by decide) ?_
                      refine tr_aload_n dX10_size_143 rfl ?_
                      obtain ⟨a58, d59, ta58⟩ := rf1_6 hW0 ta0
                      refine tr_getR dX10_size_144 fl10_35 (kR1 hW0 ta0) d59 ?_
                      obtain ⟨v60, c61⟩ : ∃ v, I0 a58 1 = v := ⟨_, rfl⟩
                      have b62 := iv8_1 hW0 ta58 c61
                      refine q_getI dX10_size_147 fl10_269 (kR8 hW0 ta58) c61 ?_
                      exact tr_iret hZ dX10_size_150 rfl (by decide) (by decide) ⟨v60, rfl, rfl, rfl, rfl, rfl, rfl, rfl, trivial⟩
                    · skip
                      by_cases h63 : x1.toInt = 10
                      · skip
                        refine tr_tabIn (off := 150) 151 dX10_size_1 (by exact om_7c2750db h63) (by exact om_24f1d9df h63) (by rw [h63]; decide +kernel) (by decide) ?_
                        refine tr_aload_n dX10_size_151 rfl ?_
                        obtain ⟨a64, d65, ta64⟩ := rf1_7 hW0 ta0
                        refine tr_getR dX10_size_152 fl10_42 (kR1 hW0 ta0) d65 ?_
                        obtain ⟨v66, c67⟩ : ∃ v, I0 a64 0 = v := ⟨_, rfl⟩
                        have b68 := iv11_0 hW0 ta64 c67
                        refine q_getI dX10_size_155 fl10_350 (kR11 hW0 ta64) c67 ?_
                        exact tr_iret hZ dX10_size_158 rfl (by decide) (by decide) ⟨v66, rfl, rfl, rfl, rfl, rfl, rfl, rfl, trivial⟩
                      · skip
                        by_cases h69 : x1.toInt = 11
                        · skip
                          refine tr_tabIn (off := 158) 159 dX10_size_1 (by exact om_3c8fe726 h69) (by exact om_a26c9430 h69) (by rw [h69]; decide +kernel) (by decide) ?_
                          refine tr_aload_n dX10_size_159 rfl ?_
                          obtain ⟨a70, d71, ta70⟩ := rf1_7 hW0 ta0
                          refine tr_getR dX10_size_160 fl10_42 (kR1 hW0 ta0) d71 ?_
                          obtain ⟨v72, c73⟩ : ∃ v, I0 a70 2 = v := ⟨_, rfl⟩
                          have b74 := iv11_2 hW0 ta70 c73
                          refine q_getI dX10_size_163 fl10_353 (kR11 hW0 ta70) c73 ?_
                          exact tr_iret hZ dX10_size_166 rfl (by decide) (by decide) ⟨v72, rfl, rfl, rfl, rfl, rfl, rfl, rfl, trivial⟩
                        · skip
                          by_cases h75 : x1.toInt = 12
                          · skip
                            refine tr_tabIn (off := 166) 167 dX10_size_1 (by exact om_84aa3c97 h75) (by exact om_a55f19d4 h75) (by rw [h75]; decide +kernel) (by decide) ?_
                            refine tr_aload_n dX10_size_167 rfl ?_
                            obtain ⟨v76, c77⟩ : ∃ v, I0 a0 1 = v := ⟨_, rfl⟩
                            have b78 := iv1_1 hW0 ta0 c77
                            refine q_getI dX10_size_168 fl10_71 (kR1 hW0 ta0) c77 ?_
                            exact tr_iret hZ dX10_size_171 rfl (by decide) (by decide) ⟨v76, rfl, rfl, rfl, rfl, rfl, rfl, rfl, trivial⟩
                          · skip
                            refine tr_tabOut 172 dX10_size_1 (by exact om_da794a30 h1 h7 h13 h19 h25 h31 h37 h43 h49 h57 h63 h69 h75) (by decide) ?_
                            refine q_iconst dX10_size_172 (by decide) ?_
                            intro v79 h80
                            exact tr_iret hZ dX10_size_173 rfl (by decide) (by decide) ⟨v79, rfl, rfl, rfl, rfl, rfl, rfl, rfl, trivial⟩
