set_option maxHeartbeats 4000000 in
theorem fk_X7_isToldAgain {l : Launch} {T : Nat → Nat} {cn : Nat} {K N : Nat → Nat} {I0 : cz_I} {R0 : cz_R} {L0 : cz_L} {d : Int} (hW0 : Wf T cn K N I0 R0 d) (gQ : Nat → Int) (gk : Int) {a0 : Nat} (ta0 : T a0 = 7) {x1 : Int32} (pre0 : x1.toInt = (gk)) (pre1 : (I0 a0 11).toInt = (gQ 7)) (pre2 : (I0 a0 12).toInt = (gQ 8)) : ConE l mX7_isToldAgain [.ref a0, .int x1] cn K N I0 R0 L0 (ca_i (fun v cn' K' N' I' R' L' => cn = cn' ∧ K = K' ∧ N = N' ∧ I0 = I' ∧ R0 = R' ∧ L0 = L' ∧ (0 ≤ v.toInt ∧ v.toInt ≤ 1) ∧ (((v.toInt = 1) ∧ ((Agn ((gk)) ((gQ 7)) ((gQ 8)))) ∧ True) ∨ ((v.toInt = 0) ∧ ((NAg ((gk)) ((gQ 7)) ((gQ 8)))) ∧ True)) ∧ True)) := by
  refine ConE.of (by decide +kernel) rfl (Nat.le_of_ble_eq_true rfl) rfl (fun X hX hZ hE => ?_)
  subst hX
  have p1 := pre0
  obtain ⟨v2, c3⟩ : ∃ v, I0 a0 11 = v := ⟨_, rfl⟩
  have b4 := iv7_11 hW0 ta0 c3
  have p5 := pre1
  rw [c3] at p5
  obtain ⟨v6, c7⟩ : ∃ v, I0 a0 12 = v := ⟨_, rfl⟩
  have b8 := iv7_12 hW0 ta0 c7
  have p9 := pre2
  rw [c7] at p9
  refine tr_iload_n dX7_isToldAgain_0 rfl ?_
  refine q_bipush dX7_isToldAgain_1 (by decide +kernel) ?_
  intro v10 h11
  refine q_icmp_ne 13 dX7_isToldAgain_3 (by decide) (fun h12 => ?_) (fun h12 => ?_)
  · skip
    refine tr_iload_n dX7_isToldAgain_13 rfl ?_
    refine q_bipush dX7_isToldAgain_14 (by decide +kernel) ?_
    intro v13 h14
    refine q_icmp_ne 30 dX7_isToldAgain_16 (by decide) (fun h15 => ?_) (fun h15 => ?_)
    · skip
      refine q_iconst dX7_isToldAgain_30 (by decide) ?_
      intro v16 h17
      exact tr_zret hZ dX7_isToldAgain_31 rfl (ti_b01 (by exact om_d99fa9e4 h17) (by exact om_d3de7ec9 h17)) (by decide) (by decide) ⟨v16, rfl, rfl, rfl, rfl, rfl, rfl, rfl, (by exact om_3b50ecb9 h17), (Or.inr (⟨(by first | done | with_reducible assumption | omega), (by unfold NAg; exact om_bbd0825b pre0 h11 h12 h14 h15), trivial⟩)), trivial⟩
    · skip
      refine tr_aload_n dX7_isToldAgain_19 rfl ?_
      refine q_getZ dX7_isToldAgain_20 fl7_35 (kR7 hW0 ta0) c7 ?_
      refine q_if_eq 30 dX7_isToldAgain_23 (by decide) (fun h18 => ?_) (fun h18 => ?_)
      · skip
        refine q_iconst dX7_isToldAgain_30 (by decide) ?_
        intro v19 h20
        exact tr_zret hZ dX7_isToldAgain_31 rfl (ti_b01 (by exact om_d99fa9e4 h20) (by exact om_d3de7ec9 h20)) (by decide) (by decide) ⟨v19, rfl, rfl, rfl, rfl, rfl, rfl, rfl, (by exact om_3b50ecb9 h20), (Or.inr (⟨(by first | done | with_reducible assumption | omega), (by unfold NAg; exact om_8059628f pre0 p9 h14 h15 h18), trivial⟩)), trivial⟩
      · skip
        refine q_iconst dX7_isToldAgain_26 (by decide) ?_
        intro v21 h22
        refine tr_goto 31 dX7_isToldAgain_27 (by decide) ?_
        exact tr_zret hZ dX7_isToldAgain_31 rfl (ti_b01 (by exact om_f9079521 h22) (by exact om_e6632817 h22)) (by decide) (by decide) ⟨v21, rfl, rfl, rfl, rfl, rfl, rfl, rfl, (by exact om_d753bc65 h22), (Or.inl ⟨(by first | done | with_reducible assumption | omega), (by unfold Agn; exact om_92cbb023 pre0 b4.2 b4.1 p5 b8.2 b8.1 p9 h14 h15 h18), trivial⟩), trivial⟩
  · skip
    refine tr_aload_n dX7_isToldAgain_6 rfl ?_
    refine q_getZ dX7_isToldAgain_7 fl7_31 (kR7 hW0 ta0) c3 ?_
    refine q_if_ne 26 dX7_isToldAgain_10 (by decide) (fun h23 => ?_) (fun h23 => ?_)
    · skip
      refine q_iconst dX7_isToldAgain_26 (by decide) ?_
      intro v24 h25
      refine tr_goto 31 dX7_isToldAgain_27 (by decide) ?_
      exact tr_zret hZ dX7_isToldAgain_31 rfl (ti_b01 (by exact om_f9079521 h25) (by exact om_e6632817 h25)) (by decide) (by decide) ⟨v24, rfl, rfl, rfl, rfl, rfl, rfl, rfl, (by exact om_d753bc65 h25), (Or.inl ⟨(by first | done | with_reducible assumption | omega), (by unfold Agn; exact om_ab5e4761 pre0 b4.2 b4.1 p5 b8.2 b8.1 p9 h11 h12 h23), trivial⟩), trivial⟩
    · skip
      refine tr_iload_n dX7_isToldAgain_13 rfl ?_
      refine q_bipush dX7_isToldAgain_14 (by decide +kernel) ?_
      intro v26 h27
      refine q_icmp_ne 30 dX7_isToldAgain_16 (by decide) (fun h28 => ?_) (fun h28 => ?_)
      · skip
        refine q_iconst dX7_isToldAgain_30 (by decide) ?_
        intro v29 h30
        exact tr_zret hZ dX7_isToldAgain_31 rfl (ti_b01 (by exact om_d99fa9e4 h30) (by exact om_d3de7ec9 h30)) (by decide) (by decide) ⟨v29, rfl, rfl, rfl, rfl, rfl, rfl, rfl, (by exact om_3b50ecb9 h30), (Or.inr (⟨(by first | done | with_reducible assumption | omega), (by unfold NAg; exact om_d51a540c pre0 p5 h11 h12 h23), trivial⟩)), trivial⟩
      · skip
        exfalso; exact om_18933ffd pre0 h11 h12 h27 h28
set_option maxHeartbeats 4000000 in
theorem fk_X7_isFull {l : Launch} {T : Nat → Nat} {cn : Nat} {K N : Nat → Nat} {I0 : cz_I} {R0 : cz_R} {L0 : cz_L} {d : Int} (hW0 : Wf T cn K N I0 R0 d) (gQ : Nat → Int) (gk : Int) {a0 : Nat} (ta0 : T a0 = 7) {x1 : Int32} (hx1 : 0 ≤ x1.toInt ∧ x1.toInt ≤ 10) (pre0 : ∀ b1, R0 a0 10 = some b1 → (I0 b1 3).toInt = (gQ 2)) (pre1 : ∀ b1, R0 a0 10 = some b1 → (I0 b1 5).toInt = (gQ 3)) (pre2 : ∀ b1, R0 a0 10 = some b1 → (I0 b1 9).toInt = (gQ 4)) (pre3 : ∀ b1, R0 a0 10 = some b1 → (I0 b1 11).toInt = (gQ 5)) (pre4 : ∀ b1, R0 a0 10 = some b1 → (I0 b1 13).toInt = (gQ 6)) (pre5 : x1.toInt = (gk)) : ConE l mX7_isFull [.ref a0, .int x1] cn K N I0 R0 L0 (ca_i (fun v cn' K' N' I' R' L' => cn = cn' ∧ K = K' ∧ N = N' ∧ I0 = I' ∧ R0 = R' ∧ L0 = L' ∧ (0 ≤ v.toInt ∧ v.toInt ≤ 1) ∧ (((v.toInt = 1) ∧ ((FullD ((gk)) ((gQ 2)) ((gQ 3)) ((gQ 4)) ((gQ 5)) ((gQ 6)))) ∧ True) ∨ ((v.toInt = 0) ∧ ((Fl5 ((gk)) ((gQ 3)))) ∧ ((Fl7 ((gk)) ((gQ 4)))) ∧ ((Fl8 ((gk)) ((gQ 5)))) ∧ ((Fl9 ((gk)) ((gQ 6)))) ∧ ((FlE ((gk)) ((gQ 2)))) ∧ True)) ∧ True)) := by
  refine ConE.of (by decide +kernel) rfl (Nat.le_of_ble_eq_true rfl) rfl (fun X hX hZ hE => ?_)
  subst hX
  obtain ⟨a1, d2, ta1⟩ := rf7_10 hW0 ta0
  obtain ⟨v3, c4⟩ : ∃ v, I0 a1 3 = v := ⟨_, rfl⟩
  have b5 := iv2_3 hW0 ta1 c4
  have p6 := pre0 _ d2
  rw [c4] at p6
  obtain ⟨v7, c8⟩ : ∃ v, I0 a1 5 = v := ⟨_, rfl⟩
  have b9 := iv2_5 hW0 ta1 c8
  have p10 := pre1 _ d2
  rw [c8] at p10
  obtain ⟨v11, c12⟩ : ∃ v, I0 a1 9 = v := ⟨_, rfl⟩
  have b13 := iv2_9 hW0 ta1 c12
  have p14 := pre2 _ d2
  rw [c12] at p14
  obtain ⟨v15, c16⟩ : ∃ v, I0 a1 11 = v := ⟨_, rfl⟩
  have b17 := iv2_11 hW0 ta1 c16
  have p18 := pre3 _ d2
  rw [c16] at p18
  obtain ⟨v19, c20⟩ : ∃ v, I0 a1 13 = v := ⟨_, rfl⟩
  have b21 := iv2_13 hW0 ta1 c20
  have p22 := pre4 _ d2
  rw [c20] at p22
  have p23 := pre5
  refine tr_iload_n dX7_isFull_0 rfl ?_
  by_cases h24 : x1.toInt = 5
  · skip
    refine tr_tabIn (off := 41) 42 dX7_isFull_1 (by exact om_f764bb99 pre5 h24) (by exact om_94dce41b pre5 h24) (by rw [h24]; decide +kernel) (by decide) ?_
    refine tr_aload_n dX7_isFull_42 rfl ?_
    refine tr_getR dX7_isFull_43 fl7_22 (kR7 hW0 ta0) d2 ?_
    refine q_getI dX7_isFull_46 fl7_61 (kR2 hW0 ta1) c8 ?_
    refine q_bipush dX7_isFull_49 (by decide +kernel) ?_
    intro v25 h26
    refine q_icmp_lt 58 dX7_isFull_51 (by decide) (fun h27 => ?_) (fun h27 => ?_)
    · skip
      refine q_iconst dX7_isFull_58 (by decide) ?_
      intro v28 h29
      exact tr_zret hZ dX7_isFull_59 rfl (ti_b01 (by exact om_d99fa9e4 h29) (by exact om_d3de7ec9 h29)) (by decide) (by decide) ⟨v28, rfl, rfl, rfl, rfl, rfl, rfl, rfl, (by exact om_3b50ecb9 h29), (Or.inr (⟨(by first | done | with_reducible assumption | omega), (by unfold Fl5; exact om_0fd35092 b9.2 b9.1 p10 h26 h27), (by unfold Fl7; exact om_26212e9f pre5 h24), (by unfold Fl8; exact om_d8f4412b pre5 h24), (by unfold Fl9; exact om_1c72f742 pre5 h24), (by unfold FlE; exact om_0d87c59b pre5 h24), trivial⟩)), trivial⟩
    · skip
      refine q_iconst dX7_isFull_54 (by decide) ?_
      intro v30 h31
      refine tr_goto 59 dX7_isFull_55 (by decide) ?_
      exact tr_zret hZ dX7_isFull_59 rfl (ti_b01 (by exact om_f9079521 h31) (by exact om_e6632817 h31)) (by decide) (by decide) ⟨v30, rfl, rfl, rfl, rfl, rfl, rfl, rfl, (by exact om_d753bc65 h31), (Or.inl ⟨(by first | done | with_reducible assumption | omega), (by unfold FullD; exact om_37d6bc22 pre5 b9.2 b9.1 p10 h24 h26 h27), trivial⟩), trivial⟩
  · skip
    by_cases h32 : x1.toInt = 6
    · skip
      refine tr_tabIn (off := 39) 40 dX7_isFull_1 (by exact om_a39226b3 pre5 h32) (by exact om_e27afa32 pre5 h32) (by rw [h32]; decide +kernel) (by decide) ?_
      refine q_iconst dX7_isFull_40 (by decide) ?_
      intro v33 h34
      exact tr_zret hZ dX7_isFull_41 rfl (ti_b01 (by exact om_d99fa9e4 h34) (by exact om_d3de7ec9 h34)) (by decide) (by decide) ⟨v33, rfl, rfl, rfl, rfl, rfl, rfl, rfl, (by exact om_3b50ecb9 h34), (Or.inr (⟨(by first | done | with_reducible assumption | omega), (by unfold Fl5; exact om_b6de32d5 pre5 h32), (by unfold Fl7; exact om_de48b45a pre5 h32), (by unfold Fl8; exact om_732e673b pre5 h32), (by unfold Fl9; exact om_854460c5 pre5 h32), (by unfold FlE; exact om_94c7d801 pre5 h32), trivial⟩)), trivial⟩
    · skip
      by_cases h35 : x1.toInt = 7
      · skip
        refine tr_tabIn (off := 59) 60 dX7_isFull_1 (by exact om_b6945d8c pre5 h35) (by exact om_7eab330d pre5 h35) (by rw [h35]; decide +kernel) (by decide) ?_
        refine tr_aload_n dX7_isFull_60 rfl ?_
        refine tr_getR dX7_isFull_61 fl7_22 (kR7 hW0 ta0) d2 ?_
        refine q_getI dX7_isFull_64 fl7_156 (kR2 hW0 ta1) c12 ?_
        refine q_iconst dX7_isFull_67 (by decide) ?_
        intro v36 h37
        refine q_icmp_lt 75 dX7_isFull_68 (by decide) (fun h38 => ?_) (fun h38 => ?_)
        · skip
          refine q_iconst dX7_isFull_75 (by decide) ?_
          intro v39 h40
          exact tr_zret hZ dX7_isFull_76 rfl (ti_b01 (by exact om_d99fa9e4 h40) (by exact om_d3de7ec9 h40)) (by decide) (by decide) ⟨v39, rfl, rfl, rfl, rfl, rfl, rfl, rfl, (by exact om_3b50ecb9 h40), (Or.inr (⟨(by first | done | with_reducible assumption | omega), (by unfold Fl5; exact om_15e80d67 pre5 h35), (by unfold Fl7; exact om_26b08f92 b13.2 b13.1 p14 h37 h38), (by unfold Fl8; exact om_322fa30e pre5 h35), (by unfold Fl9; exact om_25559a1d pre5 h35), (by unfold FlE; exact om_350946f4 pre5 h35), trivial⟩)), trivial⟩
        · skip
          refine q_iconst dX7_isFull_71 (by decide) ?_
          intro v41 h42
          refine tr_goto 76 dX7_isFull_72 (by decide) ?_
          exact tr_zret hZ dX7_isFull_76 rfl (ti_b01 (by exact om_f9079521 h42) (by exact om_e6632817 h42)) (by decide) (by decide) ⟨v41, rfl, rfl, rfl, rfl, rfl, rfl, rfl, (by exact om_d753bc65 h42), (Or.inl ⟨(by first | done | with_reducible assumption | omega), (by unfold FullD; exact om_08855337 pre5 b13.2 b13.1 p14 h35 h37 h38), trivial⟩), trivial⟩
      · skip
        by_cases h43 : x1.toInt = 8
        · skip
          refine tr_tabIn (off := 76) 77 dX7_isFull_1 (by exact om_4fac0507 pre5 h43) (by exact om_de750999 pre5 h43) (by rw [h43]; decide +kernel) (by decide) ?_
          refine tr_aload_n dX7_isFull_77 rfl ?_
          refine tr_getR dX7_isFull_78 fl7_22 (kR7 hW0 ta0) d2 ?_
          refine q_getI dX7_isFull_81 fl7_159 (kR2 hW0 ta1) c16 ?_
          refine q_bipush dX7_isFull_84 (by decide +kernel) ?_
          intro v44 h45
          refine q_icmp_lt 93 dX7_isFull_86 (by decide) (fun h46 => ?_) (fun h46 => ?_)
          · skip
            refine q_iconst dX7_isFull_93 (by decide) ?_
            intro v47 h48
            exact tr_zret hZ dX7_isFull_94 rfl (ti_b01 (by exact om_d99fa9e4 h48) (by exact om_d3de7ec9 h48)) (by decide) (by decide) ⟨v47, rfl, rfl, rfl, rfl, rfl, rfl, rfl, (by exact om_3b50ecb9 h48), (Or.inr (⟨(by first | done | with_reducible assumption | omega), (by unfold Fl5; exact om_b2e2ceb6 pre5 h43), (by unfold Fl7; exact om_bb1b8503 pre5 h43), (by unfold Fl8; exact om_b3d6e00b b17.2 b17.1 p18 h45 h46), (by unfold Fl9; exact om_80330c22 pre5 h43), (by unfold FlE; exact om_4d69553e pre5 h43), trivial⟩)), trivial⟩
          · skip
            refine q_iconst dX7_isFull_89 (by decide) ?_
            intro v49 h50
            refine tr_goto 94 dX7_isFull_90 (by decide) ?_
            exact tr_zret hZ dX7_isFull_94 rfl (ti_b01 (by exact om_f9079521 h50) (by exact om_e6632817 h50)) (by decide) (by decide) ⟨v49, rfl, rfl, rfl, rfl, rfl, rfl, rfl, (by exact om_d753bc65 h50), (Or.inl ⟨(by first | done | with_reducible assumption | omega), (by unfold FullD; exact om_f4fa969e pre5 b17.2 b17.1 p18 h43 h45 h46), trivial⟩), trivial⟩
        · skip
          by_cases h51 : x1.toInt = 9
          · skip
            refine tr_tabIn (off := 94) 95 dX7_isFull_1 (by exact om_4e85e0d7 pre5 h51) (by exact om_2dc8e130 pre5 h51) (by rw [h51]; decide +kernel) (by decide) ?_
            refine tr_aload_n dX7_isFull_95 rfl ?_
            refine tr_getR dX7_isFull_96 fl7_22 (kR7 hW0 ta0) d2 ?_
            refine q_getI dX7_isFull_99 fl7_162 (kR2 hW0 ta1) c20 ?_
            refine q_iconst dX7_isFull_102 (by decide) ?_
            intro v52 h53
            refine q_icmp_lt 110 dX7_isFull_103 (by decide) (fun h54 => ?_) (fun h54 => ?_)
            · skip
              refine q_iconst dX7_isFull_110 (by decide) ?_
              intro v55 h56
              exact tr_zret hZ dX7_isFull_111 rfl (ti_b01 (by exact om_d99fa9e4 h56) (by exact om_d3de7ec9 h56)) (by decide) (by decide) ⟨v55, rfl, rfl, rfl, rfl, rfl, rfl, rfl, (by exact om_3b50ecb9 h56), (Or.inr (⟨(by first | done | with_reducible assumption | omega), (by unfold Fl5; exact om_a05623e1 pre5 h51), (by unfold Fl7; exact om_a2e9d891 pre5 h51), (by unfold Fl8; exact om_e7bcbac2 pre5 h51), (by unfold Fl9; exact om_6fbc233a b21.2 b21.1 p22 h53 h54), (by unfold FlE; exact om_6c571424 pre5 h51), trivial⟩)), trivial⟩
            · skip
              refine q_iconst dX7_isFull_106 (by decide) ?_
              intro v57 h58
              refine tr_goto 111 dX7_isFull_107 (by decide) ?_
              exact tr_zret hZ dX7_isFull_111 rfl (ti_b01 (by exact om_f9079521 h58) (by exact om_e6632817 h58)) (by decide) (by decide) ⟨v57, rfl, rfl, rfl, rfl, rfl, rfl, rfl, (by exact om_d753bc65 h58), (Or.inl ⟨(by first | done | with_reducible assumption | omega), (by unfold FullD; exact om_5bac9a02 pre5 b21.2 b21.1 p22 h51 h53 h54), trivial⟩), trivial⟩
          · skip
            by_cases h59 : x1.toInt = 10
            · skip
              refine tr_tabIn (off := 39) 40 dX7_isFull_1 (by exact om_0f0fe5ca pre5 h59) (by exact om_67dffd61 pre5 h59) (by rw [h59]; decide +kernel) (by decide) ?_
              refine q_iconst dX7_isFull_40 (by decide) ?_
              intro v60 h61
              exact tr_zret hZ dX7_isFull_41 rfl (ti_b01 (by exact om_d99fa9e4 h61) (by exact om_d3de7ec9 h61)) (by decide) (by decide) ⟨v60, rfl, rfl, rfl, rfl, rfl, rfl, rfl, (by exact om_3b50ecb9 h61), (Or.inr (⟨(by first | done | with_reducible assumption | omega), (by unfold Fl5; exact om_65f7631d pre5 h59), (by unfold Fl7; exact om_621f7ba7 pre5 h59), (by unfold Fl8; exact om_7f14e00d pre5 h59), (by unfold Fl9; exact om_a424244a pre5 h59), (by unfold FlE; exact om_fccbafcd pre5 h59), trivial⟩)), trivial⟩
            · skip
              refine tr_tabOut 112 dX7_isFull_1 (by exact om_393b4cea hx1.2 hx1.1 pre5 h24 h32 h35 h43 h51 h59) (by decide) ?_
              refine tr_aload_n dX7_isFull_112 rfl ?_
              refine tr_getR dX7_isFull_113 fl7_22 (kR7 hW0 ta0) d2 ?_
              refine q_getI dX7_isFull_116 fl7_165 (kR2 hW0 ta1) c4 ?_
              refine q_bipush dX7_isFull_119 (by decide +kernel) ?_
              intro v62 h63
              refine q_icmp_lt 128 dX7_isFull_121 (by decide) (fun h64 => ?_) (fun h64 => ?_)
              · skip
                refine q_iconst dX7_isFull_128 (by decide) ?_
                intro v65 h66
                exact tr_zret hZ dX7_isFull_129 rfl (ti_b01 (by exact om_d99fa9e4 h66) (by exact om_d3de7ec9 h66)) (by decide) (by decide) ⟨v65, rfl, rfl, rfl, rfl, rfl, rfl, rfl, (by exact om_3b50ecb9 h66), (Or.inr (⟨(by first | done | with_reducible assumption | omega), (by unfold Fl5; exact om_27e6c172 pre5 h24 h32 h35 h43 h51 h59), (by unfold Fl7; exact om_09f5b389 pre5 h35 h43 h51 h59), (by unfold Fl8; exact om_df50da12 pre5 h43 h51 h59), (by unfold Fl9; exact om_89e02d2d pre5 h51 h59), (by unfold FlE; exact om_64b64f79 b5.2 b5.1 p6 h63 h64), trivial⟩)), trivial⟩
              · skip
                refine q_iconst dX7_isFull_124 (by decide) ?_
                intro v67 h68
                refine tr_goto 129 dX7_isFull_125 (by decide) ?_
                exact tr_zret hZ dX7_isFull_129 rfl (ti_b01 (by exact om_f9079521 h68) (by exact om_e6632817 h68)) (by decide) (by decide) ⟨v67, rfl, rfl, rfl, rfl, rfl, rfl, rfl, (by exact om_d753bc65 h68), (Or.inl ⟨(by first | done | with_reducible assumption | omega), (by unfold FullD; exact om_46b89883 hx1.2 hx1.1 pre5 b5.2 b5.1 p6 h24 h32 h35 h43 h51 h59 h63 h64), trivial⟩), trivial⟩
def wik_X7_readLine : List Nat := [128, 129, 131, 133, 135, 137, 139, 141, 192, 193, 194, 195, 256, 257, 258, 259, 260, 261, 320, 321, 322, 323, 384, 450, 451, 452, 454, 455, 456, 457, 459, 460, 463, 464, 1215, 1343, 1599]
def wrk_X7_readLine : List Nat := []
def wlk_X7_readLine : List Nat := [453, 1663, 1727]
set_option maxHeartbeats 4000000 in
theorem fk_X7_readLine {l : Launch} {T : Nat → Nat} {cn : Nat} {K N : Nat → Nat} {I0 : cz_I} {R0 : cz_R} {L0 : cz_L} {d : Int} (hW0 : Wf T cn K N I0 R0 d) (gB : cz_B) (gs : Int) (gQ : Nat → Int) {a0 : Nat} (ta0 : T a0 = 7) (hT : ∀ t, R0 a0 0 = some t → Tx I0 t gB) (hN : NmC L0 R0 a0 gQ) (pre0 : (I0 a0 2).toInt = (tkN gB gs)) (pre1 : (I0 a0 4).toInt = (tkS gB gs)) (pre2 : (I0 a0 3).toInt = (tkK gB gs)) (pre3 : (AtW ((tkK gB gs)) ((L0 a0 5).toInt) ((tkW gB gs)))) (pre4 : (AtV ((tkK gB gs)) ((I0 a0 6).toInt) ((tkV gB gs)))) (pre5 : (I0 a0 1).toInt = (gB.2)) (pre6 : ∀ b1, R0 a0 10 = some b1 → (I0 b1 0).toInt = (gQ 0)) (pre7 : ∀ b1, R0 a0 10 = some b1 → (I0 b1 1).toInt = (gQ 1)) (pre8 : ∀ b1, R0 a0 10 = some b1 → (I0 b1 3).toInt = (gQ 2)) (pre9 : ∀ b1, R0 a0 10 = some b1 → (I0 b1 5).toInt = (gQ 3)) (pre10 : ∀ b1, R0 a0 10 = some b1 → (I0 b1 9).toInt = (gQ 4)) (pre11 : ∀ b1, R0 a0 10 = some b1 → (I0 b1 11).toInt = (gQ 5)) (pre12 : ∀ b1, R0 a0 10 = some b1 → (I0 b1 13).toInt = (gQ 6)) (pre13 : (I0 a0 11).toInt = (gQ 7)) (pre14 : (I0 a0 12).toInt = (gQ 8)) (pre15 : ∀ b1, R0 a0 10 = some b1 → (I0 b1 7).toInt = (gQ 9)) (pre16 : (UpB ((gQ 9)) ((gQ 3)))) : ConE l mX7_readLine [.ref a0] cn K N I0 R0 L0 (ca_i (fun v cn' K' N' I' R' L' => cn = cn' ∧ K = K' ∧ N = N' ∧ R0 = R' ∧ St T cn K N d wik_X7_readLine wrk_X7_readLine I0 R0 I' R0 ∧ LgS T wlk_X7_readLine L0 L' ∧ (0 ≤ v.toInt ∧ v.toInt ≤ 1) ∧ (∀ al, R0 a0 10 = some al → FrK R0 al (fun _ => True) T I0 I') ∧ (∀ dr, R0 a0 10 = some dr → FrO 2 dr T I0 I') ∧ (((v.toInt = 1) ∧ ((I' a0 15).toInt = (I0 a0 15).toInt) ∧ ((lnF gB gQ gs) = 0) ∧ (∀ b1, R0 a0 10 = some b1 → (I' b1 0).toInt = (lnQ gB gQ gs 0)) ∧ (∀ b1, R0 a0 10 = some b1 → (I' b1 1).toInt = (lnQ gB gQ gs 1)) ∧ (∀ b1, R0 a0 10 = some b1 → (I' b1 3).toInt = (lnQ gB gQ gs 2)) ∧ (∀ b1, R0 a0 10 = some b1 → (I' b1 5).toInt = (lnQ gB gQ gs 3)) ∧ (∀ b1, R0 a0 10 = some b1 → (I' b1 9).toInt = (lnQ gB gQ gs 4)) ∧ (∀ b1, R0 a0 10 = some b1 → (I' b1 11).toInt = (lnQ gB gQ gs 5)) ∧ (∀ b1, R0 a0 10 = some b1 → (I' b1 13).toInt = (lnQ gB gQ gs 6)) ∧ ((I' a0 11).toInt = (lnQ gB gQ gs 7)) ∧ ((I' a0 12).toInt = (lnQ gB gQ gs 8)) ∧ ((I' a0 2).toInt = (tkN gB (lnS gB gQ gs))) ∧ ((I' a0 4).toInt = (tkS gB (lnS gB gQ gs))) ∧ ((I' a0 3).toInt = (tkK gB (lnS gB gQ gs))) ∧ ((AtW ((tkK gB (lnS gB gQ gs))) ((L' a0 5).toInt) ((tkW gB (lnS gB gQ gs))))) ∧ ((AtV ((tkK gB (lnS gB gQ gs))) ((I' a0 6).toInt) ((tkV gB (lnS gB gQ gs))))) ∧ (∀ b1, R0 a0 10 = some b1 → (I' b1 7).toInt = (lnQ gB gQ gs 9)) ∧ (NmC L' R0 a0 (lnQ gB gQ gs)) ∧ (∀ E al, R0 a0 10 = some al → AlT R0 al → AlC I0 R0 al gQ E → AlC I' R0 al (lnQ gB gQ gs) (lnE gB gQ gs E)) ∧ True) ∨ ((v.toInt = 0) ∧ ((lnF gB gQ gs) ≠ 0) ∧ ((I' a0 15).toInt = (lnF gB gQ gs)) ∧ ((I' a0 16).toInt = (lnP gB gQ gs)) ∧ True)) ∧ True)) := by
  refine ConE.of (by decide +kernel) rfl (Nat.le_of_ble_eq_true rfl) rfl (fun X hX hZ hE => ?_)
  subst hX
  have hS0 : St T cn K N d wik_X7_readLine wrk_X7_readLine I0 R0 I0 R0 := St.rf0 hW0
  have hL0 : LgS T wlk_X7_readLine L0 L0 := LgS.rf0
  obtain ⟨v1, c2⟩ : ∃ v, I0 a0 2 = v := ⟨_, rfl⟩
  have b3 := iv7_2 hS0.1 ta0 c2
  have p4 := pre0
  rw [c2] at p4
  obtain ⟨v5, c6⟩ : ∃ v, I0 a0 4 = v := ⟨_, rfl⟩
  have b7 := iv7_4 hS0.1 ta0 c6
  have p8 := pre1
  rw [c6] at p8
  obtain ⟨v9, c10⟩ : ∃ v, I0 a0 3 = v := ⟨_, rfl⟩
  have b11 := iv7_3 hS0.1 ta0 c10
  have p12 := pre2
  rw [c10] at p12
  obtain ⟨y13, c14⟩ : ∃ v, L0 a0 5 = v := ⟨_, rfl⟩
  have p15 := pre3
  rw [c14] at p15
  obtain ⟨v16, c17⟩ : ∃ v, I0 a0 6 = v := ⟨_, rfl⟩
  have p18 := pre4
  rw [c17] at p18
  obtain ⟨v19, c20⟩ : ∃ v, I0 a0 1 = v := ⟨_, rfl⟩
  have b21 := iv7_1 hW0 ta0 c20
  have p22 := pre5
  rw [c20] at p22
  obtain ⟨a23, d24, ta23⟩ := rf7_10 hW0 ta0
  obtain ⟨v25, c26⟩ : ∃ v, I0 a23 0 = v := ⟨_, rfl⟩
  have b27 := iv2_0 hS0.1 ta23 c26
  have p28 := pre6 _ d24
  rw [c26] at p28
  obtain ⟨v29, c30⟩ : ∃ v, I0 a23 1 = v := ⟨_, rfl⟩
  have b31 := iv2_1 hS0.1 ta23 c30
  have p32 := pre7 _ d24
  rw [c30] at p32
  obtain ⟨v33, c34⟩ : ∃ v, I0 a23 3 = v := ⟨_, rfl⟩
  have b35 := iv2_3 hS0.1 ta23 c34
  have p36 := pre8 _ d24
  rw [c34] at p36
  obtain ⟨v37, c38⟩ : ∃ v, I0 a23 5 = v := ⟨_, rfl⟩
  have b39 := iv2_5 hS0.1 ta23 c38
  have p40 := pre9 _ d24
  rw [c38] at p40
  obtain ⟨v41, c42⟩ : ∃ v, I0 a23 9 = v := ⟨_, rfl⟩
  have b43 := iv2_9 hS0.1 ta23 c42
  have p44 := pre10 _ d24
  rw [c42] at p44
  obtain ⟨v45, c46⟩ : ∃ v, I0 a23 11 = v := ⟨_, rfl⟩
  have b47 := iv2_11 hS0.1 ta23 c46
  have p48 := pre11 _ d24
  rw [c46] at p48
  obtain ⟨v49, c50⟩ : ∃ v, I0 a23 13 = v := ⟨_, rfl⟩
  have b51 := iv2_13 hS0.1 ta23 c50
  have p52 := pre12 _ d24
  rw [c50] at p52
  obtain ⟨v53, c54⟩ : ∃ v, I0 a0 11 = v := ⟨_, rfl⟩
  have b55 := iv7_11 hS0.1 ta0 c54
  have p56 := pre13
  rw [c54] at p56
  obtain ⟨v57, c58⟩ : ∃ v, I0 a0 12 = v := ⟨_, rfl⟩
  have b59 := iv7_12 hS0.1 ta0 c58
  have p60 := pre14
  rw [c58] at p60
  obtain ⟨v61, c62⟩ : ∃ v, I0 a23 7 = v := ⟨_, rfl⟩
  have p63 := pre15 _ d24
  rw [c62] at p63
  have p64 := pre16
  obtain ⟨v65, c66⟩ : ∃ v, I0 a0 15 = v := ⟨_, rfl⟩
  have hO0 : FrO 2 a23 T I0 I0 := FrO.rf
  obtain ⟨a67, d68, ta67⟩ := rf2_8 hW0 ta23
  obtain ⟨a69, d70, ta69⟩ := rf2_14 hW0 ta23
  have hF := lnF_ch gB gQ gs
  have hP := lnP_ch gB gQ gs
  refine tr_aload_n dX7_readLine_0 rfl ?_
  refine q_callVi hE (M' := mX7_sortOfWord) (as := []) dX7_readLine_1 lk7_168 inX7_sortOfWord seX7_sortOfWord myX7_sortOfWord (by decide) ⟨by decide, by decide⟩ rfl (kR7 hS0.1 ta0) (Nat.le_of_ble_eq_true rfl) rfl rfl (by decide) (by decide) (fk_X7_sortOfWord hS0.1 (gB) (gs) ta0 (by (try rw [c10]); first | done | with_reducible assumption | omega) (by (try rw [c14]); first | done | assumption)) ?_
  rintro v76 cn' K' N' I71 R72 L73 ⟨rfl, rfl, rfl, rfl, rfl, rfl, h77, p78, -⟩
  refine tr_istore_n dX7_readLine_4 (by decide) (by decide) ?_
  refine tr_iload_n dX7_readLine_5 rfl ?_
  refine q_iconst dX7_readLine_6 (by decide) ?_
  intro v79 h80
  refine q_icmp_ne 16 dX7_readLine_7 (by decide) (fun h81 => ?_) (fun h81 => ?_)
  · skip
    replace hF := hF.neg (by exact om_81608096 p78 h80 h81)
    replace hP := hP.neg (by exact om_81608096 p78 h80 h81)
    refine tr_aload_n dX7_readLine_16 rfl ?_
    refine tr_iload_n dX7_readLine_17 rfl ?_
    refine q_callVi hE (M' := mX7_isToldAgain) (as := [_]) dX7_readLine_18 lk7_171 inX7_isToldAgain seX7_isToldAgain myX7_isToldAgain (by decide) ⟨by decide, by decide⟩ rfl (kR7 hS0.1 ta0) (Nat.le_of_ble_eq_true rfl) rfl rfl (by decide) (by decide) (fk_X7_isToldAgain hS0.1 (gQ) ((srt gB gs)) ta0 (by first | done | with_reducible assumption | omega) (by (try rw [c54]); first | done | with_reducible assumption | omega) (by (try rw [c58]); first | done | with_reducible assumption | omega)) ?_
    rintro v87 cn' K' N' I82 R83 L84 ⟨rfl, rfl, rfl, rfl, rfl, rfl, h88, dj89, -⟩
    rcases dj89 with ⟨p90, p91, -⟩ | ⟨p92, p93, -⟩
    · skip
      replace hF := hF.pos p91
      replace hP := hP.pos p91
      refine q_if_eq 30 dX7_readLine_21 (by decide) (fun h94 => ?_) (fun h94 => ?_)
      · skip
        exfalso; exact om_3624102b p90 h94
      · skip
        refine tr_aload_n dX7_readLine_24 rfl ?_
        refine q_iconst dX7_readLine_25 (by decide) ?_
        intro v95 h96
        refine q_callVi hE (M' := mX7_fail) (as := [_]) dX7_readLine_26 lk7_64 inX7_fail seX7_fail myX7_fail (by decide) ⟨by decide, by decide⟩ rfl (kR7 hS0.1 ta0) (Nat.le_of_ble_eq_true rfl) rfl rfl (by decide) (by decide) (fk_X7_fail hS0.1  ta0 (by exact om_7e011daf h96)) ?_
        rintro v102 cn' K' N' I97 R98 L99 ⟨rfl, rfl, rfl, rfl, rfl, g100, h103, p104, p105, p106, -⟩
        have hS107 := hS0.tr g100 (by decide +kernel) (by decide +kernel)
        have c108 : I97 a0 2 = v1 := (g100.cell ta0 (by decide +kernel)).trans c2
        have c109 : I97 a0 4 = v5 := (g100.cell ta0 (by decide +kernel)).trans c6
        have c110 : I97 a0 3 = v9 := (g100.cell ta0 (by decide +kernel)).trans c10
        have c111 : I97 a0 6 = v16 := (g100.cell ta0 (by decide +kernel)).trans c17
        have c112 : I97 a23 0 = v25 := (g100.cell ta23 (by decide +kernel)).trans c26
        have c113 : I97 a23 1 = v29 := (g100.cell ta23 (by decide +kernel)).trans c30
        have c114 : I97 a23 3 = v33 := (g100.cell ta23 (by decide +kernel)).trans c34
        have c115 : I97 a23 5 = v37 := (g100.cell ta23 (by decide +kernel)).trans c38
        have c116 : I97 a23 9 = v41 := (g100.cell ta23 (by decide +kernel)).trans c42
        have c117 : I97 a23 11 = v45 := (g100.cell ta23 (by decide +kernel)).trans c46
        have c118 : I97 a23 13 = v49 := (g100.cell ta23 (by decide +kernel)).trans c50
        have c119 : I97 a0 11 = v53 := (g100.cell ta0 (by decide +kernel)).trans c54
        have c120 : I97 a0 12 = v57 := (g100.cell ta0 (by decide +kernel)).trans c58
        have c121 : I97 a23 7 = v61 := (g100.cell ta23 (by decide +kernel)).trans c62
        have hO122 : FrO 2 a23 T I0 I97 := hO0.st g100 (by decide +kernel)
        obtain ⟨v123, c124⟩ : ∃ v, I97 a0 15 = v := ⟨_, rfl⟩
        rw [c124] at p105
        obtain ⟨v125, c126⟩ : ∃ v, I97 a0 16 = v := ⟨_, rfl⟩
        rw [c126] at p106
        rw [c6] at p106
        have eF := hF.eq
        have eP := hP.eq
        exact tr_zret hZ dX7_readLine_29 rfl (ti_b01 (by exact om_d99fa9e4 p104) (by exact om_d3de7ec9 p104)) (by decide) (by decide) ⟨v102, rfl, rfl, rfl, rfl, rfl, hS107, hL0, (by exact om_be53a44c h103), (fun al h1 => by obtain rfl := Option.some.inj (d24.symm.trans h1); exact ((FrK.rf (R := R0) (al := a23) (W := fun _ => True) (T := T)).st g100 (by decide +kernel))), (fun dr hd => (Option.some.inj (d24.symm.trans hd)) ▸ hO122), (Or.inr (⟨(by first | done | with_reducible assumption | omega), (by first | done | with_reducible assumption | exact om_c731b21c eF), (by (try rw [c124]); first | done | with_reducible assumption | exact om_fc35f838 h96 p105 eF), (by (try rw [c126]); first | done | with_reducible assumption | exact om_3998a42e p8 p106 eP), trivial⟩)), trivial⟩
    · skip
      replace hF := hF.neg p93
      replace hP := hP.neg p93
      refine q_if_eq 30 dX7_readLine_21 (by decide) (fun h127 => ?_) (fun h127 => ?_)
      · skip
        refine tr_aload_n dX7_readLine_30 rfl ?_
        refine tr_iload_n dX7_readLine_31 rfl ?_
        refine q_callVi hE (M' := mX7_isFull) (as := [_]) dX7_readLine_32 lk7_174 inX7_isFull seX7_isFull myX7_isFull (by decide) ⟨by decide, by decide⟩ rfl (kR7 hS0.1 ta0) (Nat.le_of_ble_eq_true rfl) rfl rfl (by decide) (by decide) (fk_X7_isFull hS0.1 (gQ) ((srt gB gs)) ta0 (by exact om_e5faa340 h77.2 h77.1 p78 h80 h81) (fun q0 z0 => by obtain rfl := Option.some.inj ((d24).symm.trans z0); (try rw [c34]); first | done | with_reducible assumption | omega) (fun q0 z0 => by obtain rfl := Option.some.inj ((d24).symm.trans z0); (try rw [c38]); first | done | with_reducible assumption | omega) (fun q0 z0 => by obtain rfl := Option.some.inj ((d24).symm.trans z0); (try rw [c42]); first | done | with_reducible assumption | omega) (fun q0 z0 => by obtain rfl := Option.some.inj ((d24).symm.trans z0); (try rw [c46]); first | done | with_reducible assumption | omega) (fun q0 z0 => by obtain rfl := Option.some.inj ((d24).symm.trans z0); (try rw [c50]); first | done | with_reducible assumption | omega) (by first | done | with_reducible assumption | omega)) ?_
        rintro v133 cn' K' N' I128 R129 L130 ⟨rfl, rfl, rfl, rfl, rfl, rfl, h134, dj135, -⟩
        rcases dj135 with ⟨p136, p137, -⟩ | ⟨p138, p139, p140, p141, p142, p143, -⟩
        · skip
          replace hF := hF.pos p137
          replace hP := hP.pos p137
          refine q_if_eq 44 dX7_readLine_35 (by decide) (fun h144 => ?_) (fun h144 => ?_)
          · skip
            exfalso; exact om_3624102b p136 h144
          · skip
            refine tr_aload_n dX7_readLine_38 rfl ?_
            refine q_iconst dX7_readLine_39 (by decide) ?_
            intro v145 h146
            refine q_callVi hE (M' := mX7_fail) (as := [_]) dX7_readLine_40 lk7_64 inX7_fail seX7_fail myX7_fail (by decide) ⟨by decide, by decide⟩ rfl (kR7 hS0.1 ta0) (Nat.le_of_ble_eq_true rfl) rfl rfl (by decide) (by decide) (fk_X7_fail hS0.1  ta0 (by exact om_054a361c h146)) ?_
            rintro v152 cn' K' N' I147 R148 L149 ⟨rfl, rfl, rfl, rfl, rfl, g150, h153, p154, p155, p156, -⟩
            have hS157 := hS0.tr g150 (by decide +kernel) (by decide +kernel)
            have c158 : I147 a0 2 = v1 := (g150.cell ta0 (by decide +kernel)).trans c2
            have c159 : I147 a0 4 = v5 := (g150.cell ta0 (by decide +kernel)).trans c6
            have c160 : I147 a0 3 = v9 := (g150.cell ta0 (by decide +kernel)).trans c10
            have c161 : I147 a0 6 = v16 := (g150.cell ta0 (by decide +kernel)).trans c17
            have c162 : I147 a23 0 = v25 := (g150.cell ta23 (by decide +kernel)).trans c26
            have c163 : I147 a23 1 = v29 := (g150.cell ta23 (by decide +kernel)).trans c30
            have c164 : I147 a23 3 = v33 := (g150.cell ta23 (by decide +kernel)).trans c34
            have c165 : I147 a23 5 = v37 := (g150.cell ta23 (by decide +kernel)).trans c38
            have c166 : I147 a23 9 = v41 := (g150.cell ta23 (by decide +kernel)).trans c42
            have c167 : I147 a23 11 = v45 := (g150.cell ta23 (by decide +kernel)).trans c46
            have c168 : I147 a23 13 = v49 := (g150.cell ta23 (by decide +kernel)).trans c50
            have c169 : I147 a0 11 = v53 := (g150.cell ta0 (by decide +kernel)).trans c54
            have c170 : I147 a0 12 = v57 := (g150.cell ta0 (by decide +kernel)).trans c58
            have c171 : I147 a23 7 = v61 := (g150.cell ta23 (by decide +kernel)).trans c62
            have hO172 : FrO 2 a23 T I0 I147 := hO0.st g150 (by decide +kernel)
            obtain ⟨v173, c174⟩ : ∃ v, I147 a0 15 = v := ⟨_, rfl⟩
            rw [c174] at p155
            obtain ⟨v175, c176⟩ : ∃ v, I147 a0 16 = v := ⟨_, rfl⟩
            rw [c176] at p156
            rw [c6] at p156
            have eF := hF.eq
            have eP := hP.eq
            exact tr_zret hZ dX7_readLine_43 rfl (ti_b01 (by exact om_d99fa9e4 p154) (by exact om_d3de7ec9 p154)) (by decide) (by decide) ⟨v152, rfl, rfl, rfl, rfl, rfl, hS157, hL0, (by exact om_be53a44c h153), (fun al h1 => by obtain rfl := Option.some.inj (d24.symm.trans h1); exact ((FrK.rf (R := R0) (al := a23) (W := fun _ => True) (T := T)).st g150 (by decide +kernel))), (fun dr hd => (Option.some.inj (d24.symm.trans hd)) ▸ hO172), (Or.inr (⟨(by first | done | with_reducible assumption | omega), (by first | done | with_reducible assumption | exact om_64c62efe eF), (by (try rw [c174]); first | done | with_reducible assumption | exact om_7fd518bd h146 p155 eF), (by (try rw [c176]); first | done | with_reducible assumption | exact om_3998a42e p8 p156 eP), trivial⟩)), trivial⟩
        · skip
          replace hF := hF.neg (nfull p139 p140 p141 p142 p143)
          replace hP := hP.neg (nfull p139 p140 p141 p142 p143)
          refine q_if_eq 44 dX7_readLine_35 (by decide) (fun h177 => ?_) (fun h177 => ?_)
          · skip
            refine tr_iload_n dX7_readLine_44 rfl ?_
            refine q_bipush dX7_readLine_45 (by decide +kernel) ?_
            intro v178 h179
            refine q_icmp_eq 64 dX7_readLine_47 (by decide) (fun h180 => ?_) (fun h180 => ?_)
            · skip
              replace hF := hF.neg (by exact om_38344044 b55.2 b55.1 p56 p78 h179 h180)
              replace hP := hP.neg (by exact om_38344044 b55.2 b55.1 p56 p78 h179 h180)
              refine tr_aload_n dX7_readLine_64 rfl ?_
              refine q_callVv hE (M' := mX7_step) (as := []) dX7_readLine_65 lk7_51 inX7_step seX7_step myX7_step (by decide) ⟨by decide, by decide⟩ rfl (kR7 hS0.1 ta0) (Nat.le_of_ble_eq_true rfl) rfl rfl (by decide) (by decide) (fk_X7_step hS0.1 (gB) ((tkN gB gs)) ta0 (TxA.kp hT hS0 ta0 rfl rfl rfl (by decide +kernel) (by decide +kernel)) (by (try rw [c2]); first | done | with_reducible assumption | omega) (by (try rw [c20]); first | done | with_reducible assumption | omega)) ?_
              rintro cn' K' N' I181 R182 L183 ⟨rfl, rfl, rfl, rfl, g184, gl185, p187, p188, p189, p190, p191, -⟩
              have hS192 := hS0.tr g184 (by decide +kernel) (by decide +kernel)
              have c193 : I181 a23 0 = v25 := (g184.cell ta23 (by decide +kernel)).trans c26
              have c194 : I181 a23 1 = v29 := (g184.cell ta23 (by decide +kernel)).trans c30
              have c195 : I181 a23 3 = v33 := (g184.cell ta23 (by decide +kernel)).trans c34
              have c196 : I181 a23 5 = v37 := (g184.cell ta23 (by decide +kernel)).trans c38
              have c197 : I181 a23 9 = v41 := (g184.cell ta23 (by decide +kernel)).trans c42
              have c198 : I181 a23 11 = v45 := (g184.cell ta23 (by decide +kernel)).trans c46
              have c199 : I181 a23 13 = v49 := (g184.cell ta23 (by decide +kernel)).trans c50
              have c200 : I181 a0 11 = v53 := (g184.cell ta0 (by decide +kernel)).trans c54
              have c201 : I181 a0 12 = v57 := (g184.cell ta0 (by decide +kernel)).trans c58
              have c202 : I181 a23 7 = v61 := (g184.cell ta23 (by decide +kernel)).trans c62
              have c203 : I181 a0 15 = v65 := (g184.cell ta0 (by decide +kernel)).trans c66
              have hO204 : FrO 2 a23 T I0 I181 := hO0.st g184 (by decide +kernel)
              have hL205 := hL0.tr gl185 (by decide +kernel)
              have hN206 : NmC L183 R0 a0 gQ := NmC.kp hN gl185 hS192.1 ta0 (by decide +kernel) (by decide +kernel)
              obtain ⟨v207, c208⟩ : ∃ v, I181 a0 2 = v := ⟨_, rfl⟩
              have b209 := iv7_2 hS192.1 ta0 c208
              rw [c208] at p187
              obtain ⟨v210, c211⟩ : ∃ v, I181 a0 4 = v := ⟨_, rfl⟩
              have b212 := iv7_4 hS192.1 ta0 c211
              rw [c211] at p188
              obtain ⟨v213, c214⟩ : ∃ v, I181 a0 3 = v := ⟨_, rfl⟩
              have b215 := iv7_3 hS192.1 ta0 c214
              rw [c214] at p189
              obtain ⟨y216, c217⟩ : ∃ v, L183 a0 5 = v := ⟨_, rfl⟩
              rw [c217] at p190
              obtain ⟨v218, c219⟩ : ∃ v, I181 a0 6 = v := ⟨_, rfl⟩
              rw [c219] at p191
              refine tr_iload_n dX7_readLine_68 rfl ?_
              by_cases h220 : v76.toInt = 10
              · skip
                refine tr_tabIn (off := 39) 108 dX7_readLine_69 (by exact om_53ecfe25 p78 h179 h180) (by exact om_407e3998 p78 h179 h180) (by rw [h220]; decide +kernel) (by decide) ?_
                obtain ⟨w221, w222, w223, w224, w225, w226, w227, w228, w229, w230, w231, w232⟩ := lnl_10 (B := gB) (Q := gQ) (s := gs) (by exact om_149506ab p78 h179 h180)
                have w233 : lnQ gB gQ gs 9 = gQ 9 := lnq9_o (by exact om_bd004896 p78 h179 h180)
                refine tr_aload_n dX7_readLine_108 rfl ?_
                refine q_callVi hE (M' := mX7_readAlp) (as := []) dX7_readLine_109 lk7_177 inX7_readAlp seX7_readAlp myX7_readAlp (by decide) ⟨by decide, by decide⟩ rfl (kR7 hS192.1 ta0) (Nat.le_of_ble_eq_true rfl) rfl rfl (by decide) (by decide) (fk_X7_readAlp hS192.1 (gB) ((tkN gB gs)) (gQ) ta0 (TxA.kp hT hS192 ta0 rfl rfl rfl (by decide +kernel) (by decide +kernel)) (by (try rw [c208]); first | done | with_reducible assumption | omega) (by (try rw [c211]); first | done | with_reducible assumption | omega) (by (try rw [c214]); first | done | with_reducible assumption | omega) (by (try rw [c217]); first | done | assumption) (by (try rw [c219]); first | done | assumption) (by (try rw [((hS192.cell ta0 (by decide +kernel)).trans c20)]); first | done | with_reducible assumption | omega)) ?_
                rintro v239 cn' K' N' I234 R235 L236 ⟨rfl, rfl, rfl, rfl, g237, gl238, h240, rp241, rp242, dj243, -⟩
                have hS244 := hS192.tr g237 (by decide +kernel) (by decide +kernel)
                have c245 : I234 a23 3 = v33 := (g237.cell ta23 (by decide +kernel)).trans c195
                have c246 : I234 a23 5 = v37 := (g237.cell ta23 (by decide +kernel)).trans c196
                have c247 : I234 a23 9 = v41 := (g237.cell ta23 (by decide +kernel)).trans c197
                have c248 : I234 a23 11 = v45 := (g237.cell ta23 (by decide +kernel)).trans c198
                have c249 : I234 a23 13 = v49 := (g237.cell ta23 (by decide +kernel)).trans c199
                have c250 : I234 a0 12 = v57 := (g237.cell ta0 (by decide +kernel)).trans c201
                have c251 : I234 a23 7 = v61 := (g237.cell ta23 (by decide +kernel)).trans c202
                have hO252 : FrO 2 a23 T I0 I234 := hO204.tr (rp242 _ d24)
                have hL253 := hL205.tr gl238 (by decide +kernel)
                have hN254 : NmC L236 R0 a0 gQ := NmC.kp hN206 gl238 hS244.1 ta0 (by decide +kernel) (by decide +kernel)
                rcases dj243 with ⟨p255, p256, p257, p258, p259, p260, p261, p262, p263, p264, p265, rp266, -⟩ | ⟨p267, p268, p269, p270, -⟩
                · skip
                  obtain ⟨v271, c272⟩ : ∃ v, I234 a0 15 = v := ⟨_, rfl⟩
                  rw [c272] at p256
                  rw [c203] at p256
                  obtain ⟨v273, c274⟩ : ∃ v, I234 a23 0 = v := ⟨_, rfl⟩
                  have b275 := iv2_0 hS244.1 ta23 c274
                  have p276 := p258 _ d24
                  clear p258
                  rw [c274] at p276
                  obtain ⟨v277, c278⟩ : ∃ v, I234 a23 1 = v := ⟨_, rfl⟩
                  have b279 := iv2_1 hS244.1 ta23 c278
                  have p280 := p259 _ d24
                  clear p259
                  rw [c278] at p280
                  obtain ⟨v281, c282⟩ : ∃ v, I234 a0 11 = v := ⟨_, rfl⟩
                  have b283 := iv7_11 hS244.1 ta0 c282
                  rw [c282] at p260
                  obtain ⟨v284, c285⟩ : ∃ v, I234 a0 2 = v := ⟨_, rfl⟩
                  have b286 := iv7_2 hS244.1 ta0 c285
                  rw [c285] at p261
                  obtain ⟨v287, c288⟩ : ∃ v, I234 a0 4 = v := ⟨_, rfl⟩
                  have b289 := iv7_4 hS244.1 ta0 c288
                  rw [c288] at p262
                  obtain ⟨v290, c291⟩ : ∃ v, I234 a0 3 = v := ⟨_, rfl⟩
                  have b292 := iv7_3 hS244.1 ta0 c291
                  rw [c291] at p263
                  obtain ⟨y293, c294⟩ : ∃ v, L236 a0 5 = v := ⟨_, rfl⟩
                  rw [c294] at p264
                  obtain ⟨v295, c296⟩ : ∃ v, I234 a0 6 = v := ⟨_, rfl⟩
                  rw [c296] at p265
                  have eF := hF.eq
                  have eP := hP.eq
                  obtain ⟨v297, c298⟩ : ∃ v, I234 a0 16 = v := ⟨_, rfl⟩
                  exact tr_zret hZ dX7_readLine_112 rfl (ti_b01 (by exact om_f9079521 p255) (by exact om_e6632817 p255)) (by decide) (by decide) ⟨v239, rfl, rfl, rfl, rfl, rfl, hS244, hL253, (by exact om_be53a44c h240), (fun al h1 => by obtain rfl := Option.some.inj (d24.symm.trans h1); exact (((FrK.rf (R := R0) (al := a23) (W := fun _ => True) (T := T)).st g184 (by decide +kernel)).tr ((rp241 _ d24).mono (fun _ _ => trivial)))), (fun dr hd => (Option.some.inj (d24.symm.trans hd)) ▸ hO252), (Or.inl ⟨(by (try rw [w223]); first | done | with_reducible assumption | omega), (by (try rw [w223]); (try rw [c272]); (try rw [c66]); first | done | with_reducible assumption | omega), (by (try rw [w223]); first | done | with_reducible assumption | exact om_f2d5abae w221 p257 eF), (fun q0 z0 => by obtain rfl := Option.some.inj ((d24).symm.trans z0); (try rw [w223]); (try rw [c274]); first | done | with_reducible assumption | exact om_008feaf9 w224 p276), (fun q0 z0 => by obtain rfl := Option.some.inj ((d24).symm.trans z0); (try rw [w223]); (try rw [c278]); first | done | with_reducible assumption | exact om_008feaf9 w225 p280), (fun q0 z0 => by obtain rfl := Option.some.inj ((d24).symm.trans z0); (try rw [w223]); (try rw [c245]); first | done | with_reducible assumption | exact om_2757374c p36 w226), (fun q0 z0 => by obtain rfl := Option.some.inj ((d24).symm.trans z0); (try rw [w223]); (try rw [c246]); first | done | with_reducible assumption | exact om_2757374c p40 w227), (fun q0 z0 => by obtain rfl := Option.some.inj ((d24).symm.trans z0); (try rw [w223]); (try rw [c247]); first | done | with_reducible assumption | exact om_2757374c p44 w228), (fun q0 z0 => by obtain rfl := Option.some.inj ((d24).symm.trans z0); (try rw [w223]); (try rw [c248]); first | done | with_reducible assumption | exact om_2757374c p48 w229), (fun q0 z0 => by obtain rfl := Option.some.inj ((d24).symm.trans z0); (try rw [w223]); (try rw [c249]); first | done | with_reducible assumption | exact om_2757374c p52 w230), (by (try rw [w223]); (try rw [c282]); first | done | with_reducible assumption | exact om_f2e5fab5 w231 p260), (by (try rw [w223]); (try rw [c250]); first | done | with_reducible assumption | exact om_2757374c p60 w232), (by (try rw [w223]); (try rw [c285]); first | done | with_reducible assumption | omega), (by (try rw [w223]); (try rw [c288]); first | done | with_reducible assumption | omega), (by (try rw [w223]); (try rw [c291]); first | done | with_reducible assumption | omega), (by (try rw [w223]); (try rw [c294]); first | done | assumption), (by (try rw [w223]); (try rw [c296]); first | done | assumption), (fun q0 z0 => by obtain rfl := Option.some.inj ((d24).symm.trans z0); (try rw [w223]); (try rw [c251]); first | done | with_reducible assumption | exact om_2757374c p63 w233), (NmC.ln (NmC.bd (k := srt gB gs) hN254 (by exact om_bd004896 p78 h179 h180) (by exact om_543879f2 p78 h179 h180)) rfl), (fun E al h1 hT hE => by obtain rfl := Option.some.inj (d24.symm.trans h1); exact AlC.ap hE hT hW0 ta23 (by exact om_149506ab p78 h179 h180) (((FrK.rf (R := R0) (al := a23) (W := fun u => u = 36) (T := T)).st g184 (by decide +kernel)).tr (rp241 _ d24)) (fun t ht => rp266 _ _ d24 ht) (by rw [c251]; exact om_2757374c p63 w233)), trivial⟩), trivial⟩
                · skip
                  obtain ⟨v299, c300⟩ : ∃ v, I234 a0 15 = v := ⟨_, rfl⟩
                  rw [c300] at p269
                  obtain ⟨v301, c302⟩ : ∃ v, I234 a0 16 = v := ⟨_, rfl⟩
                  rw [c302] at p270
                  have eF := hF.eq
                  have eP := hP.eq
                  obtain ⟨v303, c304⟩ : ∃ v, I234 a23 0 = v := ⟨_, rfl⟩
                  have b305 := iv2_0 hS244.1 ta23 c304
                  obtain ⟨v306, c307⟩ : ∃ v, I234 a23 1 = v := ⟨_, rfl⟩
                  have b308 := iv2_1 hS244.1 ta23 c307
                  obtain ⟨v309, c310⟩ : ∃ v, I234 a0 11 = v := ⟨_, rfl⟩
                  have b311 := iv7_11 hS244.1 ta0 c310
                  obtain ⟨v312, c313⟩ : ∃ v, I234 a0 2 = v := ⟨_, rfl⟩
                  have b314 := iv7_2 hS244.1 ta0 c313
                  obtain ⟨v315, c316⟩ : ∃ v, I234 a0 4 = v := ⟨_, rfl⟩
                  have b317 := iv7_4 hS244.1 ta0 c316
                  obtain ⟨v318, c319⟩ : ∃ v, I234 a0 3 = v := ⟨_, rfl⟩
                  have b320 := iv7_3 hS244.1 ta0 c319
                  obtain ⟨y321, c322⟩ : ∃ v, L236 a0 5 = v := ⟨_, rfl⟩
                  obtain ⟨v323, c324⟩ : ∃ v, I234 a0 6 = v := ⟨_, rfl⟩
                  exact tr_zret hZ dX7_readLine_112 rfl (ti_b01 (by exact om_d99fa9e4 p267) (by exact om_d3de7ec9 p267)) (by decide) (by decide) ⟨v239, rfl, rfl, rfl, rfl, rfl, hS244, hL253, (by exact om_be53a44c h240), (fun al h1 => by obtain rfl := Option.some.inj (d24.symm.trans h1); exact (((FrK.rf (R := R0) (al := a23) (W := fun _ => True) (T := T)).st g184 (by decide +kernel)).tr ((rp241 _ d24).mono (fun _ _ => trivial)))), (fun dr hd => (Option.some.inj (d24.symm.trans hd)) ▸ hO252), (Or.inr (⟨(by (try rw [w223]); first | done | with_reducible assumption | omega), (by (try rw [w223]); first | done | with_reducible assumption | exact om_2cf37690 w221 p268 p269 eF), (by (try rw [w223]); (try rw [c300]); first | done | with_reducible assumption | exact om_621963eb w221 p269 eF), (by (try rw [w223]); (try rw [c302]); first | done | with_reducible assumption | exact om_621963eb w222 p270 eP), trivial⟩)), trivial⟩
              · skip
                refine tr_tabOut 180 dX7_readLine_69 (by exact om_7377f29b p78 h179 h180 h220) (by decide) ?_
                obtain ⟨w325, w326, w327, w328, w329, w330, w331, w332, w333, w334, w335, w336⟩ := lnl_e (B := gB) (Q := gQ) (s := gs) (by exact om_e7d0db4d p78 h179 h180) (by exact om_40d4601f p78 h179 h180 h220)
                have p337 := p143 (by exact om_40d4601f p78 h179 h180 h220)
                have w338 : lnQ gB gQ gs 9 = gQ 9 := lnq9_o (by exact om_bd004896 p78 h179 h180)
                refine tr_aload_n dX7_readLine_180 rfl ?_
                refine tr_iload_n dX7_readLine_181 rfl ?_
                refine q_callVi hE (M' := mX7_readEvent) (as := [_]) dX7_readLine_182 lk7_200 inX7_readEvent seX7_readEvent myX7_readEvent (by decide) ⟨by decide, by decide⟩ rfl (kR7 hS192.1 ta0) (Nat.le_of_ble_eq_true rfl) rfl rfl (by decide) (by decide) (fk_X7_readEvent hS192.1 (gB) ((tkN gB gs)) (gQ) ((srt gB gs)) ta0 (by exact om_a84dad70 p78 h179 h180 h220) (TxA.kp hT hS192 ta0 rfl rfl rfl (by decide +kernel) (by decide +kernel)) (by (try rw [c208]); first | done | with_reducible assumption | omega) (by (try rw [c211]); first | done | with_reducible assumption | omega) (by (try rw [c214]); first | done | with_reducible assumption | omega) (by (try rw [c217]); first | done | assumption) (by (try rw [c219]); first | done | assumption) (by (try rw [((hS192.cell ta0 (by decide +kernel)).trans c20)]); first | done | with_reducible assumption | omega) (fun q0 z0 => by obtain rfl := Option.some.inj ((d24).symm.trans z0); (try rw [c193]); first | done | with_reducible assumption | omega) (fun q0 z0 => by obtain rfl := Option.some.inj ((d24).symm.trans z0); (try rw [c194]); first | done | with_reducible assumption | omega) (fun q0 z0 => by obtain rfl := Option.some.inj ((d24).symm.trans z0); (try rw [c195]); first | done | with_reducible assumption | omega) (by first | done | with_reducible assumption | omega) (by first | done | with_reducible assumption | omega)) ?_
                rintro v344 cn' K' N' I339 R340 L341 ⟨rfl, rfl, rfl, rfl, g342, gl343, h345, rp346, rp347, dj348, -⟩
                have hS349 := hS192.tr g342 (by decide +kernel) (by decide +kernel)
                have c350 : I339 a23 0 = v25 := (g342.cell ta23 (by decide +kernel)).trans c193
                have c351 : I339 a23 1 = v29 := (g342.cell ta23 (by decide +kernel)).trans c194
                have c352 : I339 a23 5 = v37 := (g342.cell ta23 (by decide +kernel)).trans c196
                have c353 : I339 a23 9 = v41 := (g342.cell ta23 (by decide +kernel)).trans c197
                have c354 : I339 a23 11 = v45 := (g342.cell ta23 (by decide +kernel)).trans c198
                have c355 : I339 a23 13 = v49 := (g342.cell ta23 (by decide +kernel)).trans c199
                have c356 : I339 a0 11 = v53 := (g342.cell ta0 (by decide +kernel)).trans c200
                have c357 : I339 a0 12 = v57 := (g342.cell ta0 (by decide +kernel)).trans c201
                have c358 : I339 a23 7 = v61 := (g342.cell ta23 (by decide +kernel)).trans c202
                have hO359 : FrO 2 a23 T I0 I339 := hO204.tr (rp347 _ d24)
                have hL360 := hL205.tr gl343 (by decide +kernel)
                have hN361 : NmC L341 R0 a0 gQ := NmC.kp hN206 gl343 hS349.1 ta0 (by decide +kernel) (by decide +kernel)
                rcases dj348 with ⟨p362, p363, p364, p365, p366, p367, p368, p369, p370, rp371, -⟩ | ⟨p372, p373, p374, p375, -⟩
                · skip
                  obtain ⟨v376, c377⟩ : ∃ v, I339 a0 15 = v := ⟨_, rfl⟩
                  rw [c377] at p363
                  rw [c203] at p363
                  obtain ⟨v378, c379⟩ : ∃ v, I339 a23 3 = v := ⟨_, rfl⟩
                  have b380 := iv2_3 hS349.1 ta23 c379
                  have p381 := p365 _ d24
                  clear p365
                  rw [c379] at p381
                  obtain ⟨v382, c383⟩ : ∃ v, I339 a0 2 = v := ⟨_, rfl⟩
                  have b384 := iv7_2 hS349.1 ta0 c383
                  rw [c383] at p366
                  obtain ⟨v385, c386⟩ : ∃ v, I339 a0 4 = v := ⟨_, rfl⟩
                  have b387 := iv7_4 hS349.1 ta0 c386
                  rw [c386] at p367
                  obtain ⟨v388, c389⟩ : ∃ v, I339 a0 3 = v := ⟨_, rfl⟩
                  have b390 := iv7_3 hS349.1 ta0 c389
                  rw [c389] at p368
                  obtain ⟨y391, c392⟩ : ∃ v, L341 a0 5 = v := ⟨_, rfl⟩
                  rw [c392] at p369
                  obtain ⟨v393, c394⟩ : ∃ v, I339 a0 6 = v := ⟨_, rfl⟩
                  rw [c394] at p370
                  exfalso; exact om_278fa968 p78 h179 h180 h220
                · skip
                  obtain ⟨v395, c396⟩ : ∃ v, I339 a0 15 = v := ⟨_, rfl⟩
                  rw [c396] at p374
                  obtain ⟨v397, c398⟩ : ∃ v, I339 a0 16 = v := ⟨_, rfl⟩
                  rw [c398] at p375
                  exfalso; exact om_5dc87481 p78 h179 h180 h220 p373
            · skip
              refine tr_aload_n dX7_readLine_50 rfl ?_
              refine q_getZ dX7_readLine_51 fl7_31 (kR7 hS0.1 ta0) c54 ?_
              refine q_if_ne 64 dX7_readLine_54 (by decide) (fun h399 => ?_) (fun h399 => ?_)
              · skip
                replace hF := hF.neg (by exact om_ac4ffdd8 b55.2 b55.1 p56 h77.2 h77.1 p78 h399)
                replace hP := hP.neg (by exact om_ac4ffdd8 b55.2 b55.1 p56 h77.2 h77.1 p78 h399)
                refine tr_aload_n dX7_readLine_64 rfl ?_
                refine q_callVv hE (M' := mX7_step) (as := []) dX7_readLine_65 lk7_51 inX7_step seX7_step myX7_step (by decide) ⟨by decide, by decide⟩ rfl (kR7 hS0.1 ta0) (Nat.le_of_ble_eq_true rfl) rfl rfl (by decide) (by decide) (fk_X7_step hS0.1 (gB) ((tkN gB gs)) ta0 (TxA.kp hT hS0 ta0 rfl rfl rfl (by decide +kernel) (by decide +kernel)) (by (try rw [c2]); first | done | with_reducible assumption | omega) (by (try rw [c20]); first | done | with_reducible assumption | omega)) ?_
                rintro cn' K' N' I400 R401 L402 ⟨rfl, rfl, rfl, rfl, g403, gl404, p406, p407, p408, p409, p410, -⟩
                have hS411 := hS0.tr g403 (by decide +kernel) (by decide +kernel)
                have c412 : I400 a23 0 = v25 := (g403.cell ta23 (by decide +kernel)).trans c26
                have c413 : I400 a23 1 = v29 := (g403.cell ta23 (by decide +kernel)).trans c30
                have c414 : I400 a23 3 = v33 := (g403.cell ta23 (by decide +kernel)).trans c34
                have c415 : I400 a23 5 = v37 := (g403.cell ta23 (by decide +kernel)).trans c38
                have c416 : I400 a23 9 = v41 := (g403.cell ta23 (by decide +kernel)).trans c42
                have c417 : I400 a23 11 = v45 := (g403.cell ta23 (by decide +kernel)).trans c46
                have c418 : I400 a23 13 = v49 := (g403.cell ta23 (by decide +kernel)).trans c50
                have c419 : I400 a0 11 = v53 := (g403.cell ta0 (by decide +kernel)).trans c54
                have c420 : I400 a0 12 = v57 := (g403.cell ta0 (by decide +kernel)).trans c58
                have c421 : I400 a23 7 = v61 := (g403.cell ta23 (by decide +kernel)).trans c62
                have c422 : I400 a0 15 = v65 := (g403.cell ta0 (by decide +kernel)).trans c66
                have hO423 : FrO 2 a23 T I0 I400 := hO0.st g403 (by decide +kernel)
                have hL424 := hL0.tr gl404 (by decide +kernel)
                have hN425 : NmC L402 R0 a0 gQ := NmC.kp hN gl404 hS411.1 ta0 (by decide +kernel) (by decide +kernel)
                obtain ⟨v426, c427⟩ : ∃ v, I400 a0 2 = v := ⟨_, rfl⟩
                have b428 := iv7_2 hS411.1 ta0 c427
                rw [c427] at p406
                obtain ⟨v429, c430⟩ : ∃ v, I400 a0 4 = v := ⟨_, rfl⟩
                have b431 := iv7_4 hS411.1 ta0 c430
                rw [c430] at p407
                obtain ⟨v432, c433⟩ : ∃ v, I400 a0 3 = v := ⟨_, rfl⟩
                have b434 := iv7_3 hS411.1 ta0 c433
                rw [c433] at p408
                obtain ⟨y435, c436⟩ : ∃ v, L402 a0 5 = v := ⟨_, rfl⟩
                rw [c436] at p409
                obtain ⟨v437, c438⟩ : ∃ v, I400 a0 6 = v := ⟨_, rfl⟩
                rw [c438] at p410
                refine tr_iload_n dX7_readLine_68 rfl ?_
                by_cases h439 : v76.toInt = 5
                · skip
                  refine tr_tabIn (off := 44) 113 dX7_readLine_69 (by exact om_f764bb99 p78 h439) (by exact om_94dce41b p78 h439) (by rw [h439]; decide +kernel) (by decide) ?_
                  obtain ⟨w440, w441, w442, w443, w444, w445, w446, w447, w448, w449, w450, w451⟩ := lnl_5 (B := gB) (Q := gQ) (s := gs) (by exact om_65b350f5 p78 h439)
                  have p452 := p139 (by exact om_65b350f5 p78 h439)
                  have w453 : lnQ gB gQ gs 9 = bdQ gB gQ 5 (tkN gB gs) 9 := by unfold lnQ; rw [show srt gB gs = 5 by exact om_65b350f5 p78 h439]
                  refine tr_aload_n dX7_readLine_113 rfl ?_
                  refine q_callVi hE (M' := mX7_readCheese) (as := []) dX7_readLine_114 lk7_180 inX7_readCheese seX7_readCheese myX7_readCheese (by decide) ⟨by decide, by decide⟩ rfl (kR7 hS411.1 ta0) (Nat.le_of_ble_eq_true rfl) rfl rfl (by decide) (by decide) (fk_X7_readCheese hS411.1 (gB) ((tkN gB gs)) (gQ) ta0 (TxA.kp hT hS411 ta0 rfl rfl rfl (by decide +kernel) (by decide +kernel)) hN425 (by (try rw [c427]); first | done | with_reducible assumption | omega) (by (try rw [c430]); first | done | with_reducible assumption | omega) (by (try rw [c433]); first | done | with_reducible assumption | omega) (by (try rw [c436]); first | done | assumption) (by (try rw [c438]); first | done | assumption) (by (try rw [((hS411.cell ta0 (by decide +kernel)).trans c20)]); first | done | with_reducible assumption | omega) (fun q0 z0 => by obtain rfl := Option.some.inj ((d24).symm.trans z0); (try rw [c413]); first | done | with_reducible assumption | omega) (fun q0 z0 => by obtain rfl := Option.some.inj ((d24).symm.trans z0); (try rw [c415]); first | done | with_reducible assumption | omega) (fun q0 z0 => by obtain rfl := Option.some.inj ((d24).symm.trans z0); (try rw [c416]); first | done | with_reducible assumption | omega) (by first | done | with_reducible assumption | omega) (by first | done | with_reducible assumption | exact om_51709f5a b43.2 b43.1 p44 w447) (fun q0 z0 => by obtain rfl := Option.some.inj ((d24).symm.trans z0); (try rw [c421]); first | done | with_reducible assumption | omega) (by first | done | assumption)) ?_
                  rintro v459 cn' K' N' I454 R455 L456 ⟨rfl, rfl, rfl, rfl, g457, gl458, h460, rp461, rp462, dj463, -⟩
                  have hS464 := hS411.tr g457 (by decide +kernel) (by decide +kernel)
                  have c465 : I454 a23 0 = v25 := (g457.cell ta23 (by decide +kernel)).trans c412
                  have c466 : I454 a23 1 = v29 := (g457.cell ta23 (by decide +kernel)).trans c413
                  have c467 : I454 a23 3 = v33 := (g457.cell ta23 (by decide +kernel)).trans c414
                  have c468 : I454 a23 9 = v41 := (g457.cell ta23 (by decide +kernel)).trans c416
                  have c469 : I454 a23 11 = v45 := (g457.cell ta23 (by decide +kernel)).trans c417
                  have c470 : I454 a23 13 = v49 := (g457.cell ta23 (by decide +kernel)).trans c418
                  have c471 : I454 a0 11 = v53 := (g457.cell ta0 (by decide +kernel)).trans c419
                  have c472 : I454 a0 12 = v57 := (g457.cell ta0 (by decide +kernel)).trans c420
                  have hO473 : FrO 2 a23 T I0 I454 := hO423.tr (rp462 _ d24)
                  have hL474 := hL424.tr gl458 (by decide +kernel)
                  rcases dj463 with ⟨p475, p476, p477, p478, p479, p480, p481, p482, p483, p484, rp485, rp486, -⟩ | ⟨p487, p488, p489, p490, -⟩
                  · skip
                    obtain ⟨v491, c492⟩ : ∃ v, I454 a0 15 = v := ⟨_, rfl⟩
                    rw [c492] at p476
                    rw [c422] at p476
                    obtain ⟨v493, c494⟩ : ∃ v, I454 a23 5 = v := ⟨_, rfl⟩
                    have b495 := iv2_5 hS464.1 ta23 c494
                    have p496 := p478 _ d24
                    clear p478
                    rw [c494] at p496
                    obtain ⟨v497, c498⟩ : ∃ v, I454 a0 2 = v := ⟨_, rfl⟩
                    have b499 := iv7_2 hS464.1 ta0 c498
                    rw [c498] at p479
                    obtain ⟨v500, c501⟩ : ∃ v, I454 a0 4 = v := ⟨_, rfl⟩
                    have b502 := iv7_4 hS464.1 ta0 c501
                    rw [c501] at p480
                    obtain ⟨v503, c504⟩ : ∃ v, I454 a0 3 = v := ⟨_, rfl⟩
                    have b505 := iv7_3 hS464.1 ta0 c504
                    rw [c504] at p481
                    obtain ⟨y506, c507⟩ : ∃ v, L456 a0 5 = v := ⟨_, rfl⟩
                    rw [c507] at p482
                    obtain ⟨v508, c509⟩ : ∃ v, I454 a0 6 = v := ⟨_, rfl⟩
                    rw [c509] at p483
                    obtain ⟨v510, c511⟩ : ∃ v, I454 a23 7 = v := ⟨_, rfl⟩
                    have p512 := p484 _ d24
                    clear p484
                    rw [c511] at p512
                    have eF := hF.eq
                    have eP := hP.eq
                    obtain ⟨a513, d514, ta513⟩ := rf2_6 hW0 ta23
                    obtain ⟨v515, c516⟩ : ∃ v, I454 a0 16 = v := ⟨_, rfl⟩
                    exact tr_zret hZ dX7_readLine_117 rfl (ti_b01 (by exact om_f9079521 p475) (by exact om_e6632817 p475)) (by decide) (by decide) ⟨v459, rfl, rfl, rfl, rfl, rfl, hS464, hL474, (by exact om_be53a44c h460), (fun al h1 => by obtain rfl := Option.some.inj (d24.symm.trans h1); exact (((FrK.rf (R := R0) (al := a23) (W := fun _ => True) (T := T)).st g403 (by decide +kernel)).tr ((rp461 _ d24).mono (fun _ _ => trivial)))), (fun dr hd => (Option.some.inj (d24.symm.trans hd)) ▸ hO473), (Or.inl ⟨(by (try rw [w442]); first | done | with_reducible assumption | omega), (by (try rw [w442]); (try rw [c492]); (try rw [c66]); first | done | with_reducible assumption | omega), (by (try rw [w442]); first | done | with_reducible assumption | exact om_f2d5abae w440 p477 eF), (fun q0 z0 => by obtain rfl := Option.some.inj ((d24).symm.trans z0); (try rw [w442]); (try rw [c465]); first | done | with_reducible assumption | exact om_2757374c p28 w443), (fun q0 z0 => by obtain rfl := Option.some.inj ((d24).symm.trans z0); (try rw [w442]); (try rw [c466]); first | done | with_reducible assumption | exact om_2757374c p32 w444), (fun q0 z0 => by obtain rfl := Option.some.inj ((d24).symm.trans z0); (try rw [w442]); (try rw [c467]); first | done | with_reducible assumption | exact om_2757374c p36 w445), (fun q0 z0 => by obtain rfl := Option.some.inj ((d24).symm.trans z0); (try rw [w442]); (try rw [c494]); first | done | with_reducible assumption | exact om_414fd8c3 w446 p496), (fun q0 z0 => by obtain rfl := Option.some.inj ((d24).symm.trans z0); (try rw [w442]); (try rw [c468]); first | done | with_reducible assumption | exact om_2757374c p44 w447), (fun q0 z0 => by obtain rfl := Option.some.inj ((d24).symm.trans z0); (try rw [w442]); (try rw [c469]); first | done | with_reducible assumption | exact om_2757374c p48 w448), (fun q0 z0 => by obtain rfl := Option.some.inj ((d24).symm.trans z0); (try rw [w442]); (try rw [c470]); first | done | with_reducible assumption | exact om_2757374c p52 w449), (by (try rw [w442]); (try rw [c471]); first | done | with_reducible assumption | exact om_2757374c p56 w450), (by (try rw [w442]); (try rw [c472]); first | done | with_reducible assumption | exact om_2757374c p60 w451), (by (try rw [w442]); (try rw [c498]); first | done | with_reducible assumption | omega), (by (try rw [w442]); (try rw [c501]); first | done | with_reducible assumption | omega), (by (try rw [w442]); (try rw [c504]); first | done | with_reducible assumption | omega), (by (try rw [w442]); (try rw [c507]); first | done | assumption), (by (try rw [w442]); (try rw [c509]); first | done | assumption), (fun q0 z0 => by obtain rfl := Option.some.inj ((d24).symm.trans z0); (try rw [w442]); (try rw [c511]); first | done | with_reducible assumption | exact om_008feaf9 w453 p512), (NmC.ln rp485 (by exact om_65b350f5 p78 h439)), (fun E al h1 hT hE => by obtain rfl := Option.some.inj (d24.symm.trans h1); exact AlC.ch hE hT hW0 ta23 (by exact om_65b350f5 p78 h439) (by exact om_d71fd4ad b39.2 b39.1 p40 w446 p452 p496) (((FrK.rf (R := R0) (al := a23) (W := fun u => u = 35) (T := T)).st g403 (by decide +kernel)).tr (rp461 _ d24)) (fun t ht => by obtain rfl := Option.some.inj (d514.symm.trans ht); exact ⟨(rp486 _ _ d24 d514).1, fun j hj => ((rp486 _ _ d24 d514).2 j hj).trans (g403.cell ta513 (wm_no (by decide +kernel)))⟩) (by rw [c511]; exact om_008feaf9 w453 p512)), trivial⟩), trivial⟩
                  · skip
                    obtain ⟨v517, c518⟩ : ∃ v, I454 a0 15 = v := ⟨_, rfl⟩
                    rw [c518] at p489
                    obtain ⟨v519, c520⟩ : ∃ v, I454 a0 16 = v := ⟨_, rfl⟩
                    rw [c520] at p490
                    have eF := hF.eq
                    have eP := hP.eq
                    obtain ⟨v521, c522⟩ : ∃ v, I454 a23 5 = v := ⟨_, rfl⟩
                    have b523 := iv2_5 hS464.1 ta23 c522
                    obtain ⟨v524, c525⟩ : ∃ v, I454 a0 2 = v := ⟨_, rfl⟩
                    have b526 := iv7_2 hS464.1 ta0 c525
                    obtain ⟨v527, c528⟩ : ∃ v, I454 a0 4 = v := ⟨_, rfl⟩
                    have b529 := iv7_4 hS464.1 ta0 c528
                    obtain ⟨v530, c531⟩ : ∃ v, I454 a0 3 = v := ⟨_, rfl⟩
                    have b532 := iv7_3 hS464.1 ta0 c531
                    obtain ⟨y533, c534⟩ : ∃ v, L456 a0 5 = v := ⟨_, rfl⟩
                    obtain ⟨v535, c536⟩ : ∃ v, I454 a0 6 = v := ⟨_, rfl⟩
                    obtain ⟨v537, c538⟩ : ∃ v, I454 a23 7 = v := ⟨_, rfl⟩
                    exact tr_zret hZ dX7_readLine_117 rfl (ti_b01 (by exact om_d99fa9e4 p487) (by exact om_d3de7ec9 p487)) (by decide) (by decide) ⟨v459, rfl, rfl, rfl, rfl, rfl, hS464, hL474, (by exact om_be53a44c h460), (fun al h1 => by obtain rfl := Option.some.inj (d24.symm.trans h1); exact (((FrK.rf (R := R0) (al := a23) (W := fun _ => True) (T := T)).st g403 (by decide +kernel)).tr ((rp461 _ d24).mono (fun _ _ => trivial)))), (fun dr hd => (Option.some.inj (d24.symm.trans hd)) ▸ hO473), (Or.inr (⟨(by (try rw [w442]); first | done | with_reducible assumption | omega), (by (try rw [w442]); first | done | with_reducible assumption | exact om_2cf37690 w440 p488 p489 eF), (by (try rw [w442]); (try rw [c518]); first | done | with_reducible assumption | exact om_621963eb w440 p489 eF), (by (try rw [w442]); (try rw [c520]); first | done | with_reducible assumption | exact om_621963eb w441 p490 eP), trivial⟩)), trivial⟩
                · skip
                  by_cases h539 : v76.toInt = 6
                  · skip
                    refine tr_tabIn (off := 49) 118 dX7_readLine_69 (by exact om_a39226b3 p78 h539) (by exact om_e27afa32 p78 h539) (by rw [h539]; decide +kernel) (by decide) ?_
                    obtain ⟨w540, w541, w542, w543, w544, w545, w546, w547, w548, w549, w550, w551⟩ := lnl_6 (B := gB) (Q := gQ) (s := gs) (by exact om_2648d226 p78 h539)
                    have w552 : lnQ gB gQ gs 9 = gQ 9 := lnq9_o (by exact om_70cc2fd8 p78 h539)
                    refine tr_aload_n dX7_readLine_118 rfl ?_
                    refine q_iconst dX7_readLine_119 (by decide) ?_
                    intro v553 h554
                    refine q_putZ dX7_readLine_120 fl7_35 (kR7 hS411.1 ta0) (Or.inl rfl) hS411 ta0 (by exact om_d753bc65 h554) (by show (0 : Int) ≤ v553.toInt ∧ v553.toInt ≤ (1 : Int); exact om_d753bc65 h554) rfl (by decide +kernel) ?_
                    intro I555 hS556 e557 f558
                    have c559 : I555 a23 0 = v25 := (f558 _ _ (fun q => absurd q.2 (by decide))).trans c412
                    have c560 : I555 a23 1 = v29 := (f558 _ _ (fun q => absurd q.2 (by decide))).trans c413
                    have c561 : I555 a23 3 = v33 := (f558 _ _ (fun q => absurd q.2 (by decide))).trans c414
                    have c562 : I555 a23 5 = v37 := (f558 _ _ (fun q => absurd q.2 (by decide))).trans c415
                    have c563 : I555 a23 9 = v41 := (f558 _ _ (fun q => absurd q.2 (by decide))).trans c416
                    have c564 : I555 a23 11 = v45 := (f558 _ _ (fun q => absurd q.2 (by decide))).trans c417
                    have c565 : I555 a23 13 = v49 := (f558 _ _ (fun q => absurd q.2 (by decide))).trans c418
                    have c566 : I555 a0 11 = v53 := (f558 _ _ (fun q => absurd q.2 (by decide))).trans c419
                    have c567 : I555 a23 7 = v61 := (f558 _ _ (fun q => absurd q.2 (by decide))).trans c421
                    have c568 : I555 a0 15 = v65 := (f558 _ _ (fun q => absurd q.2 (by decide))).trans c422
                    have c569 : I555 a0 2 = v426 := (f558 _ _ (fun q => absurd q.2 (by decide))).trans c427
                    have c570 : I555 a0 4 = v429 := (f558 _ _ (fun q => absurd q.2 (by decide))).trans c430
                    have c571 : I555 a0 3 = v432 := (f558 _ _ (fun q => absurd q.2 (by decide))).trans c433
                    have c572 : I555 a0 6 = v437 := (f558 _ _ (fun q => absurd q.2 (by decide))).trans c438
                    have hO573 : FrO 2 a23 T I0 I555 := hO423.put f558 ta0 (Or.inl (by decide))
                    refine tr_aload_n dX7_readLine_123 rfl ?_
                    refine tr_aload_n dX7_readLine_124 rfl ?_
                    refine tr_getR dX7_readLine_125 fl7_22 (kR7 hS556.1 ta0) d24 ?_
                    refine tr_getR dX7_readLine_128 fl7_183 (kR2 hS556.1 ta23) d68 ?_
                    refine q_callVi hE (M' := mX7_readMinutes) (as := [_]) dX7_readLine_131 lk7_186 inX7_readMinutes seX7_readMinutes myX7_readMinutes (by decide) ⟨by decide, by decide⟩ rfl (kR7 hS556.1 ta0) (Nat.le_of_ble_eq_true rfl) rfl rfl (by decide) (by decide) (fk_X7_readMinutes hS556.1 (gB) ((tkN gB gs)) (gQ) ta0 ta67 (TxA.kp hT hS556 ta0 rfl rfl rfl (by decide +kernel) (by decide +kernel)) (by (try rw [c569]); first | done | with_reducible assumption | omega) (by (try rw [c570]); first | done | with_reducible assumption | omega) (by (try rw [c571]); first | done | with_reducible assumption | omega) (by (try rw [c436]); first | done | assumption) (by (try rw [c572]); first | done | assumption) (by (try rw [((hS556.cell ta0 (by decide +kernel)).trans c20)]); first | done | with_reducible assumption | omega) (fun q0 z0 => by obtain rfl := Option.some.inj ((d24).symm.trans z0); (try rw [c559]); first | done | with_reducible assumption | omega)) ?_
                    rintro v579 cn' K' N' I574 R575 L576 ⟨rfl, rfl, rfl, rfl, g577, gl578, h580, rp581, rp582, dj583, -⟩
                    have hS584 := hS556.tr g577 (by decide +kernel) (by decide +kernel)
                    have c585 : I574 a23 0 = v25 := (g577.cell ta23 (by decide +kernel)).trans c559
                    have c586 : I574 a23 1 = v29 := (g577.cell ta23 (by decide +kernel)).trans c560
                    have c587 : I574 a23 3 = v33 := (g577.cell ta23 (by decide +kernel)).trans c561
                    have c588 : I574 a23 5 = v37 := (g577.cell ta23 (by decide +kernel)).trans c562
                    have c589 : I574 a23 9 = v41 := (g577.cell ta23 (by decide +kernel)).trans c563
                    have c590 : I574 a23 11 = v45 := (g577.cell ta23 (by decide +kernel)).trans c564
                    have c591 : I574 a23 13 = v49 := (g577.cell ta23 (by decide +kernel)).trans c565
                    have c592 : I574 a0 11 = v53 := (g577.cell ta0 (by decide +kernel)).trans c566
                    have c593 : I574 a23 7 = v61 := (g577.cell ta23 (by decide +kernel)).trans c567
                    have c594 : I574 a0 12 = v553 := (g577.cell ta0 (by decide +kernel)).trans e557
                    have hO595 : FrO 2 a23 T I0 I574 := hO573.st g577 (by decide +kernel)
                    have hL596 := hL424.tr gl578 (by decide +kernel)
                    have hN597 : NmC L576 R0 a0 gQ := NmC.kp hN425 gl578 hS584.1 ta0 (by decide +kernel) (by decide +kernel)
                    rcases dj583 with ⟨p598, p599, p600, p601, p602, p603, p604, p605, p606, rp607, -⟩ | ⟨p608, p609, p610, p611, -⟩
                    · skip
                      obtain ⟨v612, c613⟩ : ∃ v, I574 a0 15 = v := ⟨_, rfl⟩
                      rw [c613] at p599
                      rw [c568] at p599
                      obtain ⟨v614, c615⟩ : ∃ v, I574 a0 2 = v := ⟨_, rfl⟩
                      have b616 := iv7_2 hS584.1 ta0 c615
                      rw [c615] at p601
                      obtain ⟨v617, c618⟩ : ∃ v, I574 a0 4 = v := ⟨_, rfl⟩
                      have b619 := iv7_4 hS584.1 ta0 c618
                      rw [c618] at p602
                      obtain ⟨v620, c621⟩ : ∃ v, I574 a0 3 = v := ⟨_, rfl⟩
                      have b622 := iv7_3 hS584.1 ta0 c621
                      rw [c621] at p603
                      obtain ⟨y623, c624⟩ : ∃ v, L576 a0 5 = v := ⟨_, rfl⟩
                      rw [c624] at p604
                      obtain ⟨v625, c626⟩ : ∃ v, I574 a0 6 = v := ⟨_, rfl⟩
                      rw [c626] at p605
                      obtain ⟨v627, c628⟩ : ∃ v, I574 a67 0 = v := ⟨_, rfl⟩
                      have b629 := iv6_0 hS584.1 ta67 c628
                      rw [c628] at p606
                      have eF := hF.eq
                      have eP := hP.eq
                      obtain ⟨v630, c631⟩ : ∃ v, I574 a0 16 = v := ⟨_, rfl⟩
                      exact tr_zret hZ dX7_readLine_134 rfl (ti_b01 (by exact om_f9079521 p598) (by exact om_e6632817 p598)) (by decide) (by decide) ⟨v579, rfl, rfl, rfl, rfl, rfl, hS584, hL596, (by exact om_be53a44c h580), (fun al h1 => by obtain rfl := Option.some.inj (d24.symm.trans h1); exact ((((FrK.rf (R := R0) (al := a23) (W := fun _ => True) (T := T)).st g403 (by decide +kernel)).put f558 ta0 (by decide)).mn (u1 := 29) (u2 := 34) rp582 rp581 g577 (by exact om_afe144b2) trivial (ObA d68) (by exact om_32f9ba93) trivial (by obtain ⟨t, ht, -⟩ := rf6_1 hW0 ta67; exact ⟨t, ht, (ObAa d68 ht)⟩) (by decide +kernel))), (fun dr hd => (Option.some.inj (d24.symm.trans hd)) ▸ hO595), (Or.inl ⟨(by (try rw [w542]); first | done | with_reducible assumption | omega), (by (try rw [w542]); (try rw [c613]); (try rw [c66]); first | done | with_reducible assumption | omega), (by (try rw [w542]); first | done | with_reducible assumption | exact om_f2d5abae w540 p600 eF), (fun q0 z0 => by obtain rfl := Option.some.inj ((d24).symm.trans z0); (try rw [w542]); (try rw [c585]); first | done | with_reducible assumption | exact om_2757374c p28 w543), (fun q0 z0 => by obtain rfl := Option.some.inj ((d24).symm.trans z0); (try rw [w542]); (try rw [c586]); first | done | with_reducible assumption | exact om_2757374c p32 w544), (fun q0 z0 => by obtain rfl := Option.some.inj ((d24).symm.trans z0); (try rw [w542]); (try rw [c587]); first | done | with_reducible assumption | exact om_2757374c p36 w545), (fun q0 z0 => by obtain rfl := Option.some.inj ((d24).symm.trans z0); (try rw [w542]); (try rw [c588]); first | done | with_reducible assumption | exact om_2757374c p40 w546), (fun q0 z0 => by obtain rfl := Option.some.inj ((d24).symm.trans z0); (try rw [w542]); (try rw [c589]); first | done | with_reducible assumption | exact om_2757374c p44 w547), (fun q0 z0 => by obtain rfl := Option.some.inj ((d24).symm.trans z0); (try rw [w542]); (try rw [c590]); first | done | with_reducible assumption | exact om_2757374c p48 w548), (fun q0 z0 => by obtain rfl := Option.some.inj ((d24).symm.trans z0); (try rw [w542]); (try rw [c591]); first | done | with_reducible assumption | exact om_2757374c p52 w549), (by (try rw [w542]); (try rw [c592]); first | done | with_reducible assumption | exact om_2757374c p56 w550), (by (try rw [w542]); (try rw [c594]); first | done | with_reducible assumption | exact om_f2e5fab5 w551 h554), (by (try rw [w542]); (try rw [c615]); first | done | with_reducible assumption | omega), (by (try rw [w542]); (try rw [c618]); first | done | with_reducible assumption | omega), (by (try rw [w542]); (try rw [c621]); first | done | with_reducible assumption | omega), (by (try rw [w542]); (try rw [c624]); first | done | assumption), (by (try rw [w542]); (try rw [c626]); first | done | assumption), (fun q0 z0 => by obtain rfl := Option.some.inj ((d24).symm.trans z0); (try rw [w542]); (try rw [c593]); first | done | with_reducible assumption | exact om_2757374c p63 w552), (NmC.ln (NmC.bd (k := srt gB gs) hN597 (by exact om_70cc2fd8 p78 h539) (by exact om_8b60b2c7 p78 h539)) rfl), (fun E al h1 hT hE => by obtain rfl := Option.some.inj (d24.symm.trans h1); exact AlC.am hE hT hW0 ta23 (by exact om_2648d226 p78 h539) ((((FrK.rf (R := R0) (al := a23) (W := fun u => u = 29 ∨ u = 34) (T := T)).st g403 (by decide +kernel)).put f558 ta0 (by decide)).mn (u1 := 29) (u2 := 34) rp582 rp581 g577 (by exact om_afe144b2) (Or.inl rfl) (ObA d68) (by exact om_32f9ba93) (Or.inr rfl) (by obtain ⟨t, ht, -⟩ := rf6_1 hW0 ta67; exact ⟨t, ht, (ObAa d68 ht)⟩) (by decide +kernel)) (fun o ho => by obtain rfl := Option.some.inj (d68.symm.trans ho); exact ⟨by rw [c628]; exact om_acd7a85a p606, rp607⟩) (by rw [c593]; exact om_2757374c p63 w552)), trivial⟩), trivial⟩
                    · skip
                      obtain ⟨v632, c633⟩ : ∃ v, I574 a0 15 = v := ⟨_, rfl⟩
                      rw [c633] at p610
                      obtain ⟨v634, c635⟩ : ∃ v, I574 a0 16 = v := ⟨_, rfl⟩
                      rw [c635] at p611
                      have eF := hF.eq
                      have eP := hP.eq
                      obtain ⟨v636, c637⟩ : ∃ v, I574 a0 2 = v := ⟨_, rfl⟩
                      have b638 := iv7_2 hS584.1 ta0 c637
                      obtain ⟨v639, c640⟩ : ∃ v, I574 a0 4 = v := ⟨_, rfl⟩
                      have b641 := iv7_4 hS584.1 ta0 c640
                      obtain ⟨v642, c643⟩ : ∃ v, I574 a0 3 = v := ⟨_, rfl⟩
                      have b644 := iv7_3 hS584.1 ta0 c643
                      obtain ⟨y645, c646⟩ : ∃ v, L576 a0 5 = v := ⟨_, rfl⟩
                      obtain ⟨v647, c648⟩ : ∃ v, I574 a0 6 = v := ⟨_, rfl⟩
                      exact tr_zret hZ dX7_readLine_134 rfl (ti_b01 (by exact om_d99fa9e4 p608) (by exact om_d3de7ec9 p608)) (by decide) (by decide) ⟨v579, rfl, rfl, rfl, rfl, rfl, hS584, hL596, (by exact om_be53a44c h580), (fun al h1 => by obtain rfl := Option.some.inj (d24.symm.trans h1); exact ((((FrK.rf (R := R0) (al := a23) (W := fun _ => True) (T := T)).st g403 (by decide +kernel)).put f558 ta0 (by decide)).mn (u1 := 29) (u2 := 34) rp582 rp581 g577 (by exact om_afe144b2) trivial (ObA d68) (by exact om_32f9ba93) trivial (by obtain ⟨t, ht, -⟩ := rf6_1 hW0 ta67; exact ⟨t, ht, (ObAa d68 ht)⟩) (by decide +kernel))), (fun dr hd => (Option.some.inj (d24.symm.trans hd)) ▸ hO595), (Or.inr (⟨(by (try rw [w542]); first | done | with_reducible assumption | omega), (by (try rw [w542]); first | done | with_reducible assumption | exact om_2cf37690 w540 p609 p610 eF), (by (try rw [w542]); (try rw [c633]); first | done | with_reducible assumption | exact om_621963eb w540 p610 eF), (by (try rw [w542]); (try rw [c635]); first | done | with_reducible assumption | exact om_621963eb w541 p611 eP), trivial⟩)), trivial⟩
                  · skip
                    by_cases h649 : v76.toInt = 7
                    · skip
                      refine tr_tabIn (off := 66) 135 dX7_readLine_69 (by exact om_b6945d8c p78 h649) (by exact om_7eab330d p78 h649) (by rw [h649]; decide +kernel) (by decide) ?_
                      obtain ⟨w650, w651, w652, w653, w654, w655, w656, w657, w658, w659, w660, w661⟩ := lnl_7 (B := gB) (Q := gQ) (s := gs) (by exact om_601c075c p78 h649)
                      have p662 := p140 (by exact om_601c075c p78 h649)
                      have w663 : lnQ gB gQ gs 9 = gQ 9 := lnq9_o (by exact om_6131e971 p78 h649)
                      refine tr_aload_n dX7_readLine_135 rfl ?_
                      refine q_callVi hE (M' := mX7_readTurner) (as := []) dX7_readLine_136 lk7_190 inX7_readTurner seX7_readTurner myX7_readTurner (by decide) ⟨by decide, by decide⟩ rfl (kR7 hS411.1 ta0) (Nat.le_of_ble_eq_true rfl) rfl rfl (by decide) (by decide) (fk_X7_readTurner hS411.1 (gB) ((tkN gB gs)) (gQ) ta0 (TxA.kp hT hS411 ta0 rfl rfl rfl (by decide +kernel) (by decide +kernel)) hN425 (by (try rw [c427]); first | done | with_reducible assumption | omega) (by (try rw [c430]); first | done | with_reducible assumption | omega) (by (try rw [c433]); first | done | with_reducible assumption | omega) (by (try rw [c436]); first | done | assumption) (by (try rw [c438]); first | done | assumption) (by (try rw [((hS411.cell ta0 (by decide +kernel)).trans c20)]); first | done | with_reducible assumption | omega) (fun q0 z0 => by obtain rfl := Option.some.inj ((d24).symm.trans z0); (try rw [c412]); first | done | with_reducible assumption | omega) (fun q0 z0 => by obtain rfl := Option.some.inj ((d24).symm.trans z0); (try rw [c413]); first | done | with_reducible assumption | omega) (fun q0 z0 => by obtain rfl := Option.some.inj ((d24).symm.trans z0); (try rw [c415]); first | done | with_reducible assumption | omega) (fun q0 z0 => by obtain rfl := Option.some.inj ((d24).symm.trans z0); (try rw [c416]); first | done | with_reducible assumption | omega) (by first | done | with_reducible assumption | omega) (by first | done | with_reducible assumption | exact om_53dace20 b39.2 b39.1 p40 w656)) ?_
                      rintro v669 cn' K' N' I664 R665 L666 ⟨rfl, rfl, rfl, rfl, g667, gl668, h670, rp671, rp672, dj673, -⟩
                      have hS674 := hS411.tr g667 (by decide +kernel) (by decide +kernel)
                      have c675 : I664 a23 0 = v25 := (g667.cell ta23 (by decide +kernel)).trans c412
                      have c676 : I664 a23 1 = v29 := (g667.cell ta23 (by decide +kernel)).trans c413
                      have c677 : I664 a23 3 = v33 := (g667.cell ta23 (by decide +kernel)).trans c414
                      have c678 : I664 a23 5 = v37 := (g667.cell ta23 (by decide +kernel)).trans c415
                      have c679 : I664 a23 11 = v45 := (g667.cell ta23 (by decide +kernel)).trans c417
                      have c680 : I664 a23 13 = v49 := (g667.cell ta23 (by decide +kernel)).trans c418
                      have c681 : I664 a0 11 = v53 := (g667.cell ta0 (by decide +kernel)).trans c419
                      have c682 : I664 a0 12 = v57 := (g667.cell ta0 (by decide +kernel)).trans c420
                      have c683 : I664 a23 7 = v61 := (g667.cell ta23 (by decide +kernel)).trans c421
                      have hO684 : FrO 2 a23 T I0 I664 := hO423.tr (rp672 _ d24)
                      have hL685 := hL424.tr gl668 (by decide +kernel)
                      rcases dj673 with ⟨p686, p687, p688, p689, p690, p691, p692, p693, p694, rp695, rp696, -⟩ | ⟨p697, p698, p699, p700, -⟩
                      · skip
                        obtain ⟨v701, c702⟩ : ∃ v, I664 a0 15 = v := ⟨_, rfl⟩
                        rw [c702] at p687
                        rw [c422] at p687
                        obtain ⟨v703, c704⟩ : ∃ v, I664 a23 9 = v := ⟨_, rfl⟩
                        have b705 := iv2_9 hS674.1 ta23 c704
                        have p706 := p689 _ d24
                        clear p689
                        rw [c704] at p706
                        obtain ⟨v707, c708⟩ : ∃ v, I664 a0 2 = v := ⟨_, rfl⟩
                        have b709 := iv7_2 hS674.1 ta0 c708
                        rw [c708] at p690
                        obtain ⟨v710, c711⟩ : ∃ v, I664 a0 4 = v := ⟨_, rfl⟩
                        have b712 := iv7_4 hS674.1 ta0 c711
                        rw [c711] at p691
                        obtain ⟨v713, c714⟩ : ∃ v, I664 a0 3 = v := ⟨_, rfl⟩
                        have b715 := iv7_3 hS674.1 ta0 c714
                        rw [c714] at p692
                        obtain ⟨y716, c717⟩ : ∃ v, L666 a0 5 = v := ⟨_, rfl⟩
                        rw [c717] at p693
                        obtain ⟨v718, c719⟩ : ∃ v, I664 a0 6 = v := ⟨_, rfl⟩
                        rw [c719] at p694
                        have eF := hF.eq
                        have eP := hP.eq
                        obtain ⟨v720, c721⟩ : ∃ v, I664 a0 16 = v := ⟨_, rfl⟩
                        exact tr_zret hZ dX7_readLine_139 rfl (ti_b01 (by exact om_f9079521 p686) (by exact om_e6632817 p686)) (by decide) (by decide) ⟨v669, rfl, rfl, rfl, rfl, rfl, hS674, hL685, (by exact om_be53a44c h670), (fun al h1 => by obtain rfl := Option.some.inj (d24.symm.trans h1); exact (((FrK.rf (R := R0) (al := a23) (W := fun _ => True) (T := T)).st g403 (by decide +kernel)).tr ((rp671 _ d24).mono (fun _ _ => trivial)))), (fun dr hd => (Option.some.inj (d24.symm.trans hd)) ▸ hO684), (Or.inl ⟨(by (try rw [w652]); first | done | with_reducible assumption | omega), (by (try rw [w652]); (try rw [c702]); (try rw [c66]); first | done | with_reducible assumption | omega), (by (try rw [w652]); first | done | with_reducible assumption | exact om_f2d5abae w650 p688 eF), (fun q0 z0 => by obtain rfl := Option.some.inj ((d24).symm.trans z0); (try rw [w652]); (try rw [c675]); first | done | with_reducible assumption | exact om_2757374c p28 w653), (fun q0 z0 => by obtain rfl := Option.some.inj ((d24).symm.trans z0); (try rw [w652]); (try rw [c676]); first | done | with_reducible assumption | exact om_2757374c p32 w654), (fun q0 z0 => by obtain rfl := Option.some.inj ((d24).symm.trans z0); (try rw [w652]); (try rw [c677]); first | done | with_reducible assumption | exact om_2757374c p36 w655), (fun q0 z0 => by obtain rfl := Option.some.inj ((d24).symm.trans z0); (try rw [w652]); (try rw [c678]); first | done | with_reducible assumption | exact om_2757374c p40 w656), (fun q0 z0 => by obtain rfl := Option.some.inj ((d24).symm.trans z0); (try rw [w652]); (try rw [c704]); first | done | with_reducible assumption | exact om_414fd8c3 w657 p706), (fun q0 z0 => by obtain rfl := Option.some.inj ((d24).symm.trans z0); (try rw [w652]); (try rw [c679]); first | done | with_reducible assumption | exact om_2757374c p48 w658), (fun q0 z0 => by obtain rfl := Option.some.inj ((d24).symm.trans z0); (try rw [w652]); (try rw [c680]); first | done | with_reducible assumption | exact om_2757374c p52 w659), (by (try rw [w652]); (try rw [c681]); first | done | with_reducible assumption | exact om_2757374c p56 w660), (by (try rw [w652]); (try rw [c682]); first | done | with_reducible assumption | exact om_2757374c p60 w661), (by (try rw [w652]); (try rw [c708]); first | done | with_reducible assumption | omega), (by (try rw [w652]); (try rw [c711]); first | done | with_reducible assumption | omega), (by (try rw [w652]); (try rw [c714]); first | done | with_reducible assumption | omega), (by (try rw [w652]); (try rw [c717]); first | done | assumption), (by (try rw [w652]); (try rw [c719]); first | done | assumption), (fun q0 z0 => by obtain rfl := Option.some.inj ((d24).symm.trans z0); (try rw [w652]); (try rw [c683]); first | done | with_reducible assumption | exact om_2757374c p63 w663), (NmC.ln rp695 (by exact om_601c075c p78 h649)), (fun E al h1 hT hE => by obtain rfl := Option.some.inj (d24.symm.trans h1); exact AlC.tu hE hT hW0 ta23 (by exact om_601c075c p78 h649) (by exact om_dbfdcdec b43.2 b43.1 p44 w657 p662 p706) (by exact om_fc4b6669 p662) (((FrK.rf (R := R0) (al := a23) (W := fun u => u = 14 + (gQ 4).toNat) (T := T)).st g403 (by decide +kernel)).tr (rp671 _ d24)) (fun ob ho => rp696 _ _ d24 ho) (by rw [c683]; exact om_2757374c p63 w663)), trivial⟩), trivial⟩
                      · skip
                        obtain ⟨v722, c723⟩ : ∃ v, I664 a0 15 = v := ⟨_, rfl⟩
                        rw [c723] at p699
                        obtain ⟨v724, c725⟩ : ∃ v, I664 a0 16 = v := ⟨_, rfl⟩
                        rw [c725] at p700
                        have eF := hF.eq
                        have eP := hP.eq
                        obtain ⟨v726, c727⟩ : ∃ v, I664 a23 9 = v := ⟨_, rfl⟩
                        have b728 := iv2_9 hS674.1 ta23 c727
                        obtain ⟨v729, c730⟩ : ∃ v, I664 a0 2 = v := ⟨_, rfl⟩
                        have b731 := iv7_2 hS674.1 ta0 c730
                        obtain ⟨v732, c733⟩ : ∃ v, I664 a0 4 = v := ⟨_, rfl⟩
                        have b734 := iv7_4 hS674.1 ta0 c733
                        obtain ⟨v735, c736⟩ : ∃ v, I664 a0 3 = v := ⟨_, rfl⟩
                        have b737 := iv7_3 hS674.1 ta0 c736
                        obtain ⟨y738, c739⟩ : ∃ v, L666 a0 5 = v := ⟨_, rfl⟩
                        obtain ⟨v740, c741⟩ : ∃ v, I664 a0 6 = v := ⟨_, rfl⟩
                        exact tr_zret hZ dX7_readLine_139 rfl (ti_b01 (by exact om_d99fa9e4 p697) (by exact om_d3de7ec9 p697)) (by decide) (by decide) ⟨v669, rfl, rfl, rfl, rfl, rfl, hS674, hL685, (by exact om_be53a44c h670), (fun al h1 => by obtain rfl := Option.some.inj (d24.symm.trans h1); exact (((FrK.rf (R := R0) (al := a23) (W := fun _ => True) (T := T)).st g403 (by decide +kernel)).tr ((rp671 _ d24).mono (fun _ _ => trivial)))), (fun dr hd => (Option.some.inj (d24.symm.trans hd)) ▸ hO684), (Or.inr (⟨(by (try rw [w652]); first | done | with_reducible assumption | omega), (by (try rw [w652]); first | done | with_reducible assumption | exact om_2cf37690 w650 p698 p699 eF), (by (try rw [w652]); (try rw [c723]); first | done | with_reducible assumption | exact om_621963eb w650 p699 eF), (by (try rw [w652]); (try rw [c725]); first | done | with_reducible assumption | exact om_621963eb w651 p700 eP), trivial⟩)), trivial⟩
                    · skip
                      by_cases h742 : v76.toInt = 8
                      · skip
                        refine tr_tabIn (off := 71) 140 dX7_readLine_69 (by exact om_4fac0507 p78 h742) (by exact om_de750999 p78 h742) (by rw [h742]; decide +kernel) (by decide) ?_
                        obtain ⟨w743, w744, w745, w746, w747, w748, w749, w750, w751, w752, w753, w754⟩ := lnl_8 (B := gB) (Q := gQ) (s := gs) (by exact om_4a400a7e p78 h742)
                        have p755 := p141 (by exact om_4a400a7e p78 h742)
                        have w756 : lnQ gB gQ gs 9 = gQ 9 := lnq9_o (by exact om_ede42b3e p78 h742)
                        refine tr_aload_n dX7_readLine_140 rfl ?_
                        refine q_callVi hE (M' := mX7_readCall) (as := []) dX7_readLine_141 lk7_193 inX7_readCall seX7_readCall myX7_readCall (by decide) ⟨by decide, by decide⟩ rfl (kR7 hS411.1 ta0) (Nat.le_of_ble_eq_true rfl) rfl rfl (by decide) (by decide) (fk_X7_readCall hS411.1 (gB) ((tkN gB gs)) (gQ) ta0 (TxA.kp hT hS411 ta0 rfl rfl rfl (by decide +kernel) (by decide +kernel)) hN425 (by (try rw [c427]); first | done | with_reducible assumption | omega) (by (try rw [c430]); first | done | with_reducible assumption | omega) (by (try rw [c433]); first | done | with_reducible assumption | omega) (by (try rw [c436]); first | done | assumption) (by (try rw [c438]); first | done | assumption) (by (try rw [((hS411.cell ta0 (by decide +kernel)).trans c20)]); first | done | with_reducible assumption | omega) (fun q0 z0 => by obtain rfl := Option.some.inj ((d24).symm.trans z0); (try rw [c412]); first | done | with_reducible assumption | omega) (fun q0 z0 => by obtain rfl := Option.some.inj ((d24).symm.trans z0); (try rw [c416]); first | done | with_reducible assumption | omega) (fun q0 z0 => by obtain rfl := Option.some.inj ((d24).symm.trans z0); (try rw [c417]); first | done | with_reducible assumption | omega) (by first | done | with_reducible assumption | omega)) ?_
                        rintro v762 cn' K' N' I757 R758 L759 ⟨rfl, rfl, rfl, rfl, g760, gl761, h763, rp764, rp765, dj766, -⟩
                        have hS767 := hS411.tr g760 (by decide +kernel) (by decide +kernel)
                        have c768 : I757 a23 0 = v25 := (g760.cell ta23 (by decide +kernel)).trans c412
                        have c769 : I757 a23 1 = v29 := (g760.cell ta23 (by decide +kernel)).trans c413
                        have c770 : I757 a23 3 = v33 := (g760.cell ta23 (by decide +kernel)).trans c414
                        have c771 : I757 a23 5 = v37 := (g760.cell ta23 (by decide +kernel)).trans c415
                        have c772 : I757 a23 9 = v41 := (g760.cell ta23 (by decide +kernel)).trans c416
                        have c773 : I757 a23 13 = v49 := (g760.cell ta23 (by decide +kernel)).trans c418
                        have c774 : I757 a0 11 = v53 := (g760.cell ta0 (by decide +kernel)).trans c419
                        have c775 : I757 a0 12 = v57 := (g760.cell ta0 (by decide +kernel)).trans c420
                        have c776 : I757 a23 7 = v61 := (g760.cell ta23 (by decide +kernel)).trans c421
                        have hO777 : FrO 2 a23 T I0 I757 := hO423.tr (rp765 _ d24)
                        have hL778 := hL424.tr gl761 (by decide +kernel)
                        have hN779 : NmC L759 R0 a0 gQ := NmC.kp hN425 gl761 hS767.1 ta0 (by decide +kernel) (by decide +kernel)
                        rcases dj766 with ⟨p780, p781, p782, p783, p784, p785, p786, p787, p788, rp789, -⟩ | ⟨p790, p791, p792, p793, -⟩
                        · skip
                          obtain ⟨v794, c795⟩ : ∃ v, I757 a0 15 = v := ⟨_, rfl⟩
                          rw [c795] at p781
                          rw [c422] at p781
                          obtain ⟨v796, c797⟩ : ∃ v, I757 a23 11 = v := ⟨_, rfl⟩
                          have b798 := iv2_11 hS767.1 ta23 c797
                          have p799 := p783 _ d24
                          clear p783
                          rw [c797] at p799
                          obtain ⟨v800, c801⟩ : ∃ v, I757 a0 2 = v := ⟨_, rfl⟩
                          have b802 := iv7_2 hS767.1 ta0 c801
                          rw [c801] at p784
                          obtain ⟨v803, c804⟩ : ∃ v, I757 a0 4 = v := ⟨_, rfl⟩
                          have b805 := iv7_4 hS767.1 ta0 c804
                          rw [c804] at p785
                          obtain ⟨v806, c807⟩ : ∃ v, I757 a0 3 = v := ⟨_, rfl⟩
                          have b808 := iv7_3 hS767.1 ta0 c807
                          rw [c807] at p786
                          obtain ⟨y809, c810⟩ : ∃ v, L759 a0 5 = v := ⟨_, rfl⟩
                          rw [c810] at p787
                          obtain ⟨v811, c812⟩ : ∃ v, I757 a0 6 = v := ⟨_, rfl⟩
                          rw [c812] at p788
                          have eF := hF.eq
                          have eP := hP.eq
                          obtain ⟨v813, c814⟩ : ∃ v, I757 a0 16 = v := ⟨_, rfl⟩
                          exact tr_zret hZ dX7_readLine_144 rfl (ti_b01 (by exact om_f9079521 p780) (by exact om_e6632817 p780)) (by decide) (by decide) ⟨v762, rfl, rfl, rfl, rfl, rfl, hS767, hL778, (by exact om_be53a44c h763), (fun al h1 => by obtain rfl := Option.some.inj (d24.symm.trans h1); exact (((FrK.rf (R := R0) (al := a23) (W := fun _ => True) (T := T)).st g403 (by decide +kernel)).tr ((rp764 _ d24).mono (fun _ _ => trivial)))), (fun dr hd => (Option.some.inj (d24.symm.trans hd)) ▸ hO777), (Or.inl ⟨(by (try rw [w745]); first | done | with_reducible assumption | omega), (by (try rw [w745]); (try rw [c795]); (try rw [c66]); first | done | with_reducible assumption | omega), (by (try rw [w745]); first | done | with_reducible assumption | exact om_f2d5abae w743 p782 eF), (fun q0 z0 => by obtain rfl := Option.some.inj ((d24).symm.trans z0); (try rw [w745]); (try rw [c768]); first | done | with_reducible assumption | exact om_2757374c p28 w746), (fun q0 z0 => by obtain rfl := Option.some.inj ((d24).symm.trans z0); (try rw [w745]); (try rw [c769]); first | done | with_reducible assumption | exact om_2757374c p32 w747), (fun q0 z0 => by obtain rfl := Option.some.inj ((d24).symm.trans z0); (try rw [w745]); (try rw [c770]); first | done | with_reducible assumption | exact om_2757374c p36 w748), (fun q0 z0 => by obtain rfl := Option.some.inj ((d24).symm.trans z0); (try rw [w745]); (try rw [c771]); first | done | with_reducible assumption | exact om_2757374c p40 w749), (fun q0 z0 => by obtain rfl := Option.some.inj ((d24).symm.trans z0); (try rw [w745]); (try rw [c772]); first | done | with_reducible assumption | exact om_2757374c p44 w750), (fun q0 z0 => by obtain rfl := Option.some.inj ((d24).symm.trans z0); (try rw [w745]); (try rw [c797]); first | done | with_reducible assumption | exact om_414fd8c3 w751 p799), (fun q0 z0 => by obtain rfl := Option.some.inj ((d24).symm.trans z0); (try rw [w745]); (try rw [c773]); first | done | with_reducible assumption | exact om_2757374c p52 w752), (by (try rw [w745]); (try rw [c774]); first | done | with_reducible assumption | exact om_2757374c p56 w753), (by (try rw [w745]); (try rw [c775]); first | done | with_reducible assumption | exact om_2757374c p60 w754), (by (try rw [w745]); (try rw [c801]); first | done | with_reducible assumption | omega), (by (try rw [w745]); (try rw [c804]); first | done | with_reducible assumption | omega), (by (try rw [w745]); (try rw [c807]); first | done | with_reducible assumption | omega), (by (try rw [w745]); (try rw [c810]); first | done | assumption), (by (try rw [w745]); (try rw [c812]); first | done | assumption), (fun q0 z0 => by obtain rfl := Option.some.inj ((d24).symm.trans z0); (try rw [w745]); (try rw [c776]); first | done | with_reducible assumption | exact om_2757374c p63 w756), (NmC.ln (NmC.bd (k := srt gB gs) hN779 (by exact om_ede42b3e p78 h742) (by exact om_d6de8f9f p78 h742)) rfl), (fun E al h1 hT hE => by obtain rfl := Option.some.inj (d24.symm.trans h1); exact AlC.ca hE hT hW0 ta23 (by exact om_4a400a7e p78 h742) (by exact om_3a1e030f b47.2 b47.1 p48 w751 p755 p799) (by exact om_8bcc88d8 p755) (((FrK.rf (R := R0) (al := a23) (W := fun u => u = 19 + (gQ 5).toNat) (T := T)).st g403 (by decide +kernel)).tr (rp764 _ d24)) (fun ob ho => rp789 _ _ d24 ho) (by rw [c776]; exact om_2757374c p63 w756)), trivial⟩), trivial⟩
                        · skip
                          obtain ⟨v815, c816⟩ : ∃ v, I757 a0 15 = v := ⟨_, rfl⟩
                          rw [c816] at p792
                          obtain ⟨v817, c818⟩ : ∃ v, I757 a0 16 = v := ⟨_, rfl⟩
                          rw [c818] at p793
                          have eF := hF.eq
                          have eP := hP.eq
                          obtain ⟨v819, c820⟩ : ∃ v, I757 a23 11 = v := ⟨_, rfl⟩
                          have b821 := iv2_11 hS767.1 ta23 c820
                          obtain ⟨v822, c823⟩ : ∃ v, I757 a0 2 = v := ⟨_, rfl⟩
                          have b824 := iv7_2 hS767.1 ta0 c823
                          obtain ⟨v825, c826⟩ : ∃ v, I757 a0 4 = v := ⟨_, rfl⟩
                          have b827 := iv7_4 hS767.1 ta0 c826
                          obtain ⟨v828, c829⟩ : ∃ v, I757 a0 3 = v := ⟨_, rfl⟩
                          have b830 := iv7_3 hS767.1 ta0 c829
                          obtain ⟨y831, c832⟩ : ∃ v, L759 a0 5 = v := ⟨_, rfl⟩
                          obtain ⟨v833, c834⟩ : ∃ v, I757 a0 6 = v := ⟨_, rfl⟩
                          exact tr_zret hZ dX7_readLine_144 rfl (ti_b01 (by exact om_d99fa9e4 p790) (by exact om_d3de7ec9 p790)) (by decide) (by decide) ⟨v762, rfl, rfl, rfl, rfl, rfl, hS767, hL778, (by exact om_be53a44c h763), (fun al h1 => by obtain rfl := Option.some.inj (d24.symm.trans h1); exact (((FrK.rf (R := R0) (al := a23) (W := fun _ => True) (T := T)).st g403 (by decide +kernel)).tr ((rp764 _ d24).mono (fun _ _ => trivial)))), (fun dr hd => (Option.some.inj (d24.symm.trans hd)) ▸ hO777), (Or.inr (⟨(by (try rw [w745]); first | done | with_reducible assumption | omega), (by (try rw [w745]); first | done | with_reducible assumption | exact om_2cf37690 w743 p791 p792 eF), (by (try rw [w745]); (try rw [c816]); first | done | with_reducible assumption | exact om_621963eb w743 p792 eF), (by (try rw [w745]); (try rw [c818]); first | done | with_reducible assumption | exact om_621963eb w744 p793 eP), trivial⟩)), trivial⟩
                      · skip
                        by_cases h835 : v76.toInt = 9
                        · skip
                          refine tr_tabIn (off := 76) 145 dX7_readLine_69 (by exact om_4e85e0d7 p78 h835) (by exact om_2dc8e130 p78 h835) (by rw [h835]; decide +kernel) (by decide) ?_
                          obtain ⟨w836, w837, w838, w839, w840, w841, w842, w843, w844, w845, w846, w847⟩ := lnl_9 (B := gB) (Q := gQ) (s := gs) (by exact om_d9186df2 p78 h835)
                          have p848 := p142 (by exact om_d9186df2 p78 h835)
                          have w849 : lnQ gB gQ gs 9 = gQ 9 := lnq9_o (by exact om_58da3969 p78 h835)
                          refine tr_aload_n dX7_readLine_145 rfl ?_
                          refine tr_getR dX7_readLine_146 fl7_22 (kR7 hS411.1 ta0) d24 ?_
                          refine tr_dup dX7_readLine_149 rfl ?_
                          refine q_getI dX7_readLine_150 fl7_162 (kR2 hS411.1 ta23) c418 ?_
                          refine q_iconst dX7_readLine_153 (by decide) ?_
                          intro v850 h851
                          refine q_iaddE dX7_readLine_154 (by intro j1 j2 j3 j4; exact om_ca3dfbcf b51.2 b51.1 p52 w845 p848 h851) ?_
                          intro v852 h853
                          refine q_putI dX7_readLine_155 fl7_162 (kR2 hS411.1 ta23) (Or.inl rfl) hS411 ta23 (by show (0 : Int) ≤ v852.toInt ∧ v852.toInt ≤ (4 : Int); exact om_0efcec17 b51.2 b51.1 p52 w845 p848 h851 h853) rfl (by decide +kernel) ?_
                          intro I854 hS855 e856 f857
                          have c858 : I854 a23 0 = v25 := (f857 _ _ (fun q => absurd q.2 (by decide))).trans c412
                          have c859 : I854 a23 1 = v29 := (f857 _ _ (fun q => absurd q.2 (by decide))).trans c413
                          have c860 : I854 a23 3 = v33 := (f857 _ _ (fun q => absurd q.2 (by decide))).trans c414
                          have c861 : I854 a23 5 = v37 := (f857 _ _ (fun q => absurd q.2 (by decide))).trans c415
                          have c862 : I854 a23 9 = v41 := (f857 _ _ (fun q => absurd q.2 (by decide))).trans c416
                          have c863 : I854 a23 11 = v45 := (f857 _ _ (fun q => absurd q.2 (by decide))).trans c417
                          have c864 : I854 a0 11 = v53 := (f857 _ _ (fun q => absurd q.2 (by decide))).trans c419
                          have c865 : I854 a0 12 = v57 := (f857 _ _ (fun q => absurd q.2 (by decide))).trans c420
                          have c866 : I854 a23 7 = v61 := (f857 _ _ (fun q => absurd q.2 (by decide))).trans c421
                          have c867 : I854 a0 15 = v65 := (f857 _ _ (fun q => absurd q.2 (by decide))).trans c422
                          have c868 : I854 a0 2 = v426 := (f857 _ _ (fun q => absurd q.2 (by decide))).trans c427
                          have c869 : I854 a0 4 = v429 := (f857 _ _ (fun q => absurd q.2 (by decide))).trans c430
                          have c870 : I854 a0 3 = v432 := (f857 _ _ (fun q => absurd q.2 (by decide))).trans c433
                          have c871 : I854 a0 6 = v437 := (f857 _ _ (fun q => absurd q.2 (by decide))).trans c438
                          have hO872 : FrO 2 a23 T I0 I854 := hO423.put f857 ta23 (Or.inr rfl)
                          refine tr_aload_n dX7_readLine_158 rfl ?_
                          refine tr_aload_n dX7_readLine_159 rfl ?_
                          refine tr_getR dX7_readLine_160 fl7_22 (kR7 hS855.1 ta0) d24 ?_
                          refine tr_getR dX7_readLine_163 fl7_196 (kR2 hS855.1 ta23) d70 ?_
                          refine tr_aload_n dX7_readLine_166 rfl ?_
                          refine tr_getR dX7_readLine_167 fl7_22 (kR7 hS855.1 ta0) d24 ?_
                          refine q_getI dX7_readLine_170 fl7_162 (kR2 hS855.1 ta23) e856 ?_
                          refine q_iconst dX7_readLine_173 (by decide) ?_
                          intro v873 h874
                          refine q_isubE dX7_readLine_174 (by intro j1 j2 j3 j4; exact om_9adead35 b51.2 b51.1 p52 w845 p848 h851 h853 h874) ?_
                          intro v875 h876
                          obtain ⟨a877, d878, ta877⟩ := rf23 hS855.1 ta69 (j := v875.toNatClampNeg) (ti_lt (by exact om_48073540 b51.2 b51.1 p52 w845 p848 h851 h853 h874 h876) (by exact om_ea23941a b51.2 b51.1 p52 w845 p848 h851 h853 h874 h876))
                          refine tr_aald dX7_readLine_175 (kR23 hS855.1 ta69) (by decide) (by decide) (ti_in (nR23 hS855.1 ta69) (by exact om_48073540 b51.2 b51.1 p52 w845 p848 h851 h853 h874 h876) (by exact om_ea23941a b51.2 b51.1 p52 w845 p848 h851 h853 h874 h876)) d878 ?_
                          refine q_callVi hE (M' := mX7_readMinutes) (as := [_]) dX7_readLine_176 lk7_186 inX7_readMinutes seX7_readMinutes myX7_readMinutes (by decide) ⟨by decide, by decide⟩ rfl (kR7 hS855.1 ta0) (Nat.le_of_ble_eq_true rfl) rfl rfl (by decide) (by decide) (fk_X7_readMinutes hS855.1 (gB) ((tkN gB gs)) (gQ) ta0 ta877 (TxA.kp hT hS855 ta0 rfl rfl rfl (by decide +kernel) (by decide +kernel)) (by (try rw [c868]); first | done | with_reducible assumption | omega) (by (try rw [c869]); first | done | with_reducible assumption | omega) (by (try rw [c870]); first | done | with_reducible assumption | omega) (by (try rw [c436]); first | done | assumption) (by (try rw [c871]); first | done | assumption) (by (try rw [((hS855.cell ta0 (by decide +kernel)).trans c20)]); first | done | with_reducible assumption | omega) (fun q0 z0 => by obtain rfl := Option.some.inj ((d24).symm.trans z0); (try rw [c858]); first | done | with_reducible assumption | omega)) ?_
                          rintro v884 cn' K' N' I879 R880 L881 ⟨rfl, rfl, rfl, rfl, g882, gl883, h885, rp886, rp887, dj888, -⟩
                          have hS889 := hS855.tr g882 (by decide +kernel) (by decide +kernel)
                          have c890 : I879 a23 0 = v25 := (g882.cell ta23 (by decide +kernel)).trans c858
                          have c891 : I879 a23 1 = v29 := (g882.cell ta23 (by decide +kernel)).trans c859
                          have c892 : I879 a23 3 = v33 := (g882.cell ta23 (by decide +kernel)).trans c860
                          have c893 : I879 a23 5 = v37 := (g882.cell ta23 (by decide +kernel)).trans c861
                          have c894 : I879 a23 9 = v41 := (g882.cell ta23 (by decide +kernel)).trans c862
                          have c895 : I879 a23 11 = v45 := (g882.cell ta23 (by decide +kernel)).trans c863
                          have c896 : I879 a0 11 = v53 := (g882.cell ta0 (by decide +kernel)).trans c864
                          have c897 : I879 a0 12 = v57 := (g882.cell ta0 (by decide +kernel)).trans c865
                          have c898 : I879 a23 7 = v61 := (g882.cell ta23 (by decide +kernel)).trans c866
                          have c899 : I879 a23 13 = v852 := (g882.cell ta23 (by decide +kernel)).trans e856
                          have hO900 : FrO 2 a23 T I0 I879 := hO872.st g882 (by decide +kernel)
                          have hL901 := hL424.tr gl883 (by decide +kernel)
                          have hN902 : NmC L881 R0 a0 gQ := NmC.kp hN425 gl883 hS889.1 ta0 (by decide +kernel) (by decide +kernel)
                          rcases dj888 with ⟨p903, p904, p905, p906, p907, p908, p909, p910, p911, rp912, -⟩ | ⟨p913, p914, p915, p916, -⟩
                          · skip
                            obtain ⟨v917, c918⟩ : ∃ v, I879 a0 15 = v := ⟨_, rfl⟩
                            rw [c918] at p904
                            rw [c867] at p904
                            obtain ⟨v919, c920⟩ : ∃ v, I879 a0 2 = v := ⟨_, rfl⟩
                            have b921 := iv7_2 hS889.1 ta0 c920
                            rw [c920] at p906
                            obtain ⟨v922, c923⟩ : ∃ v, I879 a0 4 = v := ⟨_, rfl⟩
                            have b924 := iv7_4 hS889.1 ta0 c923
                            rw [c923] at p907
                            obtain ⟨v925, c926⟩ : ∃ v, I879 a0 3 = v := ⟨_, rfl⟩
                            have b927 := iv7_3 hS889.1 ta0 c926
                            rw [c926] at p908
                            obtain ⟨y928, c929⟩ : ∃ v, L881 a0 5 = v := ⟨_, rfl⟩
                            rw [c929] at p909
                            obtain ⟨v930, c931⟩ : ∃ v, I879 a0 6 = v := ⟨_, rfl⟩
                            rw [c931] at p910
                            obtain ⟨v932, c933⟩ : ∃ v, I879 a877 0 = v := ⟨_, rfl⟩
                            have b934 := iv6_0 hS889.1 ta877 c933
                            rw [c933] at p911
                            have eF := hF.eq
                            have eP := hP.eq
                            obtain ⟨v935, c936⟩ : ∃ v, I879 a0 16 = v := ⟨_, rfl⟩
                            exact tr_zret hZ dX7_readLine_179 rfl (ti_b01 (by exact om_f9079521 p903) (by exact om_e6632817 p903)) (by decide) (by decide) ⟨v884, rfl, rfl, rfl, rfl, rfl, hS889, hL901, (by exact om_be53a44c h885), (fun al h1 => by obtain rfl := Option.some.inj (d24.symm.trans h1); exact ((((FrK.rf (R := R0) (al := a23) (W := fun _ => True) (T := T)).st g403 (by decide +kernel)).put f857 ta23 (by decide)).mn (u1 := 25 + (gQ 6).toNat) (u2 := 30 + (gQ 6).toNat) rp887 rp886 g882 (by exact om_f42ab596 b51.2 b51.1 p52 w845 p848 h851 h853 h874 h876) trivial (ObS d70 (by exact om_53829e63 b51.2 b51.1 p52 w845 p848 h851 h853 h874 h876) (by have z := d878; rw [show v875.toNatClampNeg = (gQ 6).toNat from congrArg Int.toNat (by exact om_384a09c2 p52 w845 h851 h853 h874 h876)] at z; exact z)) (by exact om_ddd92504 b51.2 b51.1 p52 w845 p848 h851 h853 h874 h876) trivial (by obtain ⟨t, ht, -⟩ := rf6_1 hW0 ta877; exact ⟨t, ht, (ObSa d70 (by exact om_53829e63 b51.2 b51.1 p52 w845 p848 h851 h853 h874 h876) (by have z := d878; rw [show v875.toNatClampNeg = (gQ 6).toNat from congrArg Int.toNat (by exact om_384a09c2 p52 w845 h851 h853 h874 h876)] at z; exact z) ht)⟩) (by decide +kernel))), (fun dr hd => (Option.some.inj (d24.symm.trans hd)) ▸ hO900), (Or.inl ⟨(by (try rw [w838]); first | done | with_reducible assumption | omega), (by (try rw [w838]); (try rw [c918]); (try rw [c66]); first | done | with_reducible assumption | omega), (by (try rw [w838]); first | done | with_reducible assumption | exact om_f2d5abae w836 p905 eF), (fun q0 z0 => by obtain rfl := Option.some.inj ((d24).symm.trans z0); (try rw [w838]); (try rw [c890]); first | done | with_reducible assumption | exact om_2757374c p28 w839), (fun q0 z0 => by obtain rfl := Option.some.inj ((d24).symm.trans z0); (try rw [w838]); (try rw [c891]); first | done | with_reducible assumption | exact om_2757374c p32 w840), (fun q0 z0 => by obtain rfl := Option.some.inj ((d24).symm.trans z0); (try rw [w838]); (try rw [c892]); first | done | with_reducible assumption | exact om_2757374c p36 w841), (fun q0 z0 => by obtain rfl := Option.some.inj ((d24).symm.trans z0); (try rw [w838]); (try rw [c893]); first | done | with_reducible assumption | exact om_2757374c p40 w842), (fun q0 z0 => by obtain rfl := Option.some.inj ((d24).symm.trans z0); (try rw [w838]); (try rw [c894]); first | done | with_reducible assumption | exact om_2757374c p44 w843), (fun q0 z0 => by obtain rfl := Option.some.inj ((d24).symm.trans z0); (try rw [w838]); (try rw [c895]); first | done | with_reducible assumption | exact om_2757374c p48 w844), (fun q0 z0 => by obtain rfl := Option.some.inj ((d24).symm.trans z0); (try rw [w838]); (try rw [c899]); first | done | with_reducible assumption | exact om_7149e5be p52 w845 h851 h853), (by (try rw [w838]); (try rw [c896]); first | done | with_reducible assumption | exact om_2757374c p56 w846), (by (try rw [w838]); (try rw [c897]); first | done | with_reducible assumption | exact om_2757374c p60 w847), (by (try rw [w838]); (try rw [c920]); first | done | with_reducible assumption | omega), (by (try rw [w838]); (try rw [c923]); first | done | with_reducible assumption | omega), (by (try rw [w838]); (try rw [c926]); first | done | with_reducible assumption | omega), (by (try rw [w838]); (try rw [c929]); first | done | assumption), (by (try rw [w838]); (try rw [c931]); first | done | assumption), (fun q0 z0 => by obtain rfl := Option.some.inj ((d24).symm.trans z0); (try rw [w838]); (try rw [c898]); first | done | with_reducible assumption | exact om_2757374c p63 w849), (NmC.ln (NmC.bd (k := srt gB gs) hN902 (by exact om_58da3969 p78 h835) (by exact om_702ede58 p78 h835)) rfl), (fun E al h1 hT hE => by obtain rfl := Option.some.inj (d24.symm.trans h1); exact AlC.sl hE hT hW0 ta23 (by exact om_d9186df2 p78 h835) (by exact om_2f3d5e77 b51.2 b51.1 p52 w845 p848 h851 h853 h874 h876) (by exact om_122115dc p848) ((((FrK.rf (R := R0) (al := a23) (W := fun u => u = 25 + (gQ 6).toNat ∨ u = 30 + (gQ 6).toNat) (T := T)).st g403 (by decide +kernel)).put f857 ta23 (by decide)).mn (u1 := 25 + (gQ 6).toNat) (u2 := 30 + (gQ 6).toNat) rp887 rp886 g882 (by exact om_f42ab596 b51.2 b51.1 p52 w845 p848 h851 h853 h874 h876) (Or.inl rfl) (ObS d70 (by exact om_53829e63 b51.2 b51.1 p52 w845 p848 h851 h853 h874 h876) (by have z := d878; rw [show v875.toNatClampNeg = (gQ 6).toNat from congrArg Int.toNat (by exact om_384a09c2 p52 w845 h851 h853 h874 h876)] at z; exact z)) (by exact om_ddd92504 b51.2 b51.1 p52 w845 p848 h851 h853 h874 h876) (Or.inr rfl) (by obtain ⟨t, ht, -⟩ := rf6_1 hW0 ta877; exact ⟨t, ht, (ObSa d70 (by exact om_53829e63 b51.2 b51.1 p52 w845 p848 h851 h853 h874 h876) (by have z := d878; rw [show v875.toNatClampNeg = (gQ 6).toNat from congrArg Int.toNat (by exact om_384a09c2 p52 w845 h851 h853 h874 h876)] at z; exact z) ht)⟩) (by decide +kernel)) (fun V o hV ho => by obtain rfl := Option.some.inj (d70.symm.trans hV); have z := d878; rw [show v875.toNatClampNeg = (gQ 6).toNat from congrArg Int.toNat (by exact om_384a09c2 p52 w845 h851 h853 h874 h876)] at z; obtain rfl := Option.some.inj (z.symm.trans ho); exact ⟨by rw [c933]; exact om_acd7a85a p911, rp912⟩) (by rw [c898]; exact om_2757374c p63 w849)), trivial⟩), trivial⟩
                          · skip
                            obtain ⟨v937, c938⟩ : ∃ v, I879 a0 15 = v := ⟨_, rfl⟩
                            rw [c938] at p915
                            obtain ⟨v939, c940⟩ : ∃ v, I879 a0 16 = v := ⟨_, rfl⟩
                            rw [c940] at p916
                            have eF := hF.eq
                            have eP := hP.eq
                            obtain ⟨v941, c942⟩ : ∃ v, I879 a0 2 = v := ⟨_, rfl⟩
                            have b943 := iv7_2 hS889.1 ta0 c942
                            obtain ⟨v944, c945⟩ : ∃ v, I879 a0 4 = v := ⟨_, rfl⟩
                            have b946 := iv7_4 hS889.1 ta0 c945
                            obtain ⟨v947, c948⟩ : ∃ v, I879 a0 3 = v := ⟨_, rfl⟩
                            have b949 := iv7_3 hS889.1 ta0 c948
                            obtain ⟨y950, c951⟩ : ∃ v, L881 a0 5 = v := ⟨_, rfl⟩
                            obtain ⟨v952, c953⟩ : ∃ v, I879 a0 6 = v := ⟨_, rfl⟩
                            exact tr_zret hZ dX7_readLine_179 rfl (ti_b01 (by exact om_d99fa9e4 p913) (by exact om_d3de7ec9 p913)) (by decide) (by decide) ⟨v884, rfl, rfl, rfl, rfl, rfl, hS889, hL901, (by exact om_be53a44c h885), (fun al h1 => by obtain rfl := Option.some.inj (d24.symm.trans h1); exact ((((FrK.rf (R := R0) (al := a23) (W := fun _ => True) (T := T)).st g403 (by decide +kernel)).put f857 ta23 (by decide)).mn (u1 := 25 + (gQ 6).toNat) (u2 := 30 + (gQ 6).toNat) rp887 rp886 g882 (by exact om_f42ab596 b51.2 b51.1 p52 w845 p848 h851 h853 h874 h876) trivial (ObS d70 (by exact om_53829e63 b51.2 b51.1 p52 w845 p848 h851 h853 h874 h876) (by have z := d878; rw [show v875.toNatClampNeg = (gQ 6).toNat from congrArg Int.toNat (by exact om_384a09c2 p52 w845 h851 h853 h874 h876)] at z; exact z)) (by exact om_ddd92504 b51.2 b51.1 p52 w845 p848 h851 h853 h874 h876) trivial (by obtain ⟨t, ht, -⟩ := rf6_1 hW0 ta877; exact ⟨t, ht, (ObSa d70 (by exact om_53829e63 b51.2 b51.1 p52 w845 p848 h851 h853 h874 h876) (by have z := d878; rw [show v875.toNatClampNeg = (gQ 6).toNat from congrArg Int.toNat (by exact om_384a09c2 p52 w845 h851 h853 h874 h876)] at z; exact z) ht)⟩) (by decide +kernel))), (fun dr hd => (Option.some.inj (d24.symm.trans hd)) ▸ hO900), (Or.inr (⟨(by (try rw [w838]); first | done | with_reducible assumption | omega), (by (try rw [w838]); first | done | with_reducible assumption | exact om_2cf37690 w836 p914 p915 eF), (by (try rw [w838]); (try rw [c938]); first | done | with_reducible assumption | exact om_621963eb w836 p915 eF), (by (try rw [w838]); (try rw [c940]); first | done | with_reducible assumption | exact om_621963eb w837 p916 eP), trivial⟩)), trivial⟩
                        · skip
                          refine tr_tabOut 180 dX7_readLine_69 (by exact om_77d7e14e b55.2 b55.1 h77.2 h77.1 p78 h179 h180 h399 h439 h539 h649 h742 h835) (by decide) ?_
                          obtain ⟨w954, w955, w956, w957, w958, w959, w960, w961, w962, w963, w964, w965⟩ := lnl_e (B := gB) (Q := gQ) (s := gs) (by exact om_5df3823a b55.2 b55.1 h77.2 h77.1 p78 h80 h81 h179 h180 h399 h439 h539 h649 h742 h835) (by exact om_4b9a5505 b55.2 b55.1 h77.2 h77.1 p78 h179 h180 h399 h439 h539 h649 h742 h835)
                          have p966 := p143 (by exact om_6dad541c b55.2 b55.1 p56 h77.2 h77.1 p78 h179 h180 h399 h439 h539 h649 h742 h835 w964)
                          have w967 : lnQ gB gQ gs 9 = gQ 9 := lnq9_o (by exact om_3b92feed p78 h439 h539 h649 h742 h835)
                          refine tr_aload_n dX7_readLine_180 rfl ?_
                          refine tr_iload_n dX7_readLine_181 rfl ?_
                          refine q_callVi hE (M' := mX7_readEvent) (as := [_]) dX7_readLine_182 lk7_200 inX7_readEvent seX7_readEvent myX7_readEvent (by decide) ⟨by decide, by decide⟩ rfl (kR7 hS411.1 ta0) (Nat.le_of_ble_eq_true rfl) rfl rfl (by decide) (by decide) (fk_X7_readEvent hS411.1 (gB) ((tkN gB gs)) (gQ) ((srt gB gs)) ta0 (by exact om_702c8789 b55.2 b55.1 p56 h77.2 h77.1 p78 h80 h81 h179 h180 h399 h439 h539 h649 h742 h835 w964) (TxA.kp hT hS411 ta0 rfl rfl rfl (by decide +kernel) (by decide +kernel)) (by (try rw [c427]); first | done | with_reducible assumption | omega) (by (try rw [c430]); first | done | with_reducible assumption | omega) (by (try rw [c433]); first | done | with_reducible assumption | omega) (by (try rw [c436]); first | done | assumption) (by (try rw [c438]); first | done | assumption) (by (try rw [((hS411.cell ta0 (by decide +kernel)).trans c20)]); first | done | with_reducible assumption | omega) (fun q0 z0 => by obtain rfl := Option.some.inj ((d24).symm.trans z0); (try rw [c412]); first | done | with_reducible assumption | omega) (fun q0 z0 => by obtain rfl := Option.some.inj ((d24).symm.trans z0); (try rw [c413]); first | done | with_reducible assumption | omega) (fun q0 z0 => by obtain rfl := Option.some.inj ((d24).symm.trans z0); (try rw [c414]); first | done | with_reducible assumption | omega) (by first | done | with_reducible assumption | omega) (by first | done | with_reducible assumption | omega)) ?_
                          rintro v973 cn' K' N' I968 R969 L970 ⟨rfl, rfl, rfl, rfl, g971, gl972, h974, rp975, rp976, dj977, -⟩
                          have hS978 := hS411.tr g971 (by decide +kernel) (by decide +kernel)
                          have c979 : I968 a23 0 = v25 := (g971.cell ta23 (by decide +kernel)).trans c412
                          have c980 : I968 a23 1 = v29 := (g971.cell ta23 (by decide +kernel)).trans c413
                          have c981 : I968 a23 5 = v37 := (g971.cell ta23 (by decide +kernel)).trans c415
                          have c982 : I968 a23 9 = v41 := (g971.cell ta23 (by decide +kernel)).trans c416
                          have c983 : I968 a23 11 = v45 := (g971.cell ta23 (by decide +kernel)).trans c417
                          have c984 : I968 a23 13 = v49 := (g971.cell ta23 (by decide +kernel)).trans c418
                          have c985 : I968 a0 11 = v53 := (g971.cell ta0 (by decide +kernel)).trans c419
                          have c986 : I968 a0 12 = v57 := (g971.cell ta0 (by decide +kernel)).trans c420
                          have c987 : I968 a23 7 = v61 := (g971.cell ta23 (by decide +kernel)).trans c421
                          have hO988 : FrO 2 a23 T I0 I968 := hO423.tr (rp976 _ d24)
                          have hL989 := hL424.tr gl972 (by decide +kernel)
                          have hN990 : NmC L970 R0 a0 gQ := NmC.kp hN425 gl972 hS978.1 ta0 (by decide +kernel) (by decide +kernel)
                          rcases dj977 with ⟨p991, p992, p993, p994, p995, p996, p997, p998, p999, rp1000, -⟩ | ⟨p1001, p1002, p1003, p1004, -⟩
                          · skip
                            obtain ⟨v1005, c1006⟩ : ∃ v, I968 a0 15 = v := ⟨_, rfl⟩
                            rw [c1006] at p992
                            rw [c422] at p992
                            obtain ⟨v1007, c1008⟩ : ∃ v, I968 a23 3 = v := ⟨_, rfl⟩
                            have b1009 := iv2_3 hS978.1 ta23 c1008
                            have p1010 := p994 _ d24
                            clear p994
                            rw [c1008] at p1010
                            obtain ⟨v1011, c1012⟩ : ∃ v, I968 a0 2 = v := ⟨_, rfl⟩
                            have b1013 := iv7_2 hS978.1 ta0 c1012
                            rw [c1012] at p995
                            obtain ⟨v1014, c1015⟩ : ∃ v, I968 a0 4 = v := ⟨_, rfl⟩
                            have b1016 := iv7_4 hS978.1 ta0 c1015
                            rw [c1015] at p996
                            obtain ⟨v1017, c1018⟩ : ∃ v, I968 a0 3 = v := ⟨_, rfl⟩
                            have b1019 := iv7_3 hS978.1 ta0 c1018
                            rw [c1018] at p997
                            obtain ⟨y1020, c1021⟩ : ∃ v, L970 a0 5 = v := ⟨_, rfl⟩
                            rw [c1021] at p998
                            obtain ⟨v1022, c1023⟩ : ∃ v, I968 a0 6 = v := ⟨_, rfl⟩
                            rw [c1023] at p999
                            have eF := hF.eq
                            have eP := hP.eq
                            obtain ⟨v1024, c1025⟩ : ∃ v, I968 a0 16 = v := ⟨_, rfl⟩
                            exact tr_zret hZ dX7_readLine_185 rfl (ti_b01 (by exact om_f9079521 p991) (by exact om_e6632817 p991)) (by decide) (by decide) ⟨v973, rfl, rfl, rfl, rfl, rfl, hS978, hL989, (by exact om_be53a44c h974), (fun al h1 => by obtain rfl := Option.some.inj (d24.symm.trans h1); exact (((FrK.rf (R := R0) (al := a23) (W := fun _ => True) (T := T)).st g403 (by decide +kernel)).tr ((rp975 _ d24).mono (fun _ _ => trivial)))), (fun dr hd => (Option.some.inj (d24.symm.trans hd)) ▸ hO988), (Or.inl ⟨(by (try rw [w956]); first | done | with_reducible assumption | omega), (by (try rw [w956]); (try rw [c1006]); (try rw [c66]); first | done | with_reducible assumption | omega), (by (try rw [w956]); first | done | with_reducible assumption | exact om_f2d5abae w954 p993 eF), (fun q0 z0 => by obtain rfl := Option.some.inj ((d24).symm.trans z0); (try rw [w956]); (try rw [c979]); first | done | with_reducible assumption | exact om_2757374c p28 w957), (fun q0 z0 => by obtain rfl := Option.some.inj ((d24).symm.trans z0); (try rw [w956]); (try rw [c980]); first | done | with_reducible assumption | exact om_2757374c p32 w958), (fun q0 z0 => by obtain rfl := Option.some.inj ((d24).symm.trans z0); (try rw [w956]); (try rw [c1008]); first | done | with_reducible assumption | exact om_414fd8c3 w959 p1010), (fun q0 z0 => by obtain rfl := Option.some.inj ((d24).symm.trans z0); (try rw [w956]); (try rw [c981]); first | done | with_reducible assumption | exact om_2757374c p40 w960), (fun q0 z0 => by obtain rfl := Option.some.inj ((d24).symm.trans z0); (try rw [w956]); (try rw [c982]); first | done | with_reducible assumption | exact om_2757374c p44 w961), (fun q0 z0 => by obtain rfl := Option.some.inj ((d24).symm.trans z0); (try rw [w956]); (try rw [c983]); first | done | with_reducible assumption | exact om_2757374c p48 w962), (fun q0 z0 => by obtain rfl := Option.some.inj ((d24).symm.trans z0); (try rw [w956]); (try rw [c984]); first | done | with_reducible assumption | exact om_2757374c p52 w963), (by (try rw [w956]); (try rw [c985]); first | done | with_reducible assumption | exact om_2757374c p56 w964), (by (try rw [w956]); (try rw [c986]); first | done | with_reducible assumption | exact om_2757374c p60 w965), (by (try rw [w956]); (try rw [c1012]); first | done | with_reducible assumption | omega), (by (try rw [w956]); (try rw [c1015]); first | done | with_reducible assumption | omega), (by (try rw [w956]); (try rw [c1018]); first | done | with_reducible assumption | omega), (by (try rw [w956]); (try rw [c1021]); first | done | assumption), (by (try rw [w956]); (try rw [c1023]); first | done | assumption), (fun q0 z0 => by obtain rfl := Option.some.inj ((d24).symm.trans z0); (try rw [w956]); (try rw [c987]); first | done | with_reducible assumption | exact om_2757374c p63 w967), (NmC.ln (NmC.bd (k := srt gB gs) hN990 (by exact om_3b92feed p78 h439 h539 h649 h742 h835) (by exact om_cb4e00ab p78 h649 h742 h835)) rfl), (fun E al h1 hT hE => by obtain rfl := Option.some.inj (d24.symm.trans h1); exact AlC.ev hE hT hW0 ta23 (by exact om_6bd57fc0 b55.2 b55.1 p56 h77.2 h77.1 p78 h80 h81 h179 h180 h399 h439 h539 h649 h742 h835 w964) (by exact om_6dad541c b55.2 b55.1 p56 h77.2 h77.1 p78 h179 h180 h399 h439 h539 h649 h742 h835 w964) (by exact om_b0893f53 b35.2 b35.1 p36 w959 p966 p1010) (by exact om_cc298527 p966) (((FrK.rf (R := R0) (al := a23) (W := fun u => u = (gQ 2).toNat) (T := T)).st g403 (by decide +kernel)).tr (rp975 _ d24)) (fun ob ho => rp1000 _ _ d24 ho) (by rw [c987]; exact om_2757374c p63 w967)), trivial⟩), trivial⟩
                          · skip
                            obtain ⟨v1026, c1027⟩ : ∃ v, I968 a0 15 = v := ⟨_, rfl⟩
                            rw [c1027] at p1003
                            obtain ⟨v1028, c1029⟩ : ∃ v, I968 a0 16 = v := ⟨_, rfl⟩
                            rw [c1029] at p1004
                            have eF := hF.eq
                            have eP := hP.eq
                            obtain ⟨v1030, c1031⟩ : ∃ v, I968 a23 3 = v := ⟨_, rfl⟩
                            have b1032 := iv2_3 hS978.1 ta23 c1031
                            obtain ⟨v1033, c1034⟩ : ∃ v, I968 a0 2 = v := ⟨_, rfl⟩
                            have b1035 := iv7_2 hS978.1 ta0 c1034
                            obtain ⟨v1036, c1037⟩ : ∃ v, I968 a0 4 = v := ⟨_, rfl⟩
                            have b1038 := iv7_4 hS978.1 ta0 c1037
                            obtain ⟨v1039, c1040⟩ : ∃ v, I968 a0 3 = v := ⟨_, rfl⟩
                            have b1041 := iv7_3 hS978.1 ta0 c1040
                            obtain ⟨y1042, c1043⟩ : ∃ v, L970 a0 5 = v := ⟨_, rfl⟩
                            obtain ⟨v1044, c1045⟩ : ∃ v, I968 a0 6 = v := ⟨_, rfl⟩
                            exact tr_zret hZ dX7_readLine_185 rfl (ti_b01 (by exact om_d99fa9e4 p1001) (by exact om_d3de7ec9 p1001)) (by decide) (by decide) ⟨v973, rfl, rfl, rfl, rfl, rfl, hS978, hL989, (by exact om_be53a44c h974), (fun al h1 => by obtain rfl := Option.some.inj (d24.symm.trans h1); exact (((FrK.rf (R := R0) (al := a23) (W := fun _ => True) (T := T)).st g403 (by decide +kernel)).tr ((rp975 _ d24).mono (fun _ _ => trivial)))), (fun dr hd => (Option.some.inj (d24.symm.trans hd)) ▸ hO988), (Or.inr (⟨(by (try rw [w956]); first | done | with_reducible assumption | omega), (by (try rw [w956]); first | done | with_reducible assumption | exact om_2cf37690 w954 p1002 p1003 eF), (by (try rw [w956]); (try rw [c1027]); first | done | with_reducible assumption | exact om_621963eb w954 p1003 eF), (by (try rw [w956]); (try rw [c1029]); first | done | with_reducible assumption | exact om_621963eb w955 p1004 eP), trivial⟩)), trivial⟩
              · skip
                replace hF := hF.pos (by exact om_2c3bd904 p56 p78 h179 h180 h399)
                replace hP := hP.pos (by exact om_2c3bd904 p56 p78 h179 h180 h399)
                refine tr_aload_n dX7_readLine_57 rfl ?_
                refine q_bipush dX7_readLine_58 (by decide +kernel) ?_
                intro v1046 h1047
                refine q_callVi hE (M' := mX7_fail) (as := [_]) dX7_readLine_60 lk7_64 inX7_fail seX7_fail myX7_fail (by decide) ⟨by decide, by decide⟩ rfl (kR7 hS0.1 ta0) (Nat.le_of_ble_eq_true rfl) rfl rfl (by decide) (by decide) (fk_X7_fail hS0.1  ta0 (by exact om_54a92a42 h1047)) ?_
                rintro v1053 cn' K' N' I1048 R1049 L1050 ⟨rfl, rfl, rfl, rfl, rfl, g1051, h1054, p1055, p1056, p1057, -⟩
                have hS1058 := hS0.tr g1051 (by decide +kernel) (by decide +kernel)
                have c1059 : I1048 a0 2 = v1 := (g1051.cell ta0 (by decide +kernel)).trans c2
                have c1060 : I1048 a0 4 = v5 := (g1051.cell ta0 (by decide +kernel)).trans c6
                have c1061 : I1048 a0 3 = v9 := (g1051.cell ta0 (by decide +kernel)).trans c10
                have c1062 : I1048 a0 6 = v16 := (g1051.cell ta0 (by decide +kernel)).trans c17
                have c1063 : I1048 a23 0 = v25 := (g1051.cell ta23 (by decide +kernel)).trans c26
                have c1064 : I1048 a23 1 = v29 := (g1051.cell ta23 (by decide +kernel)).trans c30
                have c1065 : I1048 a23 3 = v33 := (g1051.cell ta23 (by decide +kernel)).trans c34
                have c1066 : I1048 a23 5 = v37 := (g1051.cell ta23 (by decide +kernel)).trans c38
                have c1067 : I1048 a23 9 = v41 := (g1051.cell ta23 (by decide +kernel)).trans c42
                have c1068 : I1048 a23 11 = v45 := (g1051.cell ta23 (by decide +kernel)).trans c46
                have c1069 : I1048 a23 13 = v49 := (g1051.cell ta23 (by decide +kernel)).trans c50
                have c1070 : I1048 a0 11 = v53 := (g1051.cell ta0 (by decide +kernel)).trans c54
                have c1071 : I1048 a0 12 = v57 := (g1051.cell ta0 (by decide +kernel)).trans c58
                have c1072 : I1048 a23 7 = v61 := (g1051.cell ta23 (by decide +kernel)).trans c62
                have hO1073 : FrO 2 a23 T I0 I1048 := hO0.st g1051 (by decide +kernel)
                obtain ⟨v1074, c1075⟩ : ∃ v, I1048 a0 15 = v := ⟨_, rfl⟩
                rw [c1075] at p1056
                obtain ⟨v1076, c1077⟩ : ∃ v, I1048 a0 16 = v := ⟨_, rfl⟩
                rw [c1077] at p1057
                rw [c6] at p1057
                have eF := hF.eq
                have eP := hP.eq
                exact tr_zret hZ dX7_readLine_63 rfl (ti_b01 (by exact om_d99fa9e4 p1055) (by exact om_d3de7ec9 p1055)) (by decide) (by decide) ⟨v1053, rfl, rfl, rfl, rfl, rfl, hS1058, hL0, (by exact om_be53a44c h1054), (fun al h1 => by obtain rfl := Option.some.inj (d24.symm.trans h1); exact ((FrK.rf (R := R0) (al := a23) (W := fun _ => True) (T := T)).st g1051 (by decide +kernel))), (fun dr hd => (Option.some.inj (d24.symm.trans hd)) ▸ hO1073), (Or.inr (⟨(by first | done | with_reducible assumption | omega), (by first | done | with_reducible assumption | exact om_3a8e1f7c eF), (by (try rw [c1075]); first | done | with_reducible assumption | exact om_1428d4dd h1047 p1056 eF), (by (try rw [c1077]); first | done | with_reducible assumption | exact om_3998a42e p8 p1057 eP), trivial⟩)), trivial⟩
          · skip
            exfalso; exact om_3a97d4a5 p138 h177
      · skip
        exfalso; exact om_3a97d4a5 p92 h127
  · skip
    replace hF := hF.pos (by exact om_673f8c18 p78 h80 h81)
    replace hP := hP.pos (by exact om_673f8c18 p78 h80 h81)
    refine tr_aload_n dX7_readLine_10 rfl ?_
    refine q_iconst dX7_readLine_11 (by decide) ?_
    intro v1078 h1079
    refine q_callVi hE (M' := mX7_fail) (as := [_]) dX7_readLine_12 lk7_64 inX7_fail seX7_fail myX7_fail (by decide) ⟨by decide, by decide⟩ rfl (kR7 hS0.1 ta0) (Nat.le_of_ble_eq_true rfl) rfl rfl (by decide) (by decide) (fk_X7_fail hS0.1  ta0 (by exact om_95922198 h1079)) ?_
    rintro v1085 cn' K' N' I1080 R1081 L1082 ⟨rfl, rfl, rfl, rfl, rfl, g1083, h1086, p1087, p1088, p1089, -⟩
    have hS1090 := hS0.tr g1083 (by decide +kernel) (by decide +kernel)
    have c1091 : I1080 a0 2 = v1 := (g1083.cell ta0 (by decide +kernel)).trans c2
    have c1092 : I1080 a0 4 = v5 := (g1083.cell ta0 (by decide +kernel)).trans c6
    have c1093 : I1080 a0 3 = v9 := (g1083.cell ta0 (by decide +kernel)).trans c10
    have c1094 : I1080 a0 6 = v16 := (g1083.cell ta0 (by decide +kernel)).trans c17
    have c1095 : I1080 a23 0 = v25 := (g1083.cell ta23 (by decide +kernel)).trans c26
    have c1096 : I1080 a23 1 = v29 := (g1083.cell ta23 (by decide +kernel)).trans c30
    have c1097 : I1080 a23 3 = v33 := (g1083.cell ta23 (by decide +kernel)).trans c34
    have c1098 : I1080 a23 5 = v37 := (g1083.cell ta23 (by decide +kernel)).trans c38
    have c1099 : I1080 a23 9 = v41 := (g1083.cell ta23 (by decide +kernel)).trans c42
    have c1100 : I1080 a23 11 = v45 := (g1083.cell ta23 (by decide +kernel)).trans c46
    have c1101 : I1080 a23 13 = v49 := (g1083.cell ta23 (by decide +kernel)).trans c50
    have c1102 : I1080 a0 11 = v53 := (g1083.cell ta0 (by decide +kernel)).trans c54
    have c1103 : I1080 a0 12 = v57 := (g1083.cell ta0 (by decide +kernel)).trans c58
    have c1104 : I1080 a23 7 = v61 := (g1083.cell ta23 (by decide +kernel)).trans c62
    have hO1105 : FrO 2 a23 T I0 I1080 := hO0.st g1083 (by decide +kernel)
    obtain ⟨v1106, c1107⟩ : ∃ v, I1080 a0 15 = v := ⟨_, rfl⟩
    rw [c1107] at p1088
    obtain ⟨v1108, c1109⟩ : ∃ v, I1080 a0 16 = v := ⟨_, rfl⟩
    rw [c1109] at p1089
    rw [c6] at p1089
    have eF := hF.eq
    have eP := hP.eq
    exact tr_zret hZ dX7_readLine_15 rfl (ti_b01 (by exact om_d99fa9e4 p1087) (by exact om_d3de7ec9 p1087)) (by decide) (by decide) ⟨v1085, rfl, rfl, rfl, rfl, rfl, hS1090, hL0, (by exact om_be53a44c h1086), (fun al h1 => by obtain rfl := Option.some.inj (d24.symm.trans h1); exact ((FrK.rf (R := R0) (al := a23) (W := fun _ => True) (T := T)).st g1083 (by decide +kernel))), (fun dr hd => (Option.some.inj (d24.symm.trans hd)) ▸ hO1105), (Or.inr (⟨(by first | done | with_reducible assumption | omega), (by first | done | with_reducible assumption | exact om_7fac24c5 eF), (by (try rw [c1107]); first | done | with_reducible assumption | exact om_9adad658 h1079 p1088 eF), (by (try rw [c1109]); first | done | with_reducible assumption | exact om_3998a42e p8 p1089 eP), trivial⟩)), trivial⟩
