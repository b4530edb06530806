set_option maxHeartbeats 4000000 in
theorem fk_X7_isToldAgain {l : Launch} {T : Nat → Nat} {cn : Nat} {K N : Nat → Nat} {I0 : cz_I} {R0 : cz_R} {L0 : cz_L} {d : Int} (hW0 : Wf T cn K N I0 R0 d) (gQ : Nat → Int) (gk : Int) {a0 : Nat} (ta0 : T a0 = 7) {x1 : Int32} (pre0 : x1.toInt = (gk)) (pre1 : (I0 a0 11).toInt = (gQ 7)) (pre2 : (I0 a0 12).toInt = (gQ 8)) : ConE l mX7_isToldAgain [.ref a0, .int x1] cn K N I0 R0 L0 (ca_i (fun v cn' K' N' I' R' L' => cn = cn' ∧ K = K' ∧ N = N' ∧ I0 = I' ∧ R0 = R' ∧ L0 = L' ∧ (0 ≤ v.toInt ∧ v.toInt ≤ 1) ∧ (((v.toInt = 1) ∧ ((Agn ((gk)) ((gQ 7)) ((gQ 8)))) ∧ True) ∨ ((v.toInt = 0) ∧ ((NAg ((gk)) ((gQ 7)) ((gQ 8)))) ∧ True)) ∧ True)) := by
  refine ConE.of (by decide +kernel) rfl (Nat.le_of_ble_eq_true rfl) rfl (fun X hX hZ hE => ?_)
  subst hX
  have p1 := pre0
  obtain ⟨v2, c3⟩ : ∃ v, I0 a0 11 = v := ⟨_, rfl⟩
  have b4 := iv7_11 hW0 ta0 c3
  have p5 := pre1
  rw [c3] at p5
  obtain ⟨v6, c7⟩ : ∃ v, I0 a0 12 = v := ⟨_, rfl⟩
  have b8 := iv7_12 hW0 ta0 c7
  have p9 := pre2
  rw [c7] at p9
  refine tr_iload_n dX7_isToldAgain_0 rfl ?_
  refine q_bipush dX7_isToldAgain_1 (by decide +kernel) ?_
  intro v10 h11
  refine q_icmp_ne 13 dX7_isToldAgain_3 (by decide) (fun h12 => ?_) (fun h12 => ?_)
  · skip
    refine tr_iload_n dX7_isToldAgain_13 rfl ?_
    refine q_bipush dX7_isToldAgain_14 (by decide +kernel) ?_
    intro v13 h14
    refine q_icmp_ne 30 dX7_isToldAgain_16 (by decide) (fun h15 => ?_) (fun h15 => ?_)
    · skip
      refine q_iconst dX7_isToldAgain_30 (by decide) ?_
      intro v16 h17
      exact tr_zret hZ dX7_isToldAgain_31 rfl (ti_b01 (by exact om_d99fa9e4 h17) (by exact om_d3de7ec9 h17)) (by decide) (by decide) ⟨v16, rfl, rfl, rfl, rfl, rfl, rfl, rfl, (by exact om_3b50ecb9 h17), (Or.inr (⟨(by first | done | with_reducible assumption | omega), (by unfold NAg; exact om_bbd0825b pre0 h11 h12 h14 h15), trivial⟩)), trivial⟩
    · skip
      refine tr_aload_n dX7_isToldAgain_19 rfl ?_
      refine q_getZ dX7_isToldAgain_20 fl7_35 (kR7 hW0 ta0) c7 ?_
      refine q_if_eq 30 dX7_isToldAgain_23 (by decide) (fun h18 => ?_) (fun h18 => ?_)
      · skip
        refine q_iconst dX7_isToldAgain_30 (by decide) ?_
        intro v19 h20
        exact tr_zret hZ dX7_isToldAgain_31 rfl (ti_b01 (by exact om_d99fa9e4 h20) (by exact om_d3de7ec9 h20)) (by decide) (by decide) ⟨v19, rfl, rfl, rfl, rfl, rfl, rfl, rfl, (by exact om_3b50ecb9 h20), (Or.inr (⟨(by first | done | with_reducible assumption | omega), (by unfold NAg; exact om_8059628f pre0 p9 h14 h15 h18), trivial⟩)), trivial⟩
      · skip
        refine q_iconst dX7_isToldAgain_26 (by decide) ?_
        intro v21 h22
        refine tr_goto 31 dX7_isToldAgain_27 (by decide) ?_
        exact tr_zret hZ dX7_isToldAgain_31 rfl (ti_b01 (by exact om_f9079521 h22) (by exact om_e6632817 h22)) (by decide) (by decide) ⟨v21, rfl, rfl, rfl, rfl, rfl, rfl, rfl, (by exact om_d753bc65 h22), (Or.inl ⟨(by first | done | with_reducible assumption | omega), (by unfold Agn; exact om_92cbb023 pre0 b4.2 b4.1 p5 b8.2 b8.1 p9 h14 h15 h18), trivial⟩), trivial⟩
  · skip
    refine tr_aload_n dX7_isToldAgain_6 rfl ?_
    refine q_getZ dX7_isToldAgain_7 fl7_31 (kR7 hW0 ta0) c3 ?_
    refine q_if_ne 26 dX7_isToldAgain_10 (by decide) (fun h23 => ?_) (fun h23 => ?_)
    · skip
      refine q_iconst dX7_isToldAgain_26 (by decide) ?_
      intro v24 h25
      refine tr_goto 31 dX7_isToldAgain_27 (by decide) ?_
      exact tr_zret hZ dX7_isToldAgain_31 rfl (ti_b01 (by exact om_f9079521 h25) (by exact om_e6632817 h25)) (by decide) (by decide) ⟨v24, rfl, rfl, rfl, rfl, rfl, rfl, rfl, (by exact om_d753bc65 h25), (Or.inl ⟨(by first | done | with_reducible assumption | omega), (by unfold Agn; exact om_ab5e4761 pre0 b4.2 b4.1 p5 b8.2 b8.1 p9 h11 h12 h23), trivial⟩), trivial⟩
    · skip
      refine tr_iload_n dX7_isToldAgain_13 rfl ?_
      refine q_bipush dX7_isToldAgain_14 (by decide +kernel) ?_
      intro v26 h27
      refine q_icmp_ne 30 dX7_isToldAgain_16 (by decide) (fun h28 => ?_) (fun h28 => ?_)
      · skip
        refine q_iconst dX7_isToldAgain_30 (by decide) ?_
        intro v29 h30
        exact tr_zret hZ dX7_isToldAgain_31 rfl (ti_b01 (by exact om_d99fa9e4 h30) (by exact om_d3de7ec9 h30)) (by decide) (by decide) ⟨v29, rfl, rfl, rfl, rfl, rfl, rfl, rfl, (by exact om_3b50ecb9 h30), (Or.inr (⟨(by first | done | with_reducible assumption | omega), (by unfold NAg; exact om_d51a540c pre0 p5 h11 h12 h23), trivial⟩)), trivial⟩
      · skip
        exfalso; exact om_18933ffd pre0 h11 h12 h27 h28
set_option maxHeartbeats 4000000 in
theorem fk_X7_isFull {l : Launch} {T : Nat → Nat} {cn : Nat} {K N : Nat → Nat} {I0 : cz_I} {R0 : cz_R} {L0 : cz_L} {d : Int} (hW0 : Wf T cn K N I0 R0 d) (gQ : Nat → Int) (gk : Int) {a0 : Nat} (ta0 : T a0 = 7) {x1 : Int32} (hx1 : 0 ≤ x1.toInt ∧ x1.toInt ≤ 10) (pre0 : ∀ b1, R0 a0 10 = some b1 → (I0 b1 3).toInt = (gQ 2)) (pre1 : ∀ b1, R0 a0 10 = some b1 → (I0 b1 5).toInt = (gQ 3)) (pre2 : ∀ b1, R0 a0 10 = some b1 → (I0 b1 9).toInt = (gQ 4)) (pre3 : ∀ b1, R0 a0 10 = some b1 → (I0 b1 11).toInt = (gQ 5)) (pre4 : ∀ b1, R0 a0 10 = some b1 → (I0 b1 13).toInt = (gQ 6)) (pre5 : x1.toInt = (gk)) : ConE l mX7_isFull [.ref a0, .int x1] cn K N I0 R0 L0 (ca_i (fun v cn' K' N' I' R' L' => cn = cn' ∧ K = K' ∧ N = N' ∧ I0 = I' ∧ R0 = R' ∧ L0 = L' ∧ (0 ≤ v.toInt ∧ v.toInt ≤ 1) ∧ (((v.toInt = 1) ∧ ((FullD ((gk)) ((gQ 2)) ((gQ 3)) ((gQ 4)) ((gQ 5)) ((gQ 6)))) ∧ True) ∨ ((v.toInt = 0) ∧ ((Fl5 ((gk)) ((gQ 3)))) ∧ ((Fl7 ((gk)) ((gQ 4)))) ∧ ((Fl8 ((gk)) ((gQ 5)))) ∧ ((Fl9 ((gk)) ((gQ 6)))) ∧ ((FlE ((gk)) ((gQ 2)))) ∧ True)) ∧ True)) := by
  refine ConE.of (by decide +kernel) rfl (Nat.le_of_ble_eq_true rfl) rfl (fun X hX hZ hE => ?_)
  subst hX
  obtain ⟨a1, d2, ta1⟩ := rf7_10 hW0 ta0
  obtain ⟨v3, c4⟩ : ∃ v, I0 a1 3 = v := ⟨_, rfl⟩
  have b5 := iv2_3 hW0 ta1 c4
  have p6 := pre0 _ d2
  rw [c4] at p6
  obtain ⟨v7, c8⟩ : ∃ v, I0 a1 5 = v := ⟨_, rfl⟩
  have b9 := iv2_5 hW0 ta1 c8
  have p10 := pre1 _ d2
  rw [c8] at p10
  obtain ⟨v11, c12⟩ : ∃ v, I0 a1 9 = v := ⟨_, rfl⟩
  have b13 := iv2_9 hW0 ta1 c12
  have p14 := pre2 _ d2
  rw [c12] at p14
  obtain ⟨v15, c16⟩ : ∃ v, I0 a1 11 = v := ⟨_, rfl⟩
  have b17 := iv2_11 hW0 ta1 c16
  have p18 := pre3 _ d2
  rw [c16] at p18
  obtain ⟨v19, c20⟩ : ∃ v, I0 a1 13 = v := ⟨_, rfl⟩
  have b21 := iv2_13 hW0 ta1 c20
  have p22 := pre4 _ d2
  rw [c20] at p22
  have p23 := pre5
  refine tr_iload_n dX7_isFull_0 rfl ?_
  by_cases h24 : x1.toInt = 5
  · skip
    refine tr_tabIn (off := 41) 42 dX7_isFull_1 (by exact om_f764bb99 pre5 h24) (by exact om_94dce41b pre5 h24) (by rw [h24]; decide +kernel) (by decide) ?_
    refine tr_aload_n dX7_isFull_42 rfl ?_
    refine tr_getR dX7_isFull_43 fl7_22 (kR7 hW0 ta0) d2 ?_
    refine q_getI dX7_isFull_46 fl7_61 (kR2 hW0 ta1) c8 ?_
    refine q_bipush dX7_isFull_49 (by decide +kernel) ?_
    intro v25 h26
    refine q_icmp_lt 58 dX7_isFull_51 (by decide) (fun h27 => ?_) (fun h27 => ?_)
    · skip
      refine q_iconst dX7_isFull_58 (by decide) ?_
      intro v28 h29
      exact tr_zret hZ dX7_isFull_59 rfl (ti_b01 (by exact om_d99fa9e4 h29) (by exact om_d3de7ec9 h29)) (by decide) (by decide) ⟨v28, rfl, rfl, rfl, rfl, rfl, rfl, rfl, (by exact om_3b50ecb9 h29), (Or.inr (⟨(by first | done | with_reducible assumption | omega), (by unfold Fl5; exact om_0fd35092 b9.2 b9.1 p10 h26 h27), (by unfold Fl7; exact om_26212e9f pre5 h24), (by unfold Fl8; exact om_d8f4412b pre5 h24), (by unfold Fl9; exact om_1c72f742 pre5 h24), (by unfold FlE; exact om_0d87c59b pre5 h24), trivial⟩)), trivial⟩
    · skip
      refine q_iconst dX7_isFull_54 (by decide) ?_
      intro v30 h31
      refine tr_goto 59 dX7_isFull_55 (by decide) ?_
      exact tr_zret hZ dX7_isFull_59 rfl (ti_b01 (by exact om_f9079521 h31) (by exact om_e6632817 h31)) (by decide) (by decide) ⟨v30, rfl, rfl, rfl, rfl, rfl, rfl, rfl, (by exact om_d753bc65 h31), (Or.inl ⟨(by first | done | with_reducible assumption | omega), (by unfold FullD; exact om_37d6bc22 pre5 b9.2 b9.1 p10 h24 h26 h27), trivial⟩), trivial⟩
  · skip
    by_cases h32 : x1.toInt = 6
    · skip
      refine tr_tabIn (off := 39) 40 dX7_isFull_1 (by exact om_a39226b3 pre5 h32) (by exact om_e27afa32 pre5 h32) (by rw [h32]; decide +kernel) (by decide) ?_
      refine q_iconst dX7_isFull_40 (by decide) ?_
      intro v33 h34
      exact tr_zret hZ dX7_isFull_41 rfl (ti_b01 (by exact om_d99fa9e4 h34) (by exact om_d3de7ec9 h34)) (by decide) (by decide) ⟨v33, rfl, rfl, rfl, rfl, rfl, rfl, rfl, (by exact om_3b50ecb9 h34), (Or.inr (⟨(by first | done | with_reducible assumption | omega), (by unfold Fl5; exact om_b6de32d5 pre5 h32), (by unfold Fl7; exact om_de48b45a pre5 h32), (by unfold Fl8; exact om_732e673b pre5 h32), (by unfold Fl9; exact om_854460c5 pre5 h32), (by unfold FlE; exact om_94c7d801 pre5 h32), trivial⟩)), trivial⟩
    · skip
      by_cases h35 : x1.toInt = 7
      · skip
        refine tr_tabIn (off := 59) 60 dX7_isFull_1 (by exact om_b6945d8c pre5 h35) (by exact om_7eab330d pre5 h35) (by rw [h35]; decide +kernel) (by decide) ?_
        refine tr_aload_n dX7_isFull_60 rfl ?_
        refine tr_getR dX7_isFull_61 fl7_22 (kR7 hW0 ta0) d2 ?_
        refine q_getI dX7_isFull_64 fl7_156 (kR2 hW0 ta1) c12 ?_
        refine q_iconst dX7_isFull_67 (by decide) ?_
        intro v36 h37
        refine q_icmp_lt 75 dX7_isFull_68 (by decide) (fun h38 => ?_) (fun h38 => ?_)
        · skip
          refine q_iconst dX7_isFull_75 (by decide) ?_
          intro v39 h40
          exact tr_zret hZ dX7_isFull_76 rfl (ti_b01 (by exact om_d99fa9e4 h40) (by exact om_d3de7ec9 h40)) (by decide) (by decide) ⟨v39, rfl, rfl, rfl, rfl, rfl, rfl, rfl, (by exact om_3b50ecb9 h40), (Or.inr (⟨(by first | done | with_reducible assumption | omega), (by unfold Fl5; exact om_15e80d67 pre5 h35), (by unfold Fl7; exact om_26b08f92 b13.2 b13.1 p14 h37 h38), (by unfold Fl8; exact om_322fa30e pre5 h35), (by unfold Fl9; exact om_25559a1d pre5 h35), (by unfold FlE; exact om_350946f4 pre5 h35), trivial⟩)), trivial⟩
        · skip
          refine q_iconst dX7_isFull_71 (by decide) ?_
          intro v41 h42
          refine tr_goto 76 dX7_isFull_72 (by decide) ?_
          exact tr_zret hZ dX7_isFull_76 rfl (ti_b01 (by exact om_f9079521 h42) (by exact om_e6632817 h42)) (by decide) (by decide) ⟨v41, rfl, rfl, rfl, rfl, rfl, rfl, rfl, (by exact om_d753bc65 h42), (Or.inl ⟨(by first | done | with_reducible assumption | omega), (by unfold FullD; exact om_08855337 pre5 b13.2 b13.1 p14 h35 h37 h38), trivial⟩), trivial⟩
      · skip
        by_cases h43 : x1.toInt = 8
        · skip
          refine tr_tabIn (off := 76) 77 dX7_isFull_1 (by exact om_4fac0507 pre5 h43) (by exact om_de750999 pre5 h43) (by rw [h43]; decide +kernel) (by decide) ?_
          refine tr_aload_n dX7_isFull_77 rfl ?_
          refine tr_getR dX7_isFull_78 fl7_22 (kR7 hW0 ta0) d2 ?_
          refine q_getI dX7_isFull_81 fl7_159 (kR2 hW0 ta1) c16 ?_
          refine q_bipush dX7_isFull_84 (by decide +kernel) ?_
          intro v44 h45
          refine q_icmp_lt 93 dX7_isFull_86 (by decide) (fun h46 => ?_) (fun h46 => ?_)
          · skip
            refine q_iconst dX7_isFull_93 (by decide) ?_
            intro v47 h48
            exact tr_zret hZ dX7_isFull_94 rfl (ti_b01 (by exact om_d99fa9e4 h48) (by exact om_d3de7ec9 h48)) (by decide) (by decide) ⟨v47, rfl, rfl, rfl, rfl, rfl, rfl, rfl, (by exact om_3b50ecb9 h48), (Or.inr (⟨(by first | done | with_reducible assumption | omega), (by unfold Fl5; exact om_b2e2ceb6 pre5 h43), (by unfold Fl7; exact om_bb1b8503 pre5 h43), (by unfold Fl8; exact om_b3d6e00b b17.2 b17.1 p18 h45 h46), (by unfold Fl9; exact om_80330c22 pre5 h43), (by unfold FlE; exact om_4d69553e pre5 h43), trivial⟩)), trivial⟩
          · skip
            refine q_iconst dX7_isFull_89 (by decide) ?_
            intro v49 h50
            refine tr_goto 94 dX7_isFull_90 (by decide) ?_
            exact tr_zret hZ dX7_isFull_94 rfl (ti_b01 (by exact om_f9079521 h50) (by exact om_e6632817 h50)) (by decide) (by decide) ⟨v49, rfl, rfl, rfl, rfl, rfl, rfl, rfl, (by exact om_d753bc65 h50), (Or.inl ⟨(by first | done | with_reducible assumption | omega), (by unfold FullD; exact om_f4fa969e pre5 b17.2 b17.1 p18 h43 h45 h46), trivial⟩), trivial⟩
        · skip
          by_cases h51 : x1.toInt = 9
          · skip
            refine tr_tabIn (off := 94) 95 dX7_isFull_1 (by exact om_4e85e0d7 pre5 h51) (by exact om_2dc8e130 pre5 h51) (by rw [h51]; decide +kernel) (by decide) ?_
            refine tr_aload_n dX7_isFull_95 rfl ?_
            refine tr_getR dX7_isFull_96 fl7_22 (kR7 hW0 ta0) d2 ?_
            refine q_getI dX7_isFull_99 fl7_162 (kR2 hW0 ta1) c20 ?_
            refine q_iconst dX7_isFull_102 (by decide) ?_
            intro v52 h53
            refine q_icmp_lt 110 dX7_isFull_103 (by decide) (fun h54 => ?_) (fun h54 => ?_)
            · skip
              refine q_iconst dX7_isFull_110 (by decide) ?_
              intro v55 h56
              exact tr_zret hZ dX7_isFull_111 rfl (ti_b01 (by exact om_d99fa9e4 h56) (by exact om_d3de7ec9 h56)) (by decide) (by decide) ⟨v55, rfl, rfl, rfl, rfl, rfl, rfl, rfl, (by exact om_3b50ecb9 h56), (Or.inr (⟨(by first | done | with_reducible assumption | omega), (by unfold Fl5; exact om_a05623e1 pre5 h51), (by unfold Fl7; exact om_a2e9d891 pre5 h51), (by unfold Fl8; exact om_e7bcbac2 pre5 h51), (by unfold Fl9; exact om_6fbc233a b21.2 b21.1 p22 h53 h54), (by unfold FlE; exact om_6c571424 pre5 h51), trivial⟩)), trivial⟩
            · skip
              refine q_iconst dX7_isFull_106 (by decide) ?_
              intro v57 h58
              refine tr_goto 111 dX7_isFull_107 (by decide) ?_
              exact tr_zret hZ dX7_isFull_111 rfl (ti_b01 (by exact om_f9079521 h58) (by exact om_e6632817 h58)) (by decide) (by decide) ⟨v57, rfl, rfl, rfl, rfl, rfl, rfl, rfl, (by exact om_d753bc65 h58), (Or.inl ⟨(by first | done | with_reducible assumption | omega), (by unfold FullD; exact om_5bac9a02 pre5 b21.2 b21.1 p22 h51 h53 h54), trivial⟩), trivial⟩
          · skip
            by_cases h59 : x1.toInt = 10
            · skip
              refine tr_tabIn (off := 39) 40 dX7_isFull_1 (by exact om_0f0fe5ca pre5 h59) (by exact om_67dffd61 pre5 h59) (by rw [h59]; decide +kernel) (by decide) ?_
              refine q_iconst dX7_isFull_40 (by decide) ?_
              intro v60 h61
              exact tr_zret hZ dX7_isFull_41 rfl (ti_b01 (by exact om_d99fa9e4 h61) (by exact om_d3de7ec9 h61)) (by decide) (by decide) ⟨v60, rfl, rfl, rfl, rfl, rfl, rfl, rfl, (by exact om_3b50ecb9 h61), (Or.inr (⟨(by first | done | with_reducible assumption | omega), (by unfold Fl5; exact om_65f7631d pre5 h59), (by unfold Fl7; exact om_621f7ba7 pre5 h59), (by unfold Fl8; exact om_7f14e00d pre5 h59), (by unfold Fl9; exact om_a424244a pre5 h59), (by unfold FlE; exact om_fccbafcd pre5 h59), trivial⟩)), trivial⟩
            · skip
              refine tr_tabOut 112 dX7_isFull_1 (by exact om_393b4cea hx1.2 hx1.1 pre5 h24 h32 h35 h43 h51 h59) (by decide) ?_
              refine tr_aload_n dX7_isFull_112 rfl ?_
              refine tr_getR dX7_isFull_113 fl7_22 (kR7 hW0 ta0) d2 ?_
              refine q_getI dX7_isFull_116 fl7_165 (kR2 hW0 ta1) c4 ?_
              refine q_bipush dX7_isFull_119 (by decide +kernel) ?_
              intro v62 h63
              refine q_icmp_lt 128 dX7_isFull_121 (by decide) (fun h64 => ?_) (fun h64 => ?_)
              · skip
                refine q_iconst dX7_isFull_128 (by decide) ?_
                intro v65 h66
                exact tr_zret hZ dX7_isFull_129 rfl (ti_b01 (by exact om_d99fa9e4 h66) (by exact om_d3de7ec9 h66)) (by decide) (by decide) ⟨v65, rfl, rfl, rfl, rfl, rfl, rfl, rfl, (by exact om_3b50ecb9 h66), (Or.inr (⟨(by first | done | with_reducible assumption | omega), (by unfold Fl5; exact om_27e6c172 pre5 h24 h32 h35 h43 h51 h59), (by unfold Fl7; exact om_09f5b389 pre5 h35 h43 h51 h59), (by unfold Fl8; exact om_df50da12 pre5 h43 h51 h59), (by unfold Fl9; exact om_89e02d2d pre5 h51 h59), (by unfold FlE; exact om_64b64f79 b5.2 b5.1 p6 h63 h64), trivial⟩)), trivial⟩
              · skip
                refine q_iconst dX7_isFull_124 (by decide) ?_
                intro v67 h68
                refine tr_goto 129 dX7_isFull_125 (by decide) ?_
                exact tr_zret hZ dX7_isFull_129 rfl (ti_b01 (by exact om_f9079521 h68) (by exact om_e6632817 h68)) (by decide) (by decide) ⟨v67, rfl, rfl, rfl, rfl, rfl, rfl, rfl, (by exact om_d753bc65 h68), (Or.inl ⟨(by first | done | with_reducible assumption | omega), (by unfold FullD; exact om_46b89883 hx1.2 hx1.1 pre5 b5.2 b5.1 p6 h24 h32 h35 h43 h51 h59 h63 h64), trivial⟩), trivial⟩
def wik_X7_readLine : List Nat := [128, 129, 131, 133, 135, 137, 139, 141, 192, 193, 194, 195, 256, 257, 258, 259, 260, 261, 320, 321, 322, 323, 384, 450, 451, 452, 454, 455, 456, 457, 459, 460, 463, 464, 1215, 1343, 1599]
def wrk_X7_readLine : List Nat := []
def wlk_X7_readLine : List Nat := [453, 1663, 1727]
set_option maxHeartbeats 4000000 in
theorem fk_X7_readLine {l : Launch} {T : Nat → Nat} {cn : Nat} {K N : Nat → Nat} {I0 : cz_I} {R0 : cz_R} {L0 : cz_L} {d : Int} (hW0 : Wf T cn K N I0 R0 d) (gB : cz_B) (gs : Int) (gQ : Nat → Int) {a0 : Nat} (ta0 : T a0 = 7) (hT : ∀ t, R0 a0 0 = some t → Tx I0 t gB) (hN : NmC L0 R0 a0 gQ) (pre0 : (I0 a0 2).toInt = (tkN gB gs)) (pre1 : (I0 a0 4).toInt = (tkS gB gs)) (pre2 : (I0 a0 3).toInt = (tkK gB gs)) (pre3 : (AtW ((tkK gB gs)) ((L0 a0 5).toInt) ((tkW gB gs)))) (pre4 : (AtV ((tkK gB gs)) ((I0 a0 6).toInt) ((tkV gB gs)))) (pre5 : (I0 a0 1).toInt = (gB.2)) (pre6 : ∀ b1, R0 a0 10 = some b1 → (I0 b1 0).toInt = (gQ 0)) (pre7 : ∀ b1, R0 a0 10 = some b1 → (I0 b1 1).toInt = (gQ 1)) (pre8 : ∀ b1, R0 a0 10 = some b1 → (I0 b1 3).toInt = (gQ 2)) (pre9 : ∀ b1, R0 a0 10 = some b1 → (I0 b1 5).toInt = (gQ 3)) (pre10 : ∀ b1, R0 a0 10 = some b1 → (I0 b1 9).toInt = (gQ 4)) (pre11 : ∀ b1, R0 a0 10 = some b1 → (I0 b1 11).toInt = (gQ 5)) (pre12 : ∀ b1, R0 a0 10 = some b1 → (I0 b1 13).toInt = (gQ 6)) (pre13 : (I0 a0 11).toInt = (gQ 7)) (pre14 : (I0 a0 12).toInt = (gQ 8)) : ConE l mX7_readLine [.ref a0] cn K N I0 R0 L0 (ca_i (fun v cn' K' N' I' R' L' => cn = cn' ∧ K = K' ∧ N = N' ∧ R0 = R' ∧ St T cn K N d wik_X7_readLine wrk_X7_readLine I0 R0 I' R0 ∧ LgS T wlk_X7_readLine L0 L' ∧ (0 ≤ v.toInt ∧ v.toInt ≤ 1) ∧ (∀ dr, R0 a0 10 = some dr → FrO 2 dr T I0 I') ∧ (((v.toInt = 1) ∧ ((I' a0 15).toInt = (I0 a0 15).toInt) ∧ ((lnF gB gQ gs) = 0) ∧ (∀ b1, R0 a0 10 = some b1 → (I' b1 0).toInt = (lnQ gB gQ gs 0)) ∧ (∀ b1, R0 a0 10 = some b1 → (I' b1 1).toInt = (lnQ gB gQ gs 1)) ∧ (∀ b1, R0 a0 10 = some b1 → (I' b1 3).toInt = (lnQ gB gQ gs 2)) ∧ (∀ b1, R0 a0 10 = some b1 → (I' b1 5).toInt = (lnQ gB gQ gs 3)) ∧ (∀ b1, R0 a0 10 = some b1 → (I' b1 9).toInt = (lnQ gB gQ gs 4)) ∧ (∀ b1, R0 a0 10 = some b1 → (I' b1 11).toInt = (lnQ gB gQ gs 5)) ∧ (∀ b1, R0 a0 10 = some b1 → (I' b1 13).toInt = (lnQ gB gQ gs 6)) ∧ ((I' a0 11).toInt = (lnQ gB gQ gs 7)) ∧ ((I' a0 12).toInt = (lnQ gB gQ gs 8)) ∧ ((I' a0 2).toInt = (tkN gB (lnS gB gQ gs))) ∧ ((I' a0 4).toInt = (tkS gB (lnS gB gQ gs))) ∧ ((I' a0 3).toInt = (tkK gB (lnS gB gQ gs))) ∧ ((AtW ((tkK gB (lnS gB gQ gs))) ((L' a0 5).toInt) ((tkW gB (lnS gB gQ gs))))) ∧ ((AtV ((tkK gB (lnS gB gQ gs))) ((I' a0 6).toInt) ((tkV gB (lnS gB gQ gs))))) ∧ (NmC L' R0 a0 (lnQ gB gQ gs)) ∧ True) ∨ ((v.toInt = 0) ∧ ((lnF gB gQ gs) ≠ 0) ∧ ((I' a0 15).toInt = (lnF gB gQ gs)) ∧ ((I' a0 16).toInt = (lnP gB gQ gs)) ∧ True)) ∧ True)) := by
  refine ConE.of (by decide +kernel) rfl (Nat.le_of_ble_eq_true rfl) rfl (fun X hX hZ hE => ?_)
  subst hX
  have hS0 : St T cn K N d wik_X7_readLine wrk_X7_readLine I0 R0 I0 R0 := St.rf0 hW0
  have hL0 : LgS T wlk_X7_readLine L0 L0 := LgS.rf0
  obtain ⟨v1, c2⟩ : ∃ v, I0 a0 2 = v := ⟨_, rfl⟩
  have b3 := iv7_2 hS0.1 ta0 c2
  have p4 := pre0
  rw [c2] at p4
  obtain ⟨v5, c6⟩ : ∃ v, I0 a0 4 = v := ⟨_, rfl⟩
  have b7 := iv7_4 hS0.1 ta0 c6
  have p8 := pre1
  rw [c6] at p8
  obtain ⟨v9, c10⟩ : ∃ v, I0 a0 3 = v := ⟨_, rfl⟩
  have b11 := iv7_3 hS0.1 ta0 c10
  have p12 := pre2
  rw [c10] at p12
  obtain ⟨y13, c14⟩ : ∃ v, L0 a0 5 = v := ⟨_, rfl⟩
  have p15 := pre3
  rw [c14] at p15
  obtain ⟨v16, c17⟩ : ∃ v, I0 a0 6 = v := ⟨_, rfl⟩
  have p18 := pre4
  rw [c17] at p18
  obtain ⟨v19, c20⟩ : ∃ v, I0 a0 1 = v := ⟨_, rfl⟩
  have b21 := iv7_1 hW0 ta0 c20
  have p22 := pre5
  rw [c20] at p22
  obtain ⟨a23, d24, ta23⟩ := rf7_10 hW0 ta0
  obtain ⟨v25, c26⟩ : ∃ v, I0 a23 0 = v := ⟨_, rfl⟩
  have b27 := iv2_0 hS0.1 ta23 c26
  have p28 := pre6 _ d24
  rw [c26] at p28
  obtain ⟨v29, c30⟩ : ∃ v, I0 a23 1 = v := ⟨_, rfl⟩
  have b31 := iv2_1 hS0.1 ta23 c30
  have p32 := pre7 _ d24
  rw [c30] at p32
  obtain ⟨v33, c34⟩ : ∃ v, I0 a23 3 = v := ⟨_, rfl⟩
  have b35 := iv2_3 hS0.1 ta23 c34
  have p36 := pre8 _ d24
  rw [c34] at p36
  obtain ⟨v37, c38⟩ : ∃ v, I0 a23 5 = v := ⟨_, rfl⟩
  have b39 := iv2_5 hS0.1 ta23 c38
  have p40 := pre9 _ d24
  rw [c38] at p40
  obtain ⟨v41, c42⟩ : ∃ v, I0 a23 9 = v := ⟨_, rfl⟩
  have b43 := iv2_9 hS0.1 ta23 c42
  have p44 := pre10 _ d24
  rw [c42] at p44
  obtain ⟨v45, c46⟩ : ∃ v, I0 a23 11 = v := ⟨_, rfl⟩
  have b47 := iv2_11 hS0.1 ta23 c46
  have p48 := pre11 _ d24
  rw [c46] at p48
  obtain ⟨v49, c50⟩ : ∃ v, I0 a23 13 = v := ⟨_, rfl⟩
  have b51 := iv2_13 hS0.1 ta23 c50
  have p52 := pre12 _ d24
  rw [c50] at p52
  obtain ⟨v53, c54⟩ : ∃ v, I0 a0 11 = v := ⟨_, rfl⟩
  have b55 := iv7_11 hS0.1 ta0 c54
  have p56 := pre13
  rw [c54] at p56
  obtain ⟨v57, c58⟩ : ∃ v, I0 a0 12 = v := ⟨_, rfl⟩
  have b59 := iv7_12 hS0.1 ta0 c58
  have p60 := pre14
  rw [c58] at p60
  obtain ⟨v61, c62⟩ : ∃ v, I0 a0 15 = v := ⟨_, rfl⟩
  have hO0 : FrO 2 a23 T I0 I0 := FrO.rf
  have hF := lnF_ch gB gQ gs
  have hP := lnP_ch gB gQ gs
  refine tr_aload_n dX7_readLine_0 rfl ?_
  refine q_callVi hE (M' := mX7_sortOfWord) (as := []) dX7_readLine_1 lk7_168 inX7_sortOfWord seX7_sortOfWord myX7_sortOfWord (by decide) ⟨by decide, by decide⟩ rfl (kR7 hS0.1 ta0) (Nat.le_of_ble_eq_true rfl) rfl rfl (by decide) (by decide) (fk_X7_sortOfWord hS0.1 (gB) (gs) ta0 (by (try rw [c10]); first | done | with_reducible assumption | omega) (by (try rw [c14]); first | done | assumption)) ?_
  rintro v68 cn' K' N' I63 R64 L65 ⟨rfl, rfl, rfl, rfl, rfl, rfl, h69, p70, -⟩
  refine tr_istore_n dX7_readLine_4 (by decide) (by decide) ?_
  refine tr_iload_n dX7_readLine_5 rfl ?_
  refine q_iconst dX7_readLine_6 (by decide) ?_
  intro v71 h72
  refine q_icmp_ne 16 dX7_readLine_7 (by decide) (fun h73 => ?_) (fun h73 => ?_)
  · skip
    replace hF := hF.neg (by exact om_81608096 p70 h72 h73)
    replace hP := hP.neg (by exact om_81608096 p70 h72 h73)
    refine tr_aload_n dX7_readLine_16 rfl ?_
    refine tr_iload_n dX7_readLine_17 rfl ?_
    refine q_callVi hE (M' := mX7_isToldAgain) (as := [_]) dX7_readLine_18 lk7_171 inX7_isToldAgain seX7_isToldAgain myX7_isToldAgain (by decide) ⟨by decide, by decide⟩ rfl (kR7 hS0.1 ta0) (Nat.le_of_ble_eq_true rfl) rfl rfl (by decide) (by decide) (fk_X7_isToldAgain hS0.1 (gQ) ((srt gB gs)) ta0 (by first | done | with_reducible assumption | omega) (by (try rw [c54]); first | done | with_reducible assumption | omega) (by (try rw [c58]); first | done | with_reducible assumption | omega)) ?_
    rintro v79 cn' K' N' I74 R75 L76 ⟨rfl, rfl, rfl, rfl, rfl, rfl, h80, dj81, -⟩
    rcases dj81 with ⟨p82, p83, -⟩ | ⟨p84, p85, -⟩
    · skip
      replace hF := hF.pos p83
      replace hP := hP.pos p83
      refine q_if_eq 30 dX7_readLine_21 (by decide) (fun h86 => ?_) (fun h86 => ?_)
      · skip
        exfalso; exact om_3624102b p82 h86
      · skip
        refine tr_aload_n dX7_readLine_24 rfl ?_
        refine q_iconst dX7_readLine_25 (by decide) ?_
        intro v87 h88
        refine q_callVi hE (M' := mX7_fail) (as := [_]) dX7_readLine_26 lk7_64 inX7_fail seX7_fail myX7_fail (by decide) ⟨by decide, by decide⟩ rfl (kR7 hS0.1 ta0) (Nat.le_of_ble_eq_true rfl) rfl rfl (by decide) (by decide) (fk_X7_fail hS0.1  ta0 (by exact om_7e011daf h88)) ?_
        rintro v94 cn' K' N' I89 R90 L91 ⟨rfl, rfl, rfl, rfl, rfl, g92, h95, p96, p97, p98, -⟩
        have hS99 := hS0.tr g92 (by decide +kernel) (by decide +kernel)
        have c100 : I89 a0 2 = v1 := (g92.cell ta0 (by decide +kernel)).trans c2
        have c101 : I89 a0 4 = v5 := (g92.cell ta0 (by decide +kernel)).trans c6
        have c102 : I89 a0 3 = v9 := (g92.cell ta0 (by decide +kernel)).trans c10
        have c103 : I89 a0 6 = v16 := (g92.cell ta0 (by decide +kernel)).trans c17
        have c104 : I89 a23 0 = v25 := (g92.cell ta23 (by decide +kernel)).trans c26
        have c105 : I89 a23 1 = v29 := (g92.cell ta23 (by decide +kernel)).trans c30
        have c106 : I89 a23 3 = v33 := (g92.cell ta23 (by decide +kernel)).trans c34
        have c107 : I89 a23 5 = v37 := (g92.cell ta23 (by decide +kernel)).trans c38
        have c108 : I89 a23 9 = v41 := (g92.cell ta23 (by decide +kernel)).trans c42
        have c109 : I89 a23 11 = v45 := (g92.cell ta23 (by decide +kernel)).trans c46
        have c110 : I89 a23 13 = v49 := (g92.cell ta23 (by decide +kernel)).trans c50
        have c111 : I89 a0 11 = v53 := (g92.cell ta0 (by decide +kernel)).trans c54
        have c112 : I89 a0 12 = v57 := (g92.cell ta0 (by decide +kernel)).trans c58
        have hO113 : FrO 2 a23 T I0 I89 := hO0.st g92 (by decide +kernel)
        obtain ⟨v114, c115⟩ : ∃ v, I89 a0 15 = v := ⟨_, rfl⟩
        rw [c115] at p97
        obtain ⟨v116, c117⟩ : ∃ v, I89 a0 16 = v := ⟨_, rfl⟩
        rw [c117] at p98
        rw [c6] at p98
        have eF := hF.eq
        have eP := hP.eq
        exact tr_zret hZ dX7_readLine_29 rfl (ti_b01 (by exact om_d99fa9e4 p96) (by exact om_d3de7ec9 p96)) (by decide) (by decide) ⟨v94, rfl, rfl, rfl, rfl, rfl, hS99, hL0, (by exact om_be53a44c h95), (fun dr hd => (Option.some.inj (d24.symm.trans hd)) ▸ hO113), (Or.inr (⟨(by first | done | with_reducible assumption | omega), (by first | done | with_reducible assumption | exact om_c731b21c eF), (by (try rw [c115]); first | done | with_reducible assumption | exact om_fc35f838 h88 p97 eF), (by (try rw [c117]); first | done | with_reducible assumption | exact om_3998a42e p8 p98 eP), trivial⟩)), trivial⟩
    · skip
      replace hF := hF.neg p85
      replace hP := hP.neg p85
      refine q_if_eq 30 dX7_readLine_21 (by decide) (fun h118 => ?_) (fun h118 => ?_)
      · skip
        refine tr_aload_n dX7_readLine_30 rfl ?_
        refine tr_iload_n dX7_readLine_31 rfl ?_
        refine q_callVi hE (M' := mX7_isFull) (as := [_]) dX7_readLine_32 lk7_174 inX7_isFull seX7_isFull myX7_isFull (by decide) ⟨by decide, by decide⟩ rfl (kR7 hS0.1 ta0) (Nat.le_of_ble_eq_true rfl) rfl rfl (by decide) (by decide) (fk_X7_isFull hS0.1 (gQ) ((srt gB gs)) ta0 (by exact om_e5faa340 h69.2 h69.1 p70 h72 h73) (fun q0 z0 => by obtain rfl := Option.some.inj ((d24).symm.trans z0); (try rw [c34]); first | done | with_reducible assumption | omega) (fun q0 z0 => by obtain rfl := Option.some.inj ((d24).symm.trans z0); (try rw [c38]); first | done | with_reducible assumption | omega) (fun q0 z0 => by obtain rfl := Option.some.inj ((d24).symm.trans z0); (try rw [c42]); first | done | with_reducible assumption | omega) (fun q0 z0 => by obtain rfl := Option.some.inj ((d24).symm.trans z0); (try rw [c46]); first | done | with_reducible assumption | omega) (fun q0 z0 => by obtain rfl := Option.some.inj ((d24).symm.trans z0); (try rw [c50]); first | done | with_reducible assumption | omega) (by first | done | with_reducible assumption | omega)) ?_
        rintro v124 cn' K' N' I119 R120 L121 ⟨rfl, rfl, rfl, rfl, rfl, rfl, h125, dj126, -⟩
        rcases dj126 with ⟨p127, p128, -⟩ | ⟨p129, p130, p131, p132, p133, p134, -⟩
        · skip
          replace hF := hF.pos p128
          replace hP := hP.pos p128
          refine q_if_eq 44 dX7_readLine_35 (by decide) (fun h135 => ?_) (fun h135 => ?_)
          · skip
            exfalso; exact om_3624102b p127 h135
          · skip
            refine tr_aload_n dX7_readLine_38 rfl ?_
            refine q_iconst dX7_readLine_39 (by decide) ?_
            intro v136 h137
            refine q_callVi hE (M' := mX7_fail) (as := [_]) dX7_readLine_40 lk7_64 inX7_fail seX7_fail myX7_fail (by decide) ⟨by decide, by decide⟩ rfl (kR7 hS0.1 ta0) (Nat.le_of_ble_eq_true rfl) rfl rfl (by decide) (by decide) (fk_X7_fail hS0.1  ta0 (by exact om_054a361c h137)) ?_
            rintro v143 cn' K' N' I138 R139 L140 ⟨rfl, rfl, rfl, rfl, rfl, g141, h144, p145, p146, p147, -⟩
            have hS148 := hS0.tr g141 (by decide +kernel) (by decide +kernel)
            have c149 : I138 a0 2 = v1 := (g141.cell ta0 (by decide +kernel)).trans c2
            have c150 : I138 a0 4 = v5 := (g141.cell ta0 (by decide +kernel)).trans c6
            have c151 : I138 a0 3 = v9 := (g141.cell ta0 (by decide +kernel)).trans c10
            have c152 : I138 a0 6 = v16 := (g141.cell ta0 (by decide +kernel)).trans c17
            have c153 : I138 a23 0 = v25 := (g141.cell ta23 (by decide +kernel)).trans c26
            have c154 : I138 a23 1 = v29 := (g141.cell ta23 (by decide +kernel)).trans c30
            have c155 : I138 a23 3 = v33 := (g141.cell ta23 (by decide +kernel)).trans c34
            have c156 : I138 a23 5 = v37 := (g141.cell ta23 (by decide +kernel)).trans c38
            have c157 : I138 a23 9 = v41 := (g141.cell ta23 (by decide +kernel)).trans c42
            have c158 : I138 a23 11 = v45 := (g141.cell ta23 (by decide +kernel)).trans c46
            have c159 : I138 a23 13 = v49 := (g141.cell ta23 (by decide +kernel)).trans c50
            have c160 : I138 a0 11 = v53 := (g141.cell ta0 (by decide +kernel)).trans c54
            have c161 : I138 a0 12 = v57 := (g141.cell ta0 (by decide +kernel)).trans c58
            have hO162 : FrO 2 a23 T I0 I138 := hO0.st g141 (by decide +kernel)
            obtain ⟨v163, c164⟩ : ∃ v, I138 a0 15 = v := ⟨_, rfl⟩
            rw [c164] at p146
            obtain ⟨v165, c166⟩ : ∃ v, I138 a0 16 = v := ⟨_, rfl⟩
            rw [c166] at p147
            rw [c6] at p147
            have eF := hF.eq
            have eP := hP.eq
            exact tr_zret hZ dX7_readLine_43 rfl (ti_b01 (by exact om_d99fa9e4 p145) (by exact om_d3de7ec9 p145)) (by decide) (by decide) ⟨v143, rfl, rfl, rfl, rfl, rfl, hS148, hL0, (by exact om_be53a44c h144), (fun dr hd => (Option.some.inj (d24.symm.trans hd)) ▸ hO162), (Or.inr (⟨(by first | done | with_reducible assumption | omega), (by first | done | with_reducible assumption | exact om_64c62efe eF), (by (try rw [c164]); first | done | with_reducible assumption | exact om_7fd518bd h137 p146 eF), (by (try rw [c166]); first | done | with_reducible assumption | exact om_3998a42e p8 p147 eP), trivial⟩)), trivial⟩
        · skip
          replace hF := hF.neg (nfull p130 p131 p132 p133 p134)
          replace hP := hP.neg (nfull p130 p131 p132 p133 p134)
          refine q_if_eq 44 dX7_readLine_35 (by decide) (fun h167 => ?_) (fun h167 => ?_)
          · skip
            refine tr_iload_n dX7_readLine_44 rfl ?_
            refine q_bipush dX7_readLine_45 (by decide +kernel) ?_
            intro v168 h169
            refine q_icmp_eq 64 dX7_readLine_47 (by decide) (fun h170 => ?_) (fun h170 => ?_)
            · skip
              replace hF := hF.neg (by exact om_38344044 b55.2 b55.1 p56 p70 h169 h170)
              replace hP := hP.neg (by exact om_38344044 b55.2 b55.1 p56 p70 h169 h170)
              refine tr_aload_n dX7_readLine_64 rfl ?_
              refine q_callVv hE (M' := mX7_step) (as := []) dX7_readLine_65 lk7_51 inX7_step seX7_step myX7_step (by decide) ⟨by decide, by decide⟩ rfl (kR7 hS0.1 ta0) (Nat.le_of_ble_eq_true rfl) rfl rfl (by decide) (by decide) (fk_X7_step hS0.1 (gB) ((tkN gB gs)) ta0 (TxA.kp hT hS0 ta0 rfl rfl rfl (by decide +kernel) (by decide +kernel)) (by (try rw [c2]); first | done | with_reducible assumption | omega) (by (try rw [c20]); first | done | with_reducible assumption | omega)) ?_
              rintro cn' K' N' I171 R172 L173 ⟨rfl, rfl, rfl, rfl, g174, gl175, p177, p178, p179, p180, p181, -⟩
              have hS182 := hS0.tr g174 (by decide +kernel) (by decide +kernel)
              have c183 : I171 a23 0 = v25 := (g174.cell ta23 (by decide +kernel)).trans c26
              have c184 : I171 a23 1 = v29 := (g174.cell ta23 (by decide +kernel)).trans c30
              have c185 : I171 a23 3 = v33 := (g174.cell ta23 (by decide +kernel)).trans c34
              have c186 : I171 a23 5 = v37 := (g174.cell ta23 (by decide +kernel)).trans c38
              have c187 : I171 a23 9 = v41 := (g174.cell ta23 (by decide +kernel)).trans c42
              have c188 : I171 a23 11 = v45 := (g174.cell ta23 (by decide +kernel)).trans c46
              have c189 : I171 a23 13 = v49 := (g174.cell ta23 (by decide +kernel)).trans c50
              have c190 : I171 a0 11 = v53 := (g174.cell ta0 (by decide +kernel)).trans c54
              have c191 : I171 a0 12 = v57 := (g174.cell ta0 (by decide +kernel)).trans c58
              have c192 : I171 a0 15 = v61 := (g174.cell ta0 (by decide +kernel)).trans c62
              have hO193 : FrO 2 a23 T I0 I171 := hO0.st g174 (by decide +kernel)
              have hL194 := hL0.tr gl175 (by decide +kernel)
              have hN195 : NmC L173 R0 a0 gQ := NmC.kp hN gl175 hS182.1 ta0 (by decide +kernel) (by decide +kernel)
              obtain ⟨v196, c197⟩ : ∃ v, I171 a0 2 = v := ⟨_, rfl⟩
              have b198 := iv7_2 hS182.1 ta0 c197
              rw [c197] at p177
              obtain ⟨v199, c200⟩ : ∃ v, I171 a0 4 = v := ⟨_, rfl⟩
              have b201 := iv7_4 hS182.1 ta0 c200
              rw [c200] at p178
              obtain ⟨v202, c203⟩ : ∃ v, I171 a0 3 = v := ⟨_, rfl⟩
              have b204 := iv7_3 hS182.1 ta0 c203
              rw [c203] at p179
              obtain ⟨y205, c206⟩ : ∃ v, L173 a0 5 = v := ⟨_, rfl⟩
              rw [c206] at p180
              obtain ⟨v207, c208⟩ : ∃ v, I171 a0 6 = v := ⟨_, rfl⟩
              rw [c208] at p181
              refine tr_iload_n dX7_readLine_68 rfl ?_
              by_cases h209 : v68.toInt = 10
              · skip
                refine tr_tabIn (off := 39) 108 dX7_readLine_69 (by exact om_53ecfe25 p70 h169 h170) (by exact om_407e3998 p70 h169 h170) (by rw [h209]; decide +kernel) (by decide) ?_
                obtain ⟨w210, w211, w212, w213, w214, w215, w216, w217, w218, w219, w220, w221⟩ := lnl_10 (B := gB) (Q := gQ) (s := gs) (by exact om_149506ab p70 h169 h170)
                refine tr_aload_n dX7_readLine_108 rfl ?_
                refine q_callVi hE (M' := mX7_readAlp) (as := []) dX7_readLine_109 lk7_177 inX7_readAlp seX7_readAlp myX7_readAlp (by decide) ⟨by decide, by decide⟩ rfl (kR7 hS182.1 ta0) (Nat.le_of_ble_eq_true rfl) rfl rfl (by decide) (by decide) (fk_X7_readAlp hS182.1 (gB) ((tkN gB gs)) (gQ) ta0 (TxA.kp hT hS182 ta0 rfl rfl rfl (by decide +kernel) (by decide +kernel)) (by (try rw [c197]); first | done | with_reducible assumption | omega) (by (try rw [c200]); first | done | with_reducible assumption | omega) (by (try rw [c203]); first | done | with_reducible assumption | omega) (by (try rw [c206]); first | done | assumption) (by (try rw [c208]); first | done | assumption) (by (try rw [((hS182.cell ta0 (by decide +kernel)).trans c20)]); first | done | with_reducible assumption | omega)) ?_
                rintro v227 cn' K' N' I222 R223 L224 ⟨rfl, rfl, rfl, rfl, g225, gl226, h228, rp229, dj230, -⟩
                have hS231 := hS182.tr g225 (by decide +kernel) (by decide +kernel)
                have c232 : I222 a23 3 = v33 := (g225.cell ta23 (by decide +kernel)).trans c185
                have c233 : I222 a23 5 = v37 := (g225.cell ta23 (by decide +kernel)).trans c186
                have c234 : I222 a23 9 = v41 := (g225.cell ta23 (by decide +kernel)).trans c187
                have c235 : I222 a23 11 = v45 := (g225.cell ta23 (by decide +kernel)).trans c188
                have c236 : I222 a23 13 = v49 := (g225.cell ta23 (by decide +kernel)).trans c189
                have c237 : I222 a0 12 = v57 := (g225.cell ta0 (by decide +kernel)).trans c191
                have hO238 : FrO 2 a23 T I0 I222 := hO193.tr (rp229 _ d24)
                have hL239 := hL194.tr gl226 (by decide +kernel)
                have hN240 : NmC L224 R0 a0 gQ := NmC.kp hN195 gl226 hS231.1 ta0 (by decide +kernel) (by decide +kernel)
                rcases dj230 with ⟨p241, p242, p243, p244, p245, p246, p247, p248, p249, p250, p251, -⟩ | ⟨p252, p253, p254, p255, -⟩
                · skip
                  obtain ⟨v256, c257⟩ : ∃ v, I222 a0 15 = v := ⟨_, rfl⟩
                  rw [c257] at p242
                  rw [c192] at p242
                  obtain ⟨v258, c259⟩ : ∃ v, I222 a23 0 = v := ⟨_, rfl⟩
                  have b260 := iv2_0 hS231.1 ta23 c259
                  have p261 := p244 _ d24
                  clear p244
                  rw [c259] at p261
                  obtain ⟨v262, c263⟩ : ∃ v, I222 a23 1 = v := ⟨_, rfl⟩
                  have b264 := iv2_1 hS231.1 ta23 c263
                  have p265 := p245 _ d24
                  clear p245
                  rw [c263] at p265
                  obtain ⟨v266, c267⟩ : ∃ v, I222 a0 11 = v := ⟨_, rfl⟩
                  have b268 := iv7_11 hS231.1 ta0 c267
                  rw [c267] at p246
                  obtain ⟨v269, c270⟩ : ∃ v, I222 a0 2 = v := ⟨_, rfl⟩
                  have b271 := iv7_2 hS231.1 ta0 c270
                  rw [c270] at p247
                  obtain ⟨v272, c273⟩ : ∃ v, I222 a0 4 = v := ⟨_, rfl⟩
                  have b274 := iv7_4 hS231.1 ta0 c273
                  rw [c273] at p248
                  obtain ⟨v275, c276⟩ : ∃ v, I222 a0 3 = v := ⟨_, rfl⟩
                  have b277 := iv7_3 hS231.1 ta0 c276
                  rw [c276] at p249
                  obtain ⟨y278, c279⟩ : ∃ v, L224 a0 5 = v := ⟨_, rfl⟩
                  rw [c279] at p250
                  obtain ⟨v280, c281⟩ : ∃ v, I222 a0 6 = v := ⟨_, rfl⟩
                  rw [c281] at p251
                  have eF := hF.eq
                  have eP := hP.eq
                  obtain ⟨v282, c283⟩ : ∃ v, I222 a0 16 = v := ⟨_, rfl⟩
                  exact tr_zret hZ dX7_readLine_112 rfl (ti_b01 (by exact om_f9079521 p241) (by exact om_e6632817 p241)) (by decide) (by decide) ⟨v227, rfl, rfl, rfl, rfl, rfl, hS231, hL239, (by exact om_be53a44c h228), (fun dr hd => (Option.some.inj (d24.symm.trans hd)) ▸ hO238), (Or.inl ⟨(by (try rw [w212]); first | done | with_reducible assumption | omega), (by (try rw [w212]); (try rw [c257]); (try rw [c62]); first | done | with_reducible assumption | omega), (by (try rw [w212]); first | done | with_reducible assumption | exact om_f2d5abae w210 p243 eF), (fun q0 z0 => by obtain rfl := Option.some.inj ((d24).symm.trans z0); (try rw [w212]); (try rw [c259]); first | done | with_reducible assumption | exact om_008feaf9 w213 p261), (fun q0 z0 => by obtain rfl := Option.some.inj ((d24).symm.trans z0); (try rw [w212]); (try rw [c263]); first | done | with_reducible assumption | exact om_008feaf9 w214 p265), (fun q0 z0 => by obtain rfl := Option.some.inj ((d24).symm.trans z0); (try rw [w212]); (try rw [c232]); first | done | with_reducible assumption | exact om_2757374c p36 w215), (fun q0 z0 => by obtain rfl := Option.some.inj ((d24).symm.trans z0); (try rw [w212]); (try rw [c233]); first | done | with_reducible assumption | exact om_2757374c p40 w216), (fun q0 z0 => by obtain rfl := Option.some.inj ((d24).symm.trans z0); (try rw [w212]); (try rw [c234]); first | done | with_reducible assumption | exact om_2757374c p44 w217), (fun q0 z0 => by obtain rfl := Option.some.inj ((d24).symm.trans z0); (try rw [w212]); (try rw [c235]); first | done | with_reducible assumption | exact om_2757374c p48 w218), (fun q0 z0 => by obtain rfl := Option.some.inj ((d24).symm.trans z0); (try rw [w212]); (try rw [c236]); first | done | with_reducible assumption | exact om_2757374c p52 w219), (by (try rw [w212]); (try rw [c267]); first | done | with_reducible assumption | exact om_f2e5fab5 w220 p246), (by (try rw [w212]); (try rw [c237]); first | done | with_reducible assumption | exact om_2757374c p60 w221), (by (try rw [w212]); (try rw [c270]); first | done | with_reducible assumption | omega), (by (try rw [w212]); (try rw [c273]); first | done | with_reducible assumption | omega), (by (try rw [w212]); (try rw [c276]); first | done | with_reducible assumption | omega), (by (try rw [w212]); (try rw [c279]); first | done | assumption), (by (try rw [w212]); (try rw [c281]); first | done | assumption), (NmC.ln (NmC.bd (k := srt gB gs) hN240 (by exact om_bd004896 p70 h169 h170) (by exact om_543879f2 p70 h169 h170)) rfl), trivial⟩), trivial⟩
                · skip
                  obtain ⟨v284, c285⟩ : ∃ v, I222 a0 15 = v := ⟨_, rfl⟩
                  rw [c285] at p254
                  obtain ⟨v286, c287⟩ : ∃ v, I222 a0 16 = v := ⟨_, rfl⟩
                  rw [c287] at p255
                  have eF := hF.eq
                  have eP := hP.eq
                  obtain ⟨v288, c289⟩ : ∃ v, I222 a23 0 = v := ⟨_, rfl⟩
                  have b290 := iv2_0 hS231.1 ta23 c289
                  obtain ⟨v291, c292⟩ : ∃ v, I222 a23 1 = v := ⟨_, rfl⟩
                  have b293 := iv2_1 hS231.1 ta23 c292
                  obtain ⟨v294, c295⟩ : ∃ v, I222 a0 11 = v := ⟨_, rfl⟩
                  have b296 := iv7_11 hS231.1 ta0 c295
                  obtain ⟨v297, c298⟩ : ∃ v, I222 a0 2 = v := ⟨_, rfl⟩
                  have b299 := iv7_2 hS231.1 ta0 c298
                  obtain ⟨v300, c301⟩ : ∃ v, I222 a0 4 = v := ⟨_, rfl⟩
                  have b302 := iv7_4 hS231.1 ta0 c301
                  obtain ⟨v303, c304⟩ : ∃ v, I222 a0 3 = v := ⟨_, rfl⟩
                  have b305 := iv7_3 hS231.1 ta0 c304
                  obtain ⟨y306, c307⟩ : ∃ v, L224 a0 5 = v := ⟨_, rfl⟩
                  obtain ⟨v308, c309⟩ : ∃ v, I222 a0 6 = v := ⟨_, rfl⟩
                  exact tr_zret hZ dX7_readLine_112 rfl (ti_b01 (by exact om_d99fa9e4 p252) (by exact om_d3de7ec9 p252)) (by decide) (by decide) ⟨v227, rfl, rfl, rfl, rfl, rfl, hS231, hL239, (by exact om_be53a44c h228), (fun dr hd => (Option.some.inj (d24.symm.trans hd)) ▸ hO238), (Or.inr (⟨(by (try rw [w212]); first | done | with_reducible assumption | omega), (by (try rw [w212]); first | done | with_reducible assumption | exact om_2cf37690 w210 p253 p254 eF), (by (try rw [w212]); (try rw [c285]); first | done | with_reducible assumption | exact om_621963eb w210 p254 eF), (by (try rw [w212]); (try rw [c287]); first | done | with_reducible assumption | exact om_621963eb w211 p255 eP), trivial⟩)), trivial⟩
              · skip
                refine tr_tabOut 180 dX7_readLine_69 (by exact om_7377f29b p70 h169 h170 h209) (by decide) ?_
                obtain ⟨w310, w311, w312, w313, w314, w315, w316, w317, w318, w319, w320, w321⟩ := lnl_e (B := gB) (Q := gQ) (s := gs) (by exact om_e7d0db4d p70 h169 h170) (by exact om_40d4601f p70 h169 h170 h209)
                have p322 := p134 (by exact om_40d4601f p70 h169 h170 h209)
                refine tr_aload_n dX7_readLine_180 rfl ?_
                refine tr_iload_n dX7_readLine_181 rfl ?_
                refine q_callVi hE (M' := mX7_readEvent) (as := [_]) dX7_readLine_182 lk7_200 inX7_readEvent seX7_readEvent myX7_readEvent (by decide) ⟨by decide, by decide⟩ rfl (kR7 hS182.1 ta0) (Nat.le_of_ble_eq_true rfl) rfl rfl (by decide) (by decide) (fk_X7_readEvent hS182.1 (gB) ((tkN gB gs)) (gQ) ((srt gB gs)) ta0 (by exact om_a84dad70 p70 h169 h170 h209) (TxA.kp hT hS182 ta0 rfl rfl rfl (by decide +kernel) (by decide +kernel)) (by (try rw [c197]); first | done | with_reducible assumption | omega) (by (try rw [c200]); first | done | with_reducible assumption | omega) (by (try rw [c203]); first | done | with_reducible assumption | omega) (by (try rw [c206]); first | done | assumption) (by (try rw [c208]); first | done | assumption) (by (try rw [((hS182.cell ta0 (by decide +kernel)).trans c20)]); first | done | with_reducible assumption | omega) (fun q0 z0 => by obtain rfl := Option.some.inj ((d24).symm.trans z0); (try rw [c183]); first | done | with_reducible assumption | omega) (fun q0 z0 => by obtain rfl := Option.some.inj ((d24).symm.trans z0); (try rw [c184]); first | done | with_reducible assumption | omega) (fun q0 z0 => by obtain rfl := Option.some.inj ((d24).symm.trans z0); (try rw [c185]); first | done | with_reducible assumption | omega) (by first | done | with_reducible assumption | omega) (by first | done | with_reducible assumption | omega)) ?_
                rintro v328 cn' K' N' I323 R324 L325 ⟨rfl, rfl, rfl, rfl, g326, gl327, h329, rp330, dj331, -⟩
                have hS332 := hS182.tr g326 (by decide +kernel) (by decide +kernel)
                have c333 : I323 a23 0 = v25 := (g326.cell ta23 (by decide +kernel)).trans c183
                have c334 : I323 a23 1 = v29 := (g326.cell ta23 (by decide +kernel)).trans c184
                have c335 : I323 a23 5 = v37 := (g326.cell ta23 (by decide +kernel)).trans c186
                have c336 : I323 a23 9 = v41 := (g326.cell ta23 (by decide +kernel)).trans c187
                have c337 : I323 a23 11 = v45 := (g326.cell ta23 (by decide +kernel)).trans c188
                have c338 : I323 a23 13 = v49 := (g326.cell ta23 (by decide +kernel)).trans c189
                have c339 : I323 a0 11 = v53 := (g326.cell ta0 (by decide +kernel)).trans c190
                have c340 : I323 a0 12 = v57 := (g326.cell ta0 (by decide +kernel)).trans c191
                have hO341 : FrO 2 a23 T I0 I323 := hO193.tr (rp330 _ d24)
                have hL342 := hL194.tr gl327 (by decide +kernel)
                have hN343 : NmC L325 R0 a0 gQ := NmC.kp hN195 gl327 hS332.1 ta0 (by decide +kernel) (by decide +kernel)
                rcases dj331 with ⟨p344, p345, p346, p347, p348, p349, p350, p351, p352, -⟩ | ⟨p353, p354, p355, p356, -⟩
                · skip
                  obtain ⟨v357, c358⟩ : ∃ v, I323 a0 15 = v := ⟨_, rfl⟩
                  rw [c358] at p345
                  rw [c192] at p345
                  obtain ⟨v359, c360⟩ : ∃ v, I323 a23 3 = v := ⟨_, rfl⟩
                  have b361 := iv2_3 hS332.1 ta23 c360
                  have p362 := p347 _ d24
                  clear p347
                  rw [c360] at p362
                  obtain ⟨v363, c364⟩ : ∃ v, I323 a0 2 = v := ⟨_, rfl⟩
                  have b365 := iv7_2 hS332.1 ta0 c364
                  rw [c364] at p348
                  obtain ⟨v366, c367⟩ : ∃ v, I323 a0 4 = v := ⟨_, rfl⟩
                  have b368 := iv7_4 hS332.1 ta0 c367
                  rw [c367] at p349
                  obtain ⟨v369, c370⟩ : ∃ v, I323 a0 3 = v := ⟨_, rfl⟩
                  have b371 := iv7_3 hS332.1 ta0 c370
                  rw [c370] at p350
                  obtain ⟨y372, c373⟩ : ∃ v, L325 a0 5 = v := ⟨_, rfl⟩
                  rw [c373] at p351
                  obtain ⟨v374, c375⟩ : ∃ v, I323 a0 6 = v := ⟨_, rfl⟩
                  rw [c375] at p352
                  exfalso; exact om_278fa968 p70 h169 h170 h209
                · skip
                  obtain ⟨v376, c377⟩ : ∃ v, I323 a0 15 = v := ⟨_, rfl⟩
                  rw [c377] at p355
                  obtain ⟨v378, c379⟩ : ∃ v, I323 a0 16 = v := ⟨_, rfl⟩
                  rw [c379] at p356
                  exfalso; exact om_5dc87481 p70 h169 h170 h209 p354
            · skip
              refine tr_aload_n dX7_readLine_50 rfl ?_
              refine q_getZ dX7_readLine_51 fl7_31 (kR7 hS0.1 ta0) c54 ?_
              refine q_if_ne 64 dX7_readLine_54 (by decide) (fun h380 => ?_) (fun h380 => ?_)
              · skip
                replace hF := hF.neg (by exact om_ac4ffdd8 b55.2 b55.1 p56 h69.2 h69.1 p70 h380)
                replace hP := hP.neg (by exact om_ac4ffdd8 b55.2 b55.1 p56 h69.2 h69.1 p70 h380)
                refine tr_aload_n dX7_readLine_64 rfl ?_
                refine q_callVv hE (M' := mX7_step) (as := []) dX7_readLine_65 lk7_51 inX7_step seX7_step myX7_step (by decide) ⟨by decide, by decide⟩ rfl (kR7 hS0.1 ta0) (Nat.le_of_ble_eq_true rfl) rfl rfl (by decide) (by decide) (fk_X7_step hS0.1 (gB) ((tkN gB gs)) ta0 (TxA.kp hT hS0 ta0 rfl rfl rfl (by decide +kernel) (by decide +kernel)) (by (try rw [c2]); first | done | with_reducible assumption | omega) (by (try rw [c20]); first | done | with_reducible assumption | omega)) ?_
                rintro cn' K' N' I381 R382 L383 ⟨rfl, rfl, rfl, rfl, g384, gl385, p387, p388, p389, p390, p391, -⟩
                have hS392 := hS0.tr g384 (by decide +kernel) (by decide +kernel)
                have c393 : I381 a23 0 = v25 := (g384.cell ta23 (by decide +kernel)).trans c26
                have c394 : I381 a23 1 = v29 := (g384.cell ta23 (by decide +kernel)).trans c30
                have c395 : I381 a23 3 = v33 := (g384.cell ta23 (by decide +kernel)).trans c34
                have c396 : I381 a23 5 = v37 := (g384.cell ta23 (by decide +kernel)).trans c38
                have c397 : I381 a23 9 = v41 := (g384.cell ta23 (by decide +kernel)).trans c42
                have c398 : I381 a23 11 = v45 := (g384.cell ta23 (by decide +kernel)).trans c46
                have c399 : I381 a23 13 = v49 := (g384.cell ta23 (by decide +kernel)).trans c50
                have c400 : I381 a0 11 = v53 := (g384.cell ta0 (by decide +kernel)).trans c54
                have c401 : I381 a0 12 = v57 := (g384.cell ta0 (by decide +kernel)).trans c58
                have c402 : I381 a0 15 = v61 := (g384.cell ta0 (by decide +kernel)).trans c62
                have hO403 : FrO 2 a23 T I0 I381 := hO0.st g384 (by decide +kernel)
                have hL404 := hL0.tr gl385 (by decide +kernel)
                have hN405 : NmC L383 R0 a0 gQ := NmC.kp hN gl385 hS392.1 ta0 (by decide +kernel) (by decide +kernel)
                obtain ⟨v406, c407⟩ : ∃ v, I381 a0 2 = v := ⟨_, rfl⟩
                have b408 := iv7_2 hS392.1 ta0 c407
                rw [c407] at p387
                obtain ⟨v409, c410⟩ : ∃ v, I381 a0 4 = v := ⟨_, rfl⟩
                have b411 := iv7_4 hS392.1 ta0 c410
                rw [c410] at p388
                obtain ⟨v412, c413⟩ : ∃ v, I381 a0 3 = v := ⟨_, rfl⟩
                have b414 := iv7_3 hS392.1 ta0 c413
                rw [c413] at p389
                obtain ⟨y415, c416⟩ : ∃ v, L383 a0 5 = v := ⟨_, rfl⟩
                rw [c416] at p390
                obtain ⟨v417, c418⟩ : ∃ v, I381 a0 6 = v := ⟨_, rfl⟩
                rw [c418] at p391
                refine tr_iload_n dX7_readLine_68 rfl ?_
                by_cases h419 : v68.toInt = 5
                · skip
                  refine tr_tabIn (off := 44) 113 dX7_readLine_69 (by exact om_f764bb99 p70 h419) (by exact om_94dce41b p70 h419) (by rw [h419]; decide +kernel) (by decide) ?_
                  obtain ⟨w420, w421, w422, w423, w424, w425, w426, w427, w428, w429, w430, w431⟩ := lnl_5 (B := gB) (Q := gQ) (s := gs) (by exact om_65b350f5 p70 h419)
                  have p432 := p130 (by exact om_65b350f5 p70 h419)
                  refine tr_aload_n dX7_readLine_113 rfl ?_
                  refine q_callVi hE (M' := mX7_readCheese) (as := []) dX7_readLine_114 lk7_180 inX7_readCheese seX7_readCheese myX7_readCheese (by decide) ⟨by decide, by decide⟩ rfl (kR7 hS392.1 ta0) (Nat.le_of_ble_eq_true rfl) rfl rfl (by decide) (by decide) (fk_X7_readCheese hS392.1 (gB) ((tkN gB gs)) (gQ) ta0 (TxA.kp hT hS392 ta0 rfl rfl rfl (by decide +kernel) (by decide +kernel)) hN405 (by (try rw [c407]); first | done | with_reducible assumption | omega) (by (try rw [c410]); first | done | with_reducible assumption | omega) (by (try rw [c413]); first | done | with_reducible assumption | omega) (by (try rw [c416]); first | done | assumption) (by (try rw [c418]); first | done | assumption) (by (try rw [((hS392.cell ta0 (by decide +kernel)).trans c20)]); first | done | with_reducible assumption | omega) (fun q0 z0 => by obtain rfl := Option.some.inj ((d24).symm.trans z0); (try rw [c394]); first | done | with_reducible assumption | omega) (fun q0 z0 => by obtain rfl := Option.some.inj ((d24).symm.trans z0); (try rw [c396]); first | done | with_reducible assumption | omega) (fun q0 z0 => by obtain rfl := Option.some.inj ((d24).symm.trans z0); (try rw [c397]); first | done | with_reducible assumption | omega) (by first | done | with_reducible assumption | omega) (by first | done | with_reducible assumption | exact om_51709f5a b43.2 b43.1 p44 w427)) ?_
                  rintro v438 cn' K' N' I433 R434 L435 ⟨rfl, rfl, rfl, rfl, g436, gl437, h439, rp440, dj441, -⟩
                  have hS442 := hS392.tr g436 (by decide +kernel) (by decide +kernel)
                  have c443 : I433 a23 0 = v25 := (g436.cell ta23 (by decide +kernel)).trans c393
                  have c444 : I433 a23 1 = v29 := (g436.cell ta23 (by decide +kernel)).trans c394
                  have c445 : I433 a23 3 = v33 := (g436.cell ta23 (by decide +kernel)).trans c395
                  have c446 : I433 a23 9 = v41 := (g436.cell ta23 (by decide +kernel)).trans c397
                  have c447 : I433 a23 11 = v45 := (g436.cell ta23 (by decide +kernel)).trans c398
                  have c448 : I433 a23 13 = v49 := (g436.cell ta23 (by decide +kernel)).trans c399
                  have c449 : I433 a0 11 = v53 := (g436.cell ta0 (by decide +kernel)).trans c400
                  have c450 : I433 a0 12 = v57 := (g436.cell ta0 (by decide +kernel)).trans c401
                  have hO451 : FrO 2 a23 T I0 I433 := hO403.tr (rp440 _ d24)
                  have hL452 := hL404.tr gl437 (by decide +kernel)
                  rcases dj441 with ⟨p453, p454, p455, p456, p457, p458, p459, p460, p461, rp462, -⟩ | ⟨p463, p464, p465, p466, -⟩
                  · skip
                    obtain ⟨v467, c468⟩ : ∃ v, I433 a0 15 = v := ⟨_, rfl⟩
                    rw [c468] at p454
                    rw [c402] at p454
                    obtain ⟨v469, c470⟩ : ∃ v, I433 a23 5 = v := ⟨_, rfl⟩
                    have b471 := iv2_5 hS442.1 ta23 c470
                    have p472 := p456 _ d24
                    clear p456
                    rw [c470] at p472
                    obtain ⟨v473, c474⟩ : ∃ v, I433 a0 2 = v := ⟨_, rfl⟩
                    have b475 := iv7_2 hS442.1 ta0 c474
                    rw [c474] at p457
                    obtain ⟨v476, c477⟩ : ∃ v, I433 a0 4 = v := ⟨_, rfl⟩
                    have b478 := iv7_4 hS442.1 ta0 c477
                    rw [c477] at p458
                    obtain ⟨v479, c480⟩ : ∃ v, I433 a0 3 = v := ⟨_, rfl⟩
                    have b481 := iv7_3 hS442.1 ta0 c480
                    rw [c480] at p459
                    obtain ⟨y482, c483⟩ : ∃ v, L435 a0 5 = v := ⟨_, rfl⟩
                    rw [c483] at p460
                    obtain ⟨v484, c485⟩ : ∃ v, I433 a0 6 = v := ⟨_, rfl⟩
                    rw [c485] at p461
                    have eF := hF.eq
                    have eP := hP.eq
                    obtain ⟨v486, c487⟩ : ∃ v, I433 a0 16 = v := ⟨_, rfl⟩
                    exact tr_zret hZ dX7_readLine_117 rfl (ti_b01 (by exact om_f9079521 p453) (by exact om_e6632817 p453)) (by decide) (by decide) ⟨v438, rfl, rfl, rfl, rfl, rfl, hS442, hL452, (by exact om_be53a44c h439), (fun dr hd => (Option.some.inj (d24.symm.trans hd)) ▸ hO451), (Or.inl ⟨(by (try rw [w422]); first | done | with_reducible assumption | omega), (by (try rw [w422]); (try rw [c468]); (try rw [c62]); first | done | with_reducible assumption | omega), (by (try rw [w422]); first | done | with_reducible assumption | exact om_f2d5abae w420 p455 eF), (fun q0 z0 => by obtain rfl := Option.some.inj ((d24).symm.trans z0); (try rw [w422]); (try rw [c443]); first | done | with_reducible assumption | exact om_2757374c p28 w423), (fun q0 z0 => by obtain rfl := Option.some.inj ((d24).symm.trans z0); (try rw [w422]); (try rw [c444]); first | done | with_reducible assumption | exact om_2757374c p32 w424), (fun q0 z0 => by obtain rfl := Option.some.inj ((d24).symm.trans z0); (try rw [w422]); (try rw [c445]); first | done | with_reducible assumption | exact om_2757374c p36 w425), (fun q0 z0 => by obtain rfl := Option.some.inj ((d24).symm.trans z0); (try rw [w422]); (try rw [c470]); first | done | with_reducible assumption | exact om_414fd8c3 w426 p472), (fun q0 z0 => by obtain rfl := Option.some.inj ((d24).symm.trans z0); (try rw [w422]); (try rw [c446]); first | done | with_reducible assumption | exact om_2757374c p44 w427), (fun q0 z0 => by obtain rfl := Option.some.inj ((d24).symm.trans z0); (try rw [w422]); (try rw [c447]); first | done | with_reducible assumption | exact om_2757374c p48 w428), (fun q0 z0 => by obtain rfl := Option.some.inj ((d24).symm.trans z0); (try rw [w422]); (try rw [c448]); first | done | with_reducible assumption | exact om_2757374c p52 w429), (by (try rw [w422]); (try rw [c449]); first | done | with_reducible assumption | exact om_2757374c p56 w430), (by (try rw [w422]); (try rw [c450]); first | done | with_reducible assumption | exact om_2757374c p60 w431), (by (try rw [w422]); (try rw [c474]); first | done | with_reducible assumption | omega), (by (try rw [w422]); (try rw [c477]); first | done | with_reducible assumption | omega), (by (try rw [w422]); (try rw [c480]); first | done | with_reducible assumption | omega), (by (try rw [w422]); (try rw [c483]); first | done | assumption), (by (try rw [w422]); (try rw [c485]); first | done | assumption), (NmC.ln rp462 (by exact om_65b350f5 p70 h419)), trivial⟩), trivial⟩
                  · skip
                    obtain ⟨v488, c489⟩ : ∃ v, I433 a0 15 = v := ⟨_, rfl⟩
                    rw [c489] at p465
                    obtain ⟨v490, c491⟩ : ∃ v, I433 a0 16 = v := ⟨_, rfl⟩
                    rw [c491] at p466
                    have eF := hF.eq
                    have eP := hP.eq
                    obtain ⟨v492, c493⟩ : ∃ v, I433 a23 5 = v := ⟨_, rfl⟩
                    have b494 := iv2_5 hS442.1 ta23 c493
                    obtain ⟨v495, c496⟩ : ∃ v, I433 a0 2 = v := ⟨_, rfl⟩
                    have b497 := iv7_2 hS442.1 ta0 c496
                    obtain ⟨v498, c499⟩ : ∃ v, I433 a0 4 = v := ⟨_, rfl⟩
                    have b500 := iv7_4 hS442.1 ta0 c499
                    obtain ⟨v501, c502⟩ : ∃ v, I433 a0 3 = v := ⟨_, rfl⟩
                    have b503 := iv7_3 hS442.1 ta0 c502
                    obtain ⟨y504, c505⟩ : ∃ v, L435 a0 5 = v := ⟨_, rfl⟩
                    obtain ⟨v506, c507⟩ : ∃ v, I433 a0 6 = v := ⟨_, rfl⟩
                    exact tr_zret hZ dX7_readLine_117 rfl (ti_b01 (by exact om_d99fa9e4 p463) (by exact om_d3de7ec9 p463)) (by decide) (by decide) ⟨v438, rfl, rfl, rfl, rfl, rfl, hS442, hL452, (by exact om_be53a44c h439), (fun dr hd => (Option.some.inj (d24.symm.trans hd)) ▸ hO451), (Or.inr (⟨(by (try rw [w422]); first | done | with_reducible assumption | omega), (by (try rw [w422]); first | done | with_reducible assumption | exact om_2cf37690 w420 p464 p465 eF), (by (try rw [w422]); (try rw [c489]); first | done | with_reducible assumption | exact om_621963eb w420 p465 eF), (by (try rw [w422]); (try rw [c491]); first | done | with_reducible assumption | exact om_621963eb w421 p466 eP), trivial⟩)), trivial⟩
                · skip
                  by_cases h508 : v68.toInt = 6
                  · skip
                    refine tr_tabIn (off := 49) 118 dX7_readLine_69 (by exact om_a39226b3 p70 h508) (by exact om_e27afa32 p70 h508) (by rw [h508]; decide +kernel) (by decide) ?_
                    obtain ⟨w509, w510, w511, w512, w513, w514, w515, w516, w517, w518, w519, w520⟩ := lnl_6 (B := gB) (Q := gQ) (s := gs) (by exact om_2648d226 p70 h508)
                    refine tr_aload_n dX7_readLine_118 rfl ?_
                    refine q_iconst dX7_readLine_119 (by decide) ?_
                    intro v521 h522
                    refine q_putZ dX7_readLine_120 fl7_35 (kR7 hS392.1 ta0) (Or.inl rfl) hS392 ta0 (by exact om_d753bc65 h522) (by show (0 : Int) ≤ v521.toInt ∧ v521.toInt ≤ (1 : Int); exact om_d753bc65 h522) rfl (by decide +kernel) ?_
                    intro I523 hS524 e525 f526
                    have c527 : I523 a23 0 = v25 := (f526 _ _ (fun q => absurd q.2 (by decide))).trans c393
                    have c528 : I523 a23 1 = v29 := (f526 _ _ (fun q => absurd q.2 (by decide))).trans c394
                    have c529 : I523 a23 3 = v33 := (f526 _ _ (fun q => absurd q.2 (by decide))).trans c395
                    have c530 : I523 a23 5 = v37 := (f526 _ _ (fun q => absurd q.2 (by decide))).trans c396
                    have c531 : I523 a23 9 = v41 := (f526 _ _ (fun q => absurd q.2 (by decide))).trans c397
                    have c532 : I523 a23 11 = v45 := (f526 _ _ (fun q => absurd q.2 (by decide))).trans c398
                    have c533 : I523 a23 13 = v49 := (f526 _ _ (fun q => absurd q.2 (by decide))).trans c399
                    have c534 : I523 a0 11 = v53 := (f526 _ _ (fun q => absurd q.2 (by decide))).trans c400
                    have c535 : I523 a0 15 = v61 := (f526 _ _ (fun q => absurd q.2 (by decide))).trans c402
                    have c536 : I523 a0 2 = v406 := (f526 _ _ (fun q => absurd q.2 (by decide))).trans c407
                    have c537 : I523 a0 4 = v409 := (f526 _ _ (fun q => absurd q.2 (by decide))).trans c410
                    have c538 : I523 a0 3 = v412 := (f526 _ _ (fun q => absurd q.2 (by decide))).trans c413
                    have c539 : I523 a0 6 = v417 := (f526 _ _ (fun q => absurd q.2 (by decide))).trans c418
                    have hO540 : FrO 2 a23 T I0 I523 := hO403.put f526 ta0 (Or.inl (by decide))
                    refine tr_aload_n dX7_readLine_123 rfl ?_
                    refine tr_aload_n dX7_readLine_124 rfl ?_
                    refine tr_getR dX7_readLine_125 fl7_22 (kR7 hS524.1 ta0) d24 ?_
                    obtain ⟨a541, d542, ta541⟩ := rf2_8 hW0 ta23
                    refine tr_getR dX7_readLine_128 fl7_183 (kR2 hS524.1 ta23) d542 ?_
                    refine q_callVi hE (M' := mX7_readMinutes) (as := [_]) dX7_readLine_131 lk7_186 inX7_readMinutes seX7_readMinutes myX7_readMinutes (by decide) ⟨by decide, by decide⟩ rfl (kR7 hS524.1 ta0) (Nat.le_of_ble_eq_true rfl) rfl rfl (by decide) (by decide) (fk_X7_readMinutes hS524.1 (gB) ((tkN gB gs)) (gQ) ta0 ta541 (TxA.kp hT hS524 ta0 rfl rfl rfl (by decide +kernel) (by decide +kernel)) (by (try rw [c536]); first | done | with_reducible assumption | omega) (by (try rw [c537]); first | done | with_reducible assumption | omega) (by (try rw [c538]); first | done | with_reducible assumption | omega) (by (try rw [c416]); first | done | assumption) (by (try rw [c539]); first | done | assumption) (by (try rw [((hS524.cell ta0 (by decide +kernel)).trans c20)]); first | done | with_reducible assumption | omega) (fun q0 z0 => by obtain rfl := Option.some.inj ((d24).symm.trans z0); (try rw [c527]); first | done | with_reducible assumption | omega)) ?_
                    rintro v548 cn' K' N' I543 R544 L545 ⟨rfl, rfl, rfl, rfl, g546, gl547, h549, dj550, -⟩
                    have hS551 := hS524.tr g546 (by decide +kernel) (by decide +kernel)
                    have c552 : I543 a23 0 = v25 := (g546.cell ta23 (by decide +kernel)).trans c527
                    have c553 : I543 a23 1 = v29 := (g546.cell ta23 (by decide +kernel)).trans c528
                    have c554 : I543 a23 3 = v33 := (g546.cell ta23 (by decide +kernel)).trans c529
                    have c555 : I543 a23 5 = v37 := (g546.cell ta23 (by decide +kernel)).trans c530
                    have c556 : I543 a23 9 = v41 := (g546.cell ta23 (by decide +kernel)).trans c531
                    have c557 : I543 a23 11 = v45 := (g546.cell ta23 (by decide +kernel)).trans c532
                    have c558 : I543 a23 13 = v49 := (g546.cell ta23 (by decide +kernel)).trans c533
                    have c559 : I543 a0 11 = v53 := (g546.cell ta0 (by decide +kernel)).trans c534
                    have c560 : I543 a0 12 = v521 := (g546.cell ta0 (by decide +kernel)).trans e525
                    have hO561 : FrO 2 a23 T I0 I543 := hO540.st g546 (by decide +kernel)
                    have hL562 := hL404.tr gl547 (by decide +kernel)
                    have hN563 : NmC L545 R0 a0 gQ := NmC.kp hN405 gl547 hS551.1 ta0 (by decide +kernel) (by decide +kernel)
                    rcases dj550 with ⟨p564, p565, p566, p567, p568, p569, p570, p571, -⟩ | ⟨p572, p573, p574, p575, -⟩
                    · skip
                      obtain ⟨v576, c577⟩ : ∃ v, I543 a0 15 = v := ⟨_, rfl⟩
                      rw [c577] at p565
                      rw [c535] at p565
                      obtain ⟨v578, c579⟩ : ∃ v, I543 a0 2 = v := ⟨_, rfl⟩
                      have b580 := iv7_2 hS551.1 ta0 c579
                      rw [c579] at p567
                      obtain ⟨v581, c582⟩ : ∃ v, I543 a0 4 = v := ⟨_, rfl⟩
                      have b583 := iv7_4 hS551.1 ta0 c582
                      rw [c582] at p568
                      obtain ⟨v584, c585⟩ : ∃ v, I543 a0 3 = v := ⟨_, rfl⟩
                      have b586 := iv7_3 hS551.1 ta0 c585
                      rw [c585] at p569
                      obtain ⟨y587, c588⟩ : ∃ v, L545 a0 5 = v := ⟨_, rfl⟩
                      rw [c588] at p570
                      obtain ⟨v589, c590⟩ : ∃ v, I543 a0 6 = v := ⟨_, rfl⟩
                      rw [c590] at p571
                      have eF := hF.eq
                      have eP := hP.eq
                      obtain ⟨v591, c592⟩ : ∃ v, I543 a0 16 = v := ⟨_, rfl⟩
                      exact tr_zret hZ dX7_readLine_134 rfl (ti_b01 (by exact om_f9079521 p564) (by exact om_e6632817 p564)) (by decide) (by decide) ⟨v548, rfl, rfl, rfl, rfl, rfl, hS551, hL562, (by exact om_be53a44c h549), (fun dr hd => (Option.some.inj (d24.symm.trans hd)) ▸ hO561), (Or.inl ⟨(by (try rw [w511]); first | done | with_reducible assumption | omega), (by (try rw [w511]); (try rw [c577]); (try rw [c62]); first | done | with_reducible assumption | omega), (by (try rw [w511]); first | done | with_reducible assumption | exact om_f2d5abae w509 p566 eF), (fun q0 z0 => by obtain rfl := Option.some.inj ((d24).symm.trans z0); (try rw [w511]); (try rw [c552]); first | done | with_reducible assumption | exact om_2757374c p28 w512), (fun q0 z0 => by obtain rfl := Option.some.inj ((d24).symm.trans z0); (try rw [w511]); (try rw [c553]); first | done | with_reducible assumption | exact om_2757374c p32 w513), (fun q0 z0 => by obtain rfl := Option.some.inj ((d24).symm.trans z0); (try rw [w511]); (try rw [c554]); first | done | with_reducible assumption | exact om_2757374c p36 w514), (fun q0 z0 => by obtain rfl := Option.some.inj ((d24).symm.trans z0); (try rw [w511]); (try rw [c555]); first | done | with_reducible assumption | exact om_2757374c p40 w515), (fun q0 z0 => by obtain rfl := Option.some.inj ((d24).symm.trans z0); (try rw [w511]); (try rw [c556]); first | done | with_reducible assumption | exact om_2757374c p44 w516), (fun q0 z0 => by obtain rfl := Option.some.inj ((d24).symm.trans z0); (try rw [w511]); (try rw [c557]); first | done | with_reducible assumption | exact om_2757374c p48 w517), (fun q0 z0 => by obtain rfl := Option.some.inj ((d24).symm.trans z0); (try rw [w511]); (try rw [c558]); first | done | with_reducible assumption | exact om_2757374c p52 w518), (by (try rw [w511]); (try rw [c559]); first | done | with_reducible assumption | exact om_2757374c p56 w519), (by (try rw [w511]); (try rw [c560]); first | done | with_reducible assumption | exact om_f2e5fab5 w520 h522), (by (try rw [w511]); (try rw [c579]); first | done | with_reducible assumption | omega), (by (try rw [w511]); (try rw [c582]); first | done | with_reducible assumption | omega), (by (try rw [w511]); (try rw [c585]); first | done | with_reducible assumption | omega), (by (try rw [w511]); (try rw [c588]); first | done | assumption), (by (try rw [w511]); (try rw [c590]); first | done | assumption), (NmC.ln (NmC.bd (k := srt gB gs) hN563 (by exact om_70cc2fd8 p70 h508) (by exact om_8b60b2c7 p70 h508)) rfl), trivial⟩), trivial⟩
                    · skip
                      obtain ⟨v593, c594⟩ : ∃ v, I543 a0 15 = v := ⟨_, rfl⟩
                      rw [c594] at p574
                      obtain ⟨v595, c596⟩ : ∃ v, I543 a0 16 = v := ⟨_, rfl⟩
                      rw [c596] at p575
                      have eF := hF.eq
                      have eP := hP.eq
                      obtain ⟨v597, c598⟩ : ∃ v, I543 a0 2 = v := ⟨_, rfl⟩
                      have b599 := iv7_2 hS551.1 ta0 c598
                      obtain ⟨v600, c601⟩ : ∃ v, I543 a0 4 = v := ⟨_, rfl⟩
                      have b602 := iv7_4 hS551.1 ta0 c601
                      obtain ⟨v603, c604⟩ : ∃ v, I543 a0 3 = v := ⟨_, rfl⟩
                      have b605 := iv7_3 hS551.1 ta0 c604
                      obtain ⟨y606, c607⟩ : ∃ v, L545 a0 5 = v := ⟨_, rfl⟩
                      obtain ⟨v608, c609⟩ : ∃ v, I543 a0 6 = v := ⟨_, rfl⟩
                      exact tr_zret hZ dX7_readLine_134 rfl (ti_b01 (by exact om_d99fa9e4 p572) (by exact om_d3de7ec9 p572)) (by decide) (by decide) ⟨v548, rfl, rfl, rfl, rfl, rfl, hS551, hL562, (by exact om_be53a44c h549), (fun dr hd => (Option.some.inj (d24.symm.trans hd)) ▸ hO561), (Or.inr (⟨(by (try rw [w511]); first | done | with_reducible assumption | omega), (by (try rw [w511]); first | done | with_reducible assumption | exact om_2cf37690 w509 p573 p574 eF), (by (try rw [w511]); (try rw [c594]); first | done | with_reducible assumption | exact om_621963eb w509 p574 eF), (by (try rw [w511]); (try rw [c596]); first | done | with_reducible assumption | exact om_621963eb w510 p575 eP), trivial⟩)), trivial⟩
                  · skip
                    by_cases h610 : v68.toInt = 7
                    · skip
                      refine tr_tabIn (off := 66) 135 dX7_readLine_69 (by exact om_b6945d8c p70 h610) (by exact om_7eab330d p70 h610) (by rw [h610]; decide +kernel) (by decide) ?_
                      obtain ⟨w611, w612, w613, w614, w615, w616, w617, w618, w619, w620, w621, w622⟩ := lnl_7 (B := gB) (Q := gQ) (s := gs) (by exact om_601c075c p70 h610)
                      have p623 := p131 (by exact om_601c075c p70 h610)
                      refine tr_aload_n dX7_readLine_135 rfl ?_
                      refine q_callVi hE (M' := mX7_readTurner) (as := []) dX7_readLine_136 lk7_190 inX7_readTurner seX7_readTurner myX7_readTurner (by decide) ⟨by decide, by decide⟩ rfl (kR7 hS392.1 ta0) (Nat.le_of_ble_eq_true rfl) rfl rfl (by decide) (by decide) (fk_X7_readTurner hS392.1 (gB) ((tkN gB gs)) (gQ) ta0 (TxA.kp hT hS392 ta0 rfl rfl rfl (by decide +kernel) (by decide +kernel)) hN405 (by (try rw [c407]); first | done | with_reducible assumption | omega) (by (try rw [c410]); first | done | with_reducible assumption | omega) (by (try rw [c413]); first | done | with_reducible assumption | omega) (by (try rw [c416]); first | done | assumption) (by (try rw [c418]); first | done | assumption) (by (try rw [((hS392.cell ta0 (by decide +kernel)).trans c20)]); first | done | with_reducible assumption | omega) (fun q0 z0 => by obtain rfl := Option.some.inj ((d24).symm.trans z0); (try rw [c393]); first | done | with_reducible assumption | omega) (fun q0 z0 => by obtain rfl := Option.some.inj ((d24).symm.trans z0); (try rw [c394]); first | done | with_reducible assumption | omega) (fun q0 z0 => by obtain rfl := Option.some.inj ((d24).symm.trans z0); (try rw [c396]); first | done | with_reducible assumption | omega) (fun q0 z0 => by obtain rfl := Option.some.inj ((d24).symm.trans z0); (try rw [c397]); first | done | with_reducible assumption | omega) (by first | done | with_reducible assumption | omega) (by first | done | with_reducible assumption | exact om_53dace20 b39.2 b39.1 p40 w617)) ?_
                      rintro v629 cn' K' N' I624 R625 L626 ⟨rfl, rfl, rfl, rfl, g627, gl628, h630, rp631, dj632, -⟩
                      have hS633 := hS392.tr g627 (by decide +kernel) (by decide +kernel)
                      have c634 : I624 a23 0 = v25 := (g627.cell ta23 (by decide +kernel)).trans c393
                      have c635 : I624 a23 1 = v29 := (g627.cell ta23 (by decide +kernel)).trans c394
                      have c636 : I624 a23 3 = v33 := (g627.cell ta23 (by decide +kernel)).trans c395
                      have c637 : I624 a23 5 = v37 := (g627.cell ta23 (by decide +kernel)).trans c396
                      have c638 : I624 a23 11 = v45 := (g627.cell ta23 (by decide +kernel)).trans c398
                      have c639 : I624 a23 13 = v49 := (g627.cell ta23 (by decide +kernel)).trans c399
                      have c640 : I624 a0 11 = v53 := (g627.cell ta0 (by decide +kernel)).trans c400
                      have c641 : I624 a0 12 = v57 := (g627.cell ta0 (by decide +kernel)).trans c401
                      have hO642 : FrO 2 a23 T I0 I624 := hO403.tr (rp631 _ d24)
                      have hL643 := hL404.tr gl628 (by decide +kernel)
                      rcases dj632 with ⟨p644, p645, p646, p647, p648, p649, p650, p651, p652, rp653, -⟩ | ⟨p654, p655, p656, p657, -⟩
                      · skip
                        obtain ⟨v658, c659⟩ : ∃ v, I624 a0 15 = v := ⟨_, rfl⟩
                        rw [c659] at p645
                        rw [c402] at p645
                        obtain ⟨v660, c661⟩ : ∃ v, I624 a23 9 = v := ⟨_, rfl⟩
                        have b662 := iv2_9 hS633.1 ta23 c661
                        have p663 := p647 _ d24
                        clear p647
                        rw [c661] at p663
                        obtain ⟨v664, c665⟩ : ∃ v, I624 a0 2 = v := ⟨_, rfl⟩
                        have b666 := iv7_2 hS633.1 ta0 c665
                        rw [c665] at p648
                        obtain ⟨v667, c668⟩ : ∃ v, I624 a0 4 = v := ⟨_, rfl⟩
                        have b669 := iv7_4 hS633.1 ta0 c668
                        rw [c668] at p649
                        obtain ⟨v670, c671⟩ : ∃ v, I624 a0 3 = v := ⟨_, rfl⟩
                        have b672 := iv7_3 hS633.1 ta0 c671
                        rw [c671] at p650
                        obtain ⟨y673, c674⟩ : ∃ v, L626 a0 5 = v := ⟨_, rfl⟩
                        rw [c674] at p651
                        obtain ⟨v675, c676⟩ : ∃ v, I624 a0 6 = v := ⟨_, rfl⟩
                        rw [c676] at p652
                        have eF := hF.eq
                        have eP := hP.eq
                        obtain ⟨v677, c678⟩ : ∃ v, I624 a0 16 = v := ⟨_, rfl⟩
                        exact tr_zret hZ dX7_readLine_139 rfl (ti_b01 (by exact om_f9079521 p644) (by exact om_e6632817 p644)) (by decide) (by decide) ⟨v629, rfl, rfl, rfl, rfl, rfl, hS633, hL643, (by exact om_be53a44c h630), (fun dr hd => (Option.some.inj (d24.symm.trans hd)) ▸ hO642), (Or.inl ⟨(by (try rw [w613]); first | done | with_reducible assumption | omega), (by (try rw [w613]); (try rw [c659]); (try rw [c62]); first | done | with_reducible assumption | omega), (by (try rw [w613]); first | done | with_reducible assumption | exact om_f2d5abae w611 p646 eF), (fun q0 z0 => by obtain rfl := Option.some.inj ((d24).symm.trans z0); (try rw [w613]); (try rw [c634]); first | done | with_reducible assumption | exact om_2757374c p28 w614), (fun q0 z0 => by obtain rfl := Option.some.inj ((d24).symm.trans z0); (try rw [w613]); (try rw [c635]); first | done | with_reducible assumption | exact om_2757374c p32 w615), (fun q0 z0 => by obtain rfl := Option.some.inj ((d24).symm.trans z0); (try rw [w613]); (try rw [c636]); first | done | with_reducible assumption | exact om_2757374c p36 w616), (fun q0 z0 => by obtain rfl := Option.some.inj ((d24).symm.trans z0); (try rw [w613]); (try rw [c637]); first | done | with_reducible assumption | exact om_2757374c p40 w617), (fun q0 z0 => by obtain rfl := Option.some.inj ((d24).symm.trans z0); (try rw [w613]); (try rw [c661]); first | done | with_reducible assumption | exact om_414fd8c3 w618 p663), (fun q0 z0 => by obtain rfl := Option.some.inj ((d24).symm.trans z0); (try rw [w613]); (try rw [c638]); first | done | with_reducible assumption | exact om_2757374c p48 w619), (fun q0 z0 => by obtain rfl := Option.some.inj ((d24).symm.trans z0); (try rw [w613]); (try rw [c639]); first | done | with_reducible assumption | exact om_2757374c p52 w620), (by (try rw [w613]); (try rw [c640]); first | done | with_reducible assumption | exact om_2757374c p56 w621), (by (try rw [w613]); (try rw [c641]); first | done | with_reducible assumption | exact om_2757374c p60 w622), (by (try rw [w613]); (try rw [c665]); first | done | with_reducible assumption | omega), (by (try rw [w613]); (try rw [c668]); first | done | with_reducible assumption | omega), (by (try rw [w613]); (try rw [c671]); first | done | with_reducible assumption | omega), (by (try rw [w613]); (try rw [c674]); first | done | assumption), (by (try rw [w613]); (try rw [c676]); first | done | assumption), (NmC.ln rp653 (by exact om_601c075c p70 h610)), trivial⟩), trivial⟩
                      · skip
                        obtain ⟨v679, c680⟩ : ∃ v, I624 a0 15 = v := ⟨_, rfl⟩
                        rw [c680] at p656
                        obtain ⟨v681, c682⟩ : ∃ v, I624 a0 16 = v := ⟨_, rfl⟩
                        rw [c682] at p657
                        have eF := hF.eq
                        have eP := hP.eq
                        obtain ⟨v683, c684⟩ : ∃ v, I624 a23 9 = v := ⟨_, rfl⟩
                        have b685 := iv2_9 hS633.1 ta23 c684
                        obtain ⟨v686, c687⟩ : ∃ v, I624 a0 2 = v := ⟨_, rfl⟩
                        have b688 := iv7_2 hS633.1 ta0 c687
                        obtain ⟨v689, c690⟩ : ∃ v, I624 a0 4 = v := ⟨_, rfl⟩
                        have b691 := iv7_4 hS633.1 ta0 c690
                        obtain ⟨v692, c693⟩ : ∃ v, I624 a0 3 = v := ⟨_, rfl⟩
                        have b694 := iv7_3 hS633.1 ta0 c693
                        obtain ⟨y695, c696⟩ : ∃ v, L626 a0 5 = v := ⟨_, rfl⟩
                        obtain ⟨v697, c698⟩ : ∃ v, I624 a0 6 = v := ⟨_, rfl⟩
                        exact tr_zret hZ dX7_readLine_139 rfl (ti_b01 (by exact om_d99fa9e4 p654) (by exact om_d3de7ec9 p654)) (by decide) (by decide) ⟨v629, rfl, rfl, rfl, rfl, rfl, hS633, hL643, (by exact om_be53a44c h630), (fun dr hd => (Option.some.inj (d24.symm.trans hd)) ▸ hO642), (Or.inr (⟨(by (try rw [w613]); first | done | with_reducible assumption | omega), (by (try rw [w613]); first | done | with_reducible assumption | exact om_2cf37690 w611 p655 p656 eF), (by (try rw [w613]); (try rw [c680]); first | done | with_reducible assumption | exact om_621963eb w611 p656 eF), (by (try rw [w613]); (try rw [c682]); first | done | with_reducible assumption | exact om_621963eb w612 p657 eP), trivial⟩)), trivial⟩
                    · skip
                      by_cases h699 : v68.toInt = 8
                      · skip
                        refine tr_tabIn (off := 71) 140 dX7_readLine_69 (by exact om_4fac0507 p70 h699) (by exact om_de750999 p70 h699) (by rw [h699]; decide +kernel) (by decide) ?_
                        obtain ⟨w700, w701, w702, w703, w704, w705, w706, w707, w708, w709, w710, w711⟩ := lnl_8 (B := gB) (Q := gQ) (s := gs) (by exact om_4a400a7e p70 h699)
                        have p712 := p132 (by exact om_4a400a7e p70 h699)
                        refine tr_aload_n dX7_readLine_140 rfl ?_
                        refine q_callVi hE (M' := mX7_readCall) (as := []) dX7_readLine_141 lk7_193 inX7_readCall seX7_readCall myX7_readCall (by decide) ⟨by decide, by decide⟩ rfl (kR7 hS392.1 ta0) (Nat.le_of_ble_eq_true rfl) rfl rfl (by decide) (by decide) (fk_X7_readCall hS392.1 (gB) ((tkN gB gs)) (gQ) ta0 (TxA.kp hT hS392 ta0 rfl rfl rfl (by decide +kernel) (by decide +kernel)) hN405 (by (try rw [c407]); first | done | with_reducible assumption | omega) (by (try rw [c410]); first | done | with_reducible assumption | omega) (by (try rw [c413]); first | done | with_reducible assumption | omega) (by (try rw [c416]); first | done | assumption) (by (try rw [c418]); first | done | assumption) (by (try rw [((hS392.cell ta0 (by decide +kernel)).trans c20)]); first | done | with_reducible assumption | omega) (fun q0 z0 => by obtain rfl := Option.some.inj ((d24).symm.trans z0); (try rw [c393]); first | done | with_reducible assumption | omega) (fun q0 z0 => by obtain rfl := Option.some.inj ((d24).symm.trans z0); (try rw [c397]); first | done | with_reducible assumption | omega) (fun q0 z0 => by obtain rfl := Option.some.inj ((d24).symm.trans z0); (try rw [c398]); first | done | with_reducible assumption | omega) (by first | done | with_reducible assumption | omega)) ?_
                        rintro v718 cn' K' N' I713 R714 L715 ⟨rfl, rfl, rfl, rfl, g716, gl717, h719, rp720, dj721, -⟩
                        have hS722 := hS392.tr g716 (by decide +kernel) (by decide +kernel)
                        have c723 : I713 a23 0 = v25 := (g716.cell ta23 (by decide +kernel)).trans c393
                        have c724 : I713 a23 1 = v29 := (g716.cell ta23 (by decide +kernel)).trans c394
                        have c725 : I713 a23 3 = v33 := (g716.cell ta23 (by decide +kernel)).trans c395
                        have c726 : I713 a23 5 = v37 := (g716.cell ta23 (by decide +kernel)).trans c396
                        have c727 : I713 a23 9 = v41 := (g716.cell ta23 (by decide +kernel)).trans c397
                        have c728 : I713 a23 13 = v49 := (g716.cell ta23 (by decide +kernel)).trans c399
                        have c729 : I713 a0 11 = v53 := (g716.cell ta0 (by decide +kernel)).trans c400
                        have c730 : I713 a0 12 = v57 := (g716.cell ta0 (by decide +kernel)).trans c401
                        have hO731 : FrO 2 a23 T I0 I713 := hO403.tr (rp720 _ d24)
                        have hL732 := hL404.tr gl717 (by decide +kernel)
                        have hN733 : NmC L715 R0 a0 gQ := NmC.kp hN405 gl717 hS722.1 ta0 (by decide +kernel) (by decide +kernel)
                        rcases dj721 with ⟨p734, p735, p736, p737, p738, p739, p740, p741, p742, -⟩ | ⟨p743, p744, p745, p746, -⟩
                        · skip
                          obtain ⟨v747, c748⟩ : ∃ v, I713 a0 15 = v := ⟨_, rfl⟩
                          rw [c748] at p735
                          rw [c402] at p735
                          obtain ⟨v749, c750⟩ : ∃ v, I713 a23 11 = v := ⟨_, rfl⟩
                          have b751 := iv2_11 hS722.1 ta23 c750
                          have p752 := p737 _ d24
                          clear p737
                          rw [c750] at p752
                          obtain ⟨v753, c754⟩ : ∃ v, I713 a0 2 = v := ⟨_, rfl⟩
                          have b755 := iv7_2 hS722.1 ta0 c754
                          rw [c754] at p738
                          obtain ⟨v756, c757⟩ : ∃ v, I713 a0 4 = v := ⟨_, rfl⟩
                          have b758 := iv7_4 hS722.1 ta0 c757
                          rw [c757] at p739
                          obtain ⟨v759, c760⟩ : ∃ v, I713 a0 3 = v := ⟨_, rfl⟩
                          have b761 := iv7_3 hS722.1 ta0 c760
                          rw [c760] at p740
                          obtain ⟨y762, c763⟩ : ∃ v, L715 a0 5 = v := ⟨_, rfl⟩
                          rw [c763] at p741
                          obtain ⟨v764, c765⟩ : ∃ v, I713 a0 6 = v := ⟨_, rfl⟩
                          rw [c765] at p742
                          have eF := hF.eq
                          have eP := hP.eq
                          obtain ⟨v766, c767⟩ : ∃ v, I713 a0 16 = v := ⟨_, rfl⟩
                          exact tr_zret hZ dX7_readLine_144 rfl (ti_b01 (by exact om_f9079521 p734) (by exact om_e6632817 p734)) (by decide) (by decide) ⟨v718, rfl, rfl, rfl, rfl, rfl, hS722, hL732, (by exact om_be53a44c h719), (fun dr hd => (Option.some.inj (d24.symm.trans hd)) ▸ hO731), (Or.inl ⟨(by (try rw [w702]); first | done | with_reducible assumption | omega), (by (try rw [w702]); (try rw [c748]); (try rw [c62]); first | done | with_reducible assumption | omega), (by (try rw [w702]); first | done | with_reducible assumption | exact om_f2d5abae w700 p736 eF), (fun q0 z0 => by obtain rfl := Option.some.inj ((d24).symm.trans z0); (try rw [w702]); (try rw [c723]); first | done | with_reducible assumption | exact om_2757374c p28 w703), (fun q0 z0 => by obtain rfl := Option.some.inj ((d24).symm.trans z0); (try rw [w702]); (try rw [c724]); first | done | with_reducible assumption | exact om_2757374c p32 w704), (fun q0 z0 => by obtain rfl := Option.some.inj ((d24).symm.trans z0); (try rw [w702]); (try rw [c725]); first | done | with_reducible assumption | exact om_2757374c p36 w705), (fun q0 z0 => by obtain rfl := Option.some.inj ((d24).symm.trans z0); (try rw [w702]); (try rw [c726]); first | done | with_reducible assumption | exact om_2757374c p40 w706), (fun q0 z0 => by obtain rfl := Option.some.inj ((d24).symm.trans z0); (try rw [w702]); (try rw [c727]); first | done | with_reducible assumption | exact om_2757374c p44 w707), (fun q0 z0 => by obtain rfl := Option.some.inj ((d24).symm.trans z0); (try rw [w702]); (try rw [c750]); first | done | with_reducible assumption | exact om_414fd8c3 w708 p752), (fun q0 z0 => by obtain rfl := Option.some.inj ((d24).symm.trans z0); (try rw [w702]); (try rw [c728]); first | done | with_reducible assumption | exact om_2757374c p52 w709), (by (try rw [w702]); (try rw [c729]); first | done | with_reducible assumption | exact om_2757374c p56 w710), (by (try rw [w702]); (try rw [c730]); first | done | with_reducible assumption | exact om_2757374c p60 w711), (by (try rw [w702]); (try rw [c754]); first | done | with_reducible assumption | omega), (by (try rw [w702]); (try rw [c757]); first | done | with_reducible assumption | omega), (by (try rw [w702]); (try rw [c760]); first | done | with_reducible assumption | omega), (by (try rw [w702]); (try rw [c763]); first | done | assumption), (by (try rw [w702]); (try rw [c765]); first | done | assumption), (NmC.ln (NmC.bd (k := srt gB gs) hN733 (by exact om_ede42b3e p70 h699) (by exact om_d6de8f9f p70 h699)) rfl), trivial⟩), trivial⟩
                        · skip
                          obtain ⟨v768, c769⟩ : ∃ v, I713 a0 15 = v := ⟨_, rfl⟩
                          rw [c769] at p745
                          obtain ⟨v770, c771⟩ : ∃ v, I713 a0 16 = v := ⟨_, rfl⟩
                          rw [c771] at p746
                          have eF := hF.eq
                          have eP := hP.eq
                          obtain ⟨v772, c773⟩ : ∃ v, I713 a23 11 = v := ⟨_, rfl⟩
                          have b774 := iv2_11 hS722.1 ta23 c773
                          obtain ⟨v775, c776⟩ : ∃ v, I713 a0 2 = v := ⟨_, rfl⟩
                          have b777 := iv7_2 hS722.1 ta0 c776
                          obtain ⟨v778, c779⟩ : ∃ v, I713 a0 4 = v := ⟨_, rfl⟩
                          have b780 := iv7_4 hS722.1 ta0 c779
                          obtain ⟨v781, c782⟩ : ∃ v, I713 a0 3 = v := ⟨_, rfl⟩
                          have b783 := iv7_3 hS722.1 ta0 c782
                          obtain ⟨y784, c785⟩ : ∃ v, L715 a0 5 = v := ⟨_, rfl⟩
                          obtain ⟨v786, c787⟩ : ∃ v, I713 a0 6 = v := ⟨_, rfl⟩
                          exact tr_zret hZ dX7_readLine_144 rfl (ti_b01 (by exact om_d99fa9e4 p743) (by exact om_d3de7ec9 p743)) (by decide) (by decide) ⟨v718, rfl, rfl, rfl, rfl, rfl, hS722, hL732, (by exact om_be53a44c h719), (fun dr hd => (Option.some.inj (d24.symm.trans hd)) ▸ hO731), (Or.inr (⟨(by (try rw [w702]); first | done | with_reducible assumption | omega), (by (try rw [w702]); first | done | with_reducible assumption | exact om_2cf37690 w700 p744 p745 eF), (by (try rw [w702]); (try rw [c769]); first | done | with_reducible assumption | exact om_621963eb w700 p745 eF), (by (try rw [w702]); (try rw [c771]); first | done | with_reducible assumption | exact om_621963eb w701 p746 eP), trivial⟩)), trivial⟩
                      · skip
                        by_cases h788 : v68.toInt = 9
                        · skip
                          refine tr_tabIn (off := 76) 145 dX7_readLine_69 (by exact om_4e85e0d7 p70 h788) (by exact om_2dc8e130 p70 h788) (by rw [h788]; decide +kernel) (by decide) ?_
                          obtain ⟨w789, w790, w791, w792, w793, w794, w795, w796, w797, w798, w799, w800⟩ := lnl_9 (B := gB) (Q := gQ) (s := gs) (by exact om_d9186df2 p70 h788)
                          have p801 := p133 (by exact om_d9186df2 p70 h788)
                          refine tr_aload_n dX7_readLine_145 rfl ?_
                          refine tr_getR dX7_readLine_146 fl7_22 (kR7 hS392.1 ta0) d24 ?_
                          refine tr_dup dX7_readLine_149 rfl ?_
                          refine q_getI dX7_readLine_150 fl7_162 (kR2 hS392.1 ta23) c399 ?_
                          refine q_iconst dX7_readLine_153 (by decide) ?_
                          intro v802 h803
                          refine q_iaddE dX7_readLine_154 (by intro j1 j2 j3 j4; exact om_ca3dfbcf b51.2 b51.1 p52 w798 p801 h803) ?_
                          intro v804 h805
                          refine q_putI dX7_readLine_155 fl7_162 (kR2 hS392.1 ta23) (Or.inl rfl) hS392 ta23 (by show (0 : Int) ≤ v804.toInt ∧ v804.toInt ≤ (4 : Int); exact om_0efcec17 b51.2 b51.1 p52 w798 p801 h803 h805) rfl (by decide +kernel) ?_
                          intro I806 hS807 e808 f809
                          have c810 : I806 a23 0 = v25 := (f809 _ _ (fun q => absurd q.2 (by decide))).trans c393
                          have c811 : I806 a23 1 = v29 := (f809 _ _ (fun q => absurd q.2 (by decide))).trans c394
                          have c812 : I806 a23 3 = v33 := (f809 _ _ (fun q => absurd q.2 (by decide))).trans c395
                          have c813 : I806 a23 5 = v37 := (f809 _ _ (fun q => absurd q.2 (by decide))).trans c396
                          have c814 : I806 a23 9 = v41 := (f809 _ _ (fun q => absurd q.2 (by decide))).trans c397
                          have c815 : I806 a23 11 = v45 := (f809 _ _ (fun q => absurd q.2 (by decide))).trans c398
                          have c816 : I806 a0 11 = v53 := (f809 _ _ (fun q => absurd q.2 (by decide))).trans c400
                          have c817 : I806 a0 12 = v57 := (f809 _ _ (fun q => absurd q.2 (by decide))).trans c401
                          have c818 : I806 a0 15 = v61 := (f809 _ _ (fun q => absurd q.2 (by decide))).trans c402
                          have c819 : I806 a0 2 = v406 := (f809 _ _ (fun q => absurd q.2 (by decide))).trans c407
                          have c820 : I806 a0 4 = v409 := (f809 _ _ (fun q => absurd q.2 (by decide))).trans c410
                          have c821 : I806 a0 3 = v412 := (f809 _ _ (fun q => absurd q.2 (by decide))).trans c413
                          have c822 : I806 a0 6 = v417 := (f809 _ _ (fun q => absurd q.2 (by decide))).trans c418
                          have hO823 : FrO 2 a23 T I0 I806 := hO403.put f809 ta23 (Or.inr rfl)
                          refine tr_aload_n dX7_readLine_158 rfl ?_
                          refine tr_aload_n dX7_readLine_159 rfl ?_
                          refine tr_getR dX7_readLine_160 fl7_22 (kR7 hS807.1 ta0) d24 ?_
                          obtain ⟨a824, d825, ta824⟩ := rf2_14 hW0 ta23
                          refine tr_getR dX7_readLine_163 fl7_196 (kR2 hS807.1 ta23) d825 ?_
                          refine tr_aload_n dX7_readLine_166 rfl ?_
                          refine tr_getR dX7_readLine_167 fl7_22 (kR7 hS807.1 ta0) d24 ?_
                          refine q_getI dX7_readLine_170 fl7_162 (kR2 hS807.1 ta23) e808 ?_
                          refine q_iconst dX7_readLine_173 (by decide) ?_
                          intro v826 h827
                          refine q_isubE dX7_readLine_174 (by intro j1 j2 j3 j4; exact om_9adead35 b51.2 b51.1 p52 w798 p801 h803 h805 h827) ?_
                          intro v828 h829
                          obtain ⟨a830, d831, ta830⟩ := rf23 hS807.1 ta824 (j := v828.toNatClampNeg) (ti_lt (by exact om_48073540 b51.2 b51.1 p52 w798 p801 h803 h805 h827 h829) (by exact om_ea23941a b51.2 b51.1 p52 w798 p801 h803 h805 h827 h829))
                          refine tr_aald dX7_readLine_175 (kR23 hS807.1 ta824) (by decide) (by decide) (ti_in (nR23 hS807.1 ta824) (by exact om_48073540 b51.2 b51.1 p52 w798 p801 h803 h805 h827 h829) (by exact om_ea23941a b51.2 b51.1 p52 w798 p801 h803 h805 h827 h829)) d831 ?_
                          refine q_callVi hE (M' := mX7_readMinutes) (as := [_]) dX7_readLine_176 lk7_186 inX7_readMinutes seX7_readMinutes myX7_readMinutes (by decide) ⟨by decide, by decide⟩ rfl (kR7 hS807.1 ta0) (Nat.le_of_ble_eq_true rfl) rfl rfl (by decide) (by decide) (fk_X7_readMinutes hS807.1 (gB) ((tkN gB gs)) (gQ) ta0 ta830 (TxA.kp hT hS807 ta0 rfl rfl rfl (by decide +kernel) (by decide +kernel)) (by (try rw [c819]); first | done | with_reducible assumption | omega) (by (try rw [c820]); first | done | with_reducible assumption | omega) (by (try rw [c821]); first | done | with_reducible assumption | omega) (by (try rw [c416]); first | done | assumption) (by (try rw [c822]); first | done | assumption) (by (try rw [((hS807.cell ta0 (by decide +kernel)).trans c20)]); first | done | with_reducible assumption | omega) (fun q0 z0 => by obtain rfl := Option.some.inj ((d24).symm.trans z0); (try rw [c810]); first | done | with_reducible assumption | omega)) ?_
                          rintro v837 cn' K' N' I832 R833 L834 ⟨rfl, rfl, rfl, rfl, g835, gl836, h838, dj839, -⟩
                          have hS840 := hS807.tr g835 (by decide +kernel) (by decide +kernel)
                          have c841 : I832 a23 0 = v25 := (g835.cell ta23 (by decide +kernel)).trans c810
                          have c842 : I832 a23 1 = v29 := (g835.cell ta23 (by decide +kernel)).trans c811
                          have c843 : I832 a23 3 = v33 := (g835.cell ta23 (by decide +kernel)).trans c812
                          have c844 : I832 a23 5 = v37 := (g835.cell ta23 (by decide +kernel)).trans c813
                          have c845 : I832 a23 9 = v41 := (g835.cell ta23 (by decide +kernel)).trans c814
                          have c846 : I832 a23 11 = v45 := (g835.cell ta23 (by decide +kernel)).trans c815
                          have c847 : I832 a0 11 = v53 := (g835.cell ta0 (by decide +kernel)).trans c816
                          have c848 : I832 a0 12 = v57 := (g835.cell ta0 (by decide +kernel)).trans c817
                          have c849 : I832 a23 13 = v804 := (g835.cell ta23 (by decide +kernel)).trans e808
                          have hO850 : FrO 2 a23 T I0 I832 := hO823.st g835 (by decide +kernel)
                          have hL851 := hL404.tr gl836 (by decide +kernel)
                          have hN852 : NmC L834 R0 a0 gQ := NmC.kp hN405 gl836 hS840.1 ta0 (by decide +kernel) (by decide +kernel)
                          rcases dj839 with ⟨p853, p854, p855, p856, p857, p858, p859, p860, -⟩ | ⟨p861, p862, p863, p864, -⟩
                          · skip
                            obtain ⟨v865, c866⟩ : ∃ v, I832 a0 15 = v := ⟨_, rfl⟩
                            rw [c866] at p854
                            rw [c818] at p854
                            obtain ⟨v867, c868⟩ : ∃ v, I832 a0 2 = v := ⟨_, rfl⟩
                            have b869 := iv7_2 hS840.1 ta0 c868
                            rw [c868] at p856
                            obtain ⟨v870, c871⟩ : ∃ v, I832 a0 4 = v := ⟨_, rfl⟩
                            have b872 := iv7_4 hS840.1 ta0 c871
                            rw [c871] at p857
                            obtain ⟨v873, c874⟩ : ∃ v, I832 a0 3 = v := ⟨_, rfl⟩
                            have b875 := iv7_3 hS840.1 ta0 c874
                            rw [c874] at p858
                            obtain ⟨y876, c877⟩ : ∃ v, L834 a0 5 = v := ⟨_, rfl⟩
                            rw [c877] at p859
                            obtain ⟨v878, c879⟩ : ∃ v, I832 a0 6 = v := ⟨_, rfl⟩
                            rw [c879] at p860
                            have eF := hF.eq
                            have eP := hP.eq
                            obtain ⟨v880, c881⟩ : ∃ v, I832 a0 16 = v := ⟨_, rfl⟩
                            exact tr_zret hZ dX7_readLine_179 rfl (ti_b01 (by exact om_f9079521 p853) (by exact om_e6632817 p853)) (by decide) (by decide) ⟨v837, rfl, rfl, rfl, rfl, rfl, hS840, hL851, (by exact om_be53a44c h838), (fun dr hd => (Option.some.inj (d24.symm.trans hd)) ▸ hO850), (Or.inl ⟨(by (try rw [w791]); first | done | with_reducible assumption | omega), (by (try rw [w791]); (try rw [c866]); (try rw [c62]); first | done | with_reducible assumption | omega), (by (try rw [w791]); first | done | with_reducible assumption | exact om_f2d5abae w789 p855 eF), (fun q0 z0 => by obtain rfl := Option.some.inj ((d24).symm.trans z0); (try rw [w791]); (try rw [c841]); first | done | with_reducible assumption | exact om_2757374c p28 w792), (fun q0 z0 => by obtain rfl := Option.some.inj ((d24).symm.trans z0); (try rw [w791]); (try rw [c842]); first | done | with_reducible assumption | exact om_2757374c p32 w793), (fun q0 z0 => by obtain rfl := Option.some.inj ((d24).symm.trans z0); (try rw [w791]); (try rw [c843]); first | done | with_reducible assumption | exact om_2757374c p36 w794), (fun q0 z0 => by obtain rfl := Option.some.inj ((d24).symm.trans z0); (try rw [w791]); (try rw [c844]); first | done | with_reducible assumption | exact om_2757374c p40 w795), (fun q0 z0 => by obtain rfl := Option.some.inj ((d24).symm.trans z0); (try rw [w791]); (try rw [c845]); first | done | with_reducible assumption | exact om_2757374c p44 w796), (fun q0 z0 => by obtain rfl := Option.some.inj ((d24).symm.trans z0); (try rw [w791]); (try rw [c846]); first | done | with_reducible assumption | exact om_2757374c p48 w797), (fun q0 z0 => by obtain rfl := Option.some.inj ((d24).symm.trans z0); (try rw [w791]); (try rw [c849]); first | done | with_reducible assumption | exact om_7149e5be p52 w798 h803 h805), (by (try rw [w791]); (try rw [c847]); first | done | with_reducible assumption | exact om_2757374c p56 w799), (by (try rw [w791]); (try rw [c848]); first | done | with_reducible assumption | exact om_2757374c p60 w800), (by (try rw [w791]); (try rw [c868]); first | done | with_reducible assumption | omega), (by (try rw [w791]); (try rw [c871]); first | done | with_reducible assumption | omega), (by (try rw [w791]); (try rw [c874]); first | done | with_reducible assumption | omega), (by (try rw [w791]); (try rw [c877]); first | done | assumption), (by (try rw [w791]); (try rw [c879]); first | done | assumption), (NmC.ln (NmC.bd (k := srt gB gs) hN852 (by exact om_58da3969 p70 h788) (by exact om_702ede58 p70 h788)) rfl), trivial⟩), trivial⟩
                          · skip
                            obtain ⟨v882, c883⟩ : ∃ v, I832 a0 15 = v := ⟨_, rfl⟩
                            rw [c883] at p863
                            obtain ⟨v884, c885⟩ : ∃ v, I832 a0 16 = v := ⟨_, rfl⟩
                            rw [c885] at p864
                            have eF := hF.eq
                            have eP := hP.eq
                            obtain ⟨v886, c887⟩ : ∃ v, I832 a0 2 = v := ⟨_, rfl⟩
                            have b888 := iv7_2 hS840.1 ta0 c887
                            obtain ⟨v889, c890⟩ : ∃ v, I832 a0 4 = v := ⟨_, rfl⟩
                            have b891 := iv7_4 hS840.1 ta0 c890
                            obtain ⟨v892, c893⟩ : ∃ v, I832 a0 3 = v := ⟨_, rfl⟩
                            have b894 := iv7_3 hS840.1 ta0 c893
                            obtain ⟨y895, c896⟩ : ∃ v, L834 a0 5 = v := ⟨_, rfl⟩
                            obtain ⟨v897, c898⟩ : ∃ v, I832 a0 6 = v := ⟨_, rfl⟩
                            exact tr_zret hZ dX7_readLine_179 rfl (ti_b01 (by exact om_d99fa9e4 p861) (by exact om_d3de7ec9 p861)) (by decide) (by decide) ⟨v837, rfl, rfl, rfl, rfl, rfl, hS840, hL851, (by exact om_be53a44c h838), (fun dr hd => (Option.some.inj (d24.symm.trans hd)) ▸ hO850), (Or.inr (⟨(by (try rw [w791]); first | done | with_reducible assumption | omega), (by (try rw [w791]); first | done | with_reducible assumption | exact om_2cf37690 w789 p862 p863 eF), (by (try rw [w791]); (try rw [c883]); first | done | with_reducible assumption | exact om_621963eb w789 p863 eF), (by (try rw [w791]); (try rw [c885]); first | done | with_reducible assumption | exact om_621963eb w790 p864 eP), trivial⟩)), trivial⟩
                        · skip
                          refine tr_tabOut 180 dX7_readLine_69 (by exact om_77d7e14e b55.2 b55.1 h69.2 h69.1 p70 h169 h170 h380 h419 h508 h610 h699 h788) (by decide) ?_
                          obtain ⟨w899, w900, w901, w902, w903, w904, w905, w906, w907, w908, w909, w910⟩ := lnl_e (B := gB) (Q := gQ) (s := gs) (by exact om_5df3823a b55.2 b55.1 h69.2 h69.1 p70 h72 h73 h169 h170 h380 h419 h508 h610 h699 h788) (by exact om_4b9a5505 b55.2 b55.1 h69.2 h69.1 p70 h169 h170 h380 h419 h508 h610 h699 h788)
                          have p911 := p134 (by exact om_6dad541c b55.2 b55.1 p56 h69.2 h69.1 p70 h169 h170 h380 h419 h508 h610 h699 h788 w909)
                          refine tr_aload_n dX7_readLine_180 rfl ?_
                          refine tr_iload_n dX7_readLine_181 rfl ?_
                          refine q_callVi hE (M' := mX7_readEvent) (as := [_]) dX7_readLine_182 lk7_200 inX7_readEvent seX7_readEvent myX7_readEvent (by decide) ⟨by decide, by decide⟩ rfl (kR7 hS392.1 ta0) (Nat.le_of_ble_eq_true rfl) rfl rfl (by decide) (by decide) (fk_X7_readEvent hS392.1 (gB) ((tkN gB gs)) (gQ) ((srt gB gs)) ta0 (by exact om_702c8789 b55.2 b55.1 p56 h69.2 h69.1 p70 h72 h73 h169 h170 h380 h419 h508 h610 h699 h788 w909) (TxA.kp hT hS392 ta0 rfl rfl rfl (by decide +kernel) (by decide +kernel)) (by (try rw [c407]); first | done | with_reducible assumption | omega) (by (try rw [c410]); first | done | with_reducible assumption | omega) (by (try rw [c413]); first | done | with_reducible assumption | omega) (by (try rw [c416]); first | done | assumption) (by (try rw [c418]); first | done | assumption) (by (try rw [((hS392.cell ta0 (by decide +kernel)).trans c20)]); first | done | with_reducible assumption | omega) (fun q0 z0 => by obtain rfl := Option.some.inj ((d24).symm.trans z0); (try rw [c393]); first | done | with_reducible assumption | omega) (fun q0 z0 => by obtain rfl := Option.some.inj ((d24).symm.trans z0); (try rw [c394]); first | done | with_reducible assumption | omega) (fun q0 z0 => by obtain rfl := Option.some.inj ((d24).symm.trans z0); (try rw [c395]); first | done | with_reducible assumption | omega) (by first | done | with_reducible assumption | omega) (by first | done | with_reducible assumption | omega)) ?_
                          rintro v917 cn' K' N' I912 R913 L914 ⟨rfl, rfl, rfl, rfl, g915, gl916, h918, rp919, dj920, -⟩
                          have hS921 := hS392.tr g915 (by decide +kernel) (by decide +kernel)
                          have c922 : I912 a23 0 = v25 := (g915.cell ta23 (by decide +kernel)).trans c393
                          have c923 : I912 a23 1 = v29 := (g915.cell ta23 (by decide +kernel)).trans c394
                          have c924 : I912 a23 5 = v37 := (g915.cell ta23 (by decide +kernel)).trans c396
                          have c925 : I912 a23 9 = v41 := (g915.cell ta23 (by decide +kernel)).trans c397
                          have c926 : I912 a23 11 = v45 := (g915.cell ta23 (by decide +kernel)).trans c398
                          have c927 : I912 a23 13 = v49 := (g915.cell ta23 (by decide +kernel)).trans c399
                          have c928 : I912 a0 11 = v53 := (g915.cell ta0 (by decide +kernel)).trans c400
                          have c929 : I912 a0 12 = v57 := (g915.cell ta0 (by decide +kernel)).trans c401
                          have hO930 : FrO 2 a23 T I0 I912 := hO403.tr (rp919 _ d24)
                          have hL931 := hL404.tr gl916 (by decide +kernel)
                          have hN932 : NmC L914 R0 a0 gQ := NmC.kp hN405 gl916 hS921.1 ta0 (by decide +kernel) (by decide +kernel)
                          rcases dj920 with ⟨p933, p934, p935, p936, p937, p938, p939, p940, p941, -⟩ | ⟨p942, p943, p944, p945, -⟩
                          · skip
                            obtain ⟨v946, c947⟩ : ∃ v, I912 a0 15 = v := ⟨_, rfl⟩
                            rw [c947] at p934
                            rw [c402] at p934
                            obtain ⟨v948, c949⟩ : ∃ v, I912 a23 3 = v := ⟨_, rfl⟩
                            have b950 := iv2_3 hS921.1 ta23 c949
                            have p951 := p936 _ d24
                            clear p936
                            rw [c949] at p951
                            obtain ⟨v952, c953⟩ : ∃ v, I912 a0 2 = v := ⟨_, rfl⟩
                            have b954 := iv7_2 hS921.1 ta0 c953
                            rw [c953] at p937
                            obtain ⟨v955, c956⟩ : ∃ v, I912 a0 4 = v := ⟨_, rfl⟩
                            have b957 := iv7_4 hS921.1 ta0 c956
                            rw [c956] at p938
                            obtain ⟨v958, c959⟩ : ∃ v, I912 a0 3 = v := ⟨_, rfl⟩
                            have b960 := iv7_3 hS921.1 ta0 c959
                            rw [c959] at p939
                            obtain ⟨y961, c962⟩ : ∃ v, L914 a0 5 = v := ⟨_, rfl⟩
                            rw [c962] at p940
                            obtain ⟨v963, c964⟩ : ∃ v, I912 a0 6 = v := ⟨_, rfl⟩
                            rw [c964] at p941
                            have eF := hF.eq
                            have eP := hP.eq
                            obtain ⟨v965, c966⟩ : ∃ v, I912 a0 16 = v := ⟨_, rfl⟩
                            exact tr_zret hZ dX7_readLine_185 rfl (ti_b01 (by exact om_f9079521 p933) (by exact om_e6632817 p933)) (by decide) (by decide) ⟨v917, rfl, rfl, rfl, rfl, rfl, hS921, hL931, (by exact om_be53a44c h918), (fun dr hd => (Option.some.inj (d24.symm.trans hd)) ▸ hO930), (Or.inl ⟨(by (try rw [w901]); first | done | with_reducible assumption | omega), (by (try rw [w901]); (try rw [c947]); (try rw [c62]); first | done | with_reducible assumption | omega), (by (try rw [w901]); first | done | with_reducible assumption | exact om_f2d5abae w899 p935 eF), (fun q0 z0 => by obtain rfl := Option.some.inj ((d24).symm.trans z0); (try rw [w901]); (try rw [c922]); first | done | with_reducible assumption | exact om_2757374c p28 w902), (fun q0 z0 => by obtain rfl := Option.some.inj ((d24).symm.trans z0); (try rw [w901]); (try rw [c923]); first | done | with_reducible assumption | exact om_2757374c p32 w903), (fun q0 z0 => by obtain rfl := Option.some.inj ((d24).symm.trans z0); (try rw [w901]); (try rw [c949]); first | done | with_reducible assumption | exact om_414fd8c3 w904 p951), (fun q0 z0 => by obtain rfl := Option.some.inj ((d24).symm.trans z0); (try rw [w901]); (try rw [c924]); first | done | with_reducible assumption | exact om_2757374c p40 w905), (fun q0 z0 => by obtain rfl := Option.some.inj ((d24).symm.trans z0); (try rw [w901]); (try rw [c925]); first | done | with_reducible assumption | exact om_2757374c p44 w906), (fun q0 z0 => by obtain rfl := Option.some.inj ((d24).symm.trans z0); (try rw [w901]); (try rw [c926]); first | done | with_reducible assumption | exact om_2757374c p48 w907), (fun q0 z0 => by obtain rfl := Option.some.inj ((d24).symm.trans z0); (try rw [w901]); (try rw [c927]); first | done | with_reducible assumption | exact om_2757374c p52 w908), (by (try rw [w901]); (try rw [c928]); first | done | with_reducible assumption | exact om_2757374c p56 w909), (by (try rw [w901]); (try rw [c929]); first | done | with_reducible assumption | exact om_2757374c p60 w910), (by (try rw [w901]); (try rw [c953]); first | done | with_reducible assumption | omega), (by (try rw [w901]); (try rw [c956]); first | done | with_reducible assumption | omega), (by (try rw [w901]); (try rw [c959]); first | done | with_reducible assumption | omega), (by (try rw [w901]); (try rw [c962]); first | done | assumption), (by (try rw [w901]); (try rw [c964]); first | done | assumption), (NmC.ln (NmC.bd (k := srt gB gs) hN932 (by exact om_3b92feed p70 h419 h508 h610 h699 h788) (by exact om_cb4e00ab p70 h610 h699 h788)) rfl), trivial⟩), trivial⟩
                          · skip
                            obtain ⟨v967, c968⟩ : ∃ v, I912 a0 15 = v := ⟨_, rfl⟩
                            rw [c968] at p944
                            obtain ⟨v969, c970⟩ : ∃ v, I912 a0 16 = v := ⟨_, rfl⟩
                            rw [c970] at p945
                            have eF := hF.eq
                            have eP := hP.eq
                            obtain ⟨v971, c972⟩ : ∃ v, I912 a23 3 = v := ⟨_, rfl⟩
                            have b973 := iv2_3 hS921.1 ta23 c972
                            obtain ⟨v974, c975⟩ : ∃ v, I912 a0 2 = v := ⟨_, rfl⟩
                            have b976 := iv7_2 hS921.1 ta0 c975
                            obtain ⟨v977, c978⟩ : ∃ v, I912 a0 4 = v := ⟨_, rfl⟩
                            have b979 := iv7_4 hS921.1 ta0 c978
                            obtain ⟨v980, c981⟩ : ∃ v, I912 a0 3 = v := ⟨_, rfl⟩
                            have b982 := iv7_3 hS921.1 ta0 c981
                            obtain ⟨y983, c984⟩ : ∃ v, L914 a0 5 = v := ⟨_, rfl⟩
                            obtain ⟨v985, c986⟩ : ∃ v, I912 a0 6 = v := ⟨_, rfl⟩
                            exact tr_zret hZ dX7_readLine_185 rfl (ti_b01 (by exact om_d99fa9e4 p942) (by exact om_d3de7ec9 p942)) (by decide) (by decide) ⟨v917, rfl, rfl, rfl, rfl, rfl, hS921, hL931, (by exact om_be53a44c h918), (fun dr hd => (Option.some.inj (d24.symm.trans hd)) ▸ hO930), (Or.inr (⟨(by (try rw [w901]); first | done | with_reducible assumption | omega), (by (try rw [w901]); first | done | with_reducible assumption | exact om_2cf37690 w899 p943 p944 eF), (by (try rw [w901]); (try rw [c968]); first | done | with_reducible assumption | exact om_621963eb w899 p944 eF), (by (try rw [w901]); (try rw [c970]); first | done | with_reducible assumption | exact om_621963eb w900 p945 eP), trivial⟩)), trivial⟩
              · skip
                replace hF := hF.pos (by exact om_2c3bd904 p56 p70 h169 h170 h380)
                replace hP := hP.pos (by exact om_2c3bd904 p56 p70 h169 h170 h380)
                refine tr_aload_n dX7_readLine_57 rfl ?_
                refine q_bipush dX7_readLine_58 (by decide +kernel) ?_
                intro v987 h988
                refine q_callVi hE (M' := mX7_fail) (as := [_]) dX7_readLine_60 lk7_64 inX7_fail seX7_fail myX7_fail (by decide) ⟨by decide, by decide⟩ rfl (kR7 hS0.1 ta0) (Nat.le_of_ble_eq_true rfl) rfl rfl (by decide) (by decide) (fk_X7_fail hS0.1  ta0 (by exact om_54a92a42 h988)) ?_
                rintro v994 cn' K' N' I989 R990 L991 ⟨rfl, rfl, rfl, rfl, rfl, g992, h995, p996, p997, p998, -⟩
                have hS999 := hS0.tr g992 (by decide +kernel) (by decide +kernel)
                have c1000 : I989 a0 2 = v1 := (g992.cell ta0 (by decide +kernel)).trans c2
                have c1001 : I989 a0 4 = v5 := (g992.cell ta0 (by decide +kernel)).trans c6
                have c1002 : I989 a0 3 = v9 := (g992.cell ta0 (by decide +kernel)).trans c10
                have c1003 : I989 a0 6 = v16 := (g992.cell ta0 (by decide +kernel)).trans c17
                have c1004 : I989 a23 0 = v25 := (g992.cell ta23 (by decide +kernel)).trans c26
                have c1005 : I989 a23 1 = v29 := (g992.cell ta23 (by decide +kernel)).trans c30
                have c1006 : I989 a23 3 = v33 := (g992.cell ta23 (by decide +kernel)).trans c34
                have c1007 : I989 a23 5 = v37 := (g992.cell ta23 (by decide +kernel)).trans c38
                have c1008 : I989 a23 9 = v41 := (g992.cell ta23 (by decide +kernel)).trans c42
                have c1009 : I989 a23 11 = v45 := (g992.cell ta23 (by decide +kernel)).trans c46
                have c1010 : I989 a23 13 = v49 := (g992.cell ta23 (by decide +kernel)).trans c50
                have c1011 : I989 a0 11 = v53 := (g992.cell ta0 (by decide +kernel)).trans c54
                have c1012 : I989 a0 12 = v57 := (g992.cell ta0 (by decide +kernel)).trans c58
                have hO1013 : FrO 2 a23 T I0 I989 := hO0.st g992 (by decide +kernel)
                obtain ⟨v1014, c1015⟩ : ∃ v, I989 a0 15 = v := ⟨_, rfl⟩
                rw [c1015] at p997
                obtain ⟨v1016, c1017⟩ : ∃ v, I989 a0 16 = v := ⟨_, rfl⟩
                rw [c1017] at p998
                rw [c6] at p998
                have eF := hF.eq
                have eP := hP.eq
                exact tr_zret hZ dX7_readLine_63 rfl (ti_b01 (by exact om_d99fa9e4 p996) (by exact om_d3de7ec9 p996)) (by decide) (by decide) ⟨v994, rfl, rfl, rfl, rfl, rfl, hS999, hL0, (by exact om_be53a44c h995), (fun dr hd => (Option.some.inj (d24.symm.trans hd)) ▸ hO1013), (Or.inr (⟨(by first | done | with_reducible assumption | omega), (by first | done | with_reducible assumption | exact om_3a8e1f7c eF), (by (try rw [c1015]); first | done | with_reducible assumption | exact om_1428d4dd h988 p997 eF), (by (try rw [c1017]); first | done | with_reducible assumption | exact om_3998a42e p8 p998 eP), trivial⟩)), trivial⟩
          · skip
            exfalso; exact om_3a97d4a5 p129 h167
      · skip
        exfalso; exact om_3a97d4a5 p84 h118
  · skip
    replace hF := hF.pos (by exact om_673f8c18 p70 h72 h73)
    replace hP := hP.pos (by exact om_673f8c18 p70 h72 h73)
    refine tr_aload_n dX7_readLine_10 rfl ?_
    refine q_iconst dX7_readLine_11 (by decide) ?_
    intro v1018 h1019
    refine q_callVi hE (M' := mX7_fail) (as := [_]) dX7_readLine_12 lk7_64 inX7_fail seX7_fail myX7_fail (by decide) ⟨by decide, by decide⟩ rfl (kR7 hS0.1 ta0) (Nat.le_of_ble_eq_true rfl) rfl rfl (by decide) (by decide) (fk_X7_fail hS0.1  ta0 (by exact om_95922198 h1019)) ?_
    rintro v1025 cn' K' N' I1020 R1021 L1022 ⟨rfl, rfl, rfl, rfl, rfl, g1023, h1026, p1027, p1028, p1029, -⟩
    have hS1030 := hS0.tr g1023 (by decide +kernel) (by decide +kernel)
    have c1031 : I1020 a0 2 = v1 := (g1023.cell ta0 (by decide +kernel)).trans c2
    have c1032 : I1020 a0 4 = v5 := (g1023.cell ta0 (by decide +kernel)).trans c6
    have c1033 : I1020 a0 3 = v9 := (g1023.cell ta0 (by decide +kernel)).trans c10
    have c1034 : I1020 a0 6 = v16 := (g1023.cell ta0 (by decide +kernel)).trans c17
    have c1035 : I1020 a23 0 = v25 := (g1023.cell ta23 (by decide +kernel)).trans c26
    have c1036 : I1020 a23 1 = v29 := (g1023.cell ta23 (by decide +kernel)).trans c30
    have c1037 : I1020 a23 3 = v33 := (g1023.cell ta23 (by decide +kernel)).trans c34
    have c1038 : I1020 a23 5 = v37 := (g1023.cell ta23 (by decide +kernel)).trans c38
    have c1039 : I1020 a23 9 = v41 := (g1023.cell ta23 (by decide +kernel)).trans c42
    have c1040 : I1020 a23 11 = v45 := (g1023.cell ta23 (by decide +kernel)).trans c46
    have c1041 : I1020 a23 13 = v49 := (g1023.cell ta23 (by decide +kernel)).trans c50
    have c1042 : I1020 a0 11 = v53 := (g1023.cell ta0 (by decide +kernel)).trans c54
    have c1043 : I1020 a0 12 = v57 := (g1023.cell ta0 (by decide +kernel)).trans c58
    have hO1044 : FrO 2 a23 T I0 I1020 := hO0.st g1023 (by decide +kernel)
    obtain ⟨v1045, c1046⟩ : ∃ v, I1020 a0 15 = v := ⟨_, rfl⟩
    rw [c1046] at p1028
    obtain ⟨v1047, c1048⟩ : ∃ v, I1020 a0 16 = v := ⟨_, rfl⟩
    rw [c1048] at p1029
    rw [c6] at p1029
    have eF := hF.eq
    have eP := hP.eq
    exact tr_zret hZ dX7_readLine_15 rfl (ti_b01 (by exact om_d99fa9e4 p1027) (by exact om_d3de7ec9 p1027)) (by decide) (by decide) ⟨v1025, rfl, rfl, rfl, rfl, rfl, hS1030, hL0, (by exact om_be53a44c h1026), (fun dr hd => (Option.some.inj (d24.symm.trans hd)) ▸ hO1044), (Or.inr (⟨(by first | done | with_reducible assumption | omega), (by first | done | with_reducible assumption | exact om_7fac24c5 eF), (by (try rw [c1046]); first | done | with_reducible assumption | exact om_9adad658 h1019 p1028 eF), (by (try rw [c1048]); first | done | with_reducible assumption | exact om_3998a42e p8 p1029 eP), trivial⟩)), trivial⟩
