set_option maxHeartbeats 4000000 in
theorem fk_X7_isToldAgain {l : Launch} {T : Nat → Nat} {cn : Nat} {K N : Nat → Nat} {I0 : cz_I} {R0 : cz_R} {L0 : cz_L} {d : Int} (hW0 : Wf T cn K N I0 R0 d) (gQ : Nat → Int) (gk : Int) {a0 : Nat} (ta0 : T a0 = 7) {x1 : Int32} (pre0 : x1.toInt = (gk)) (pre1 : (I0 a0 11).toInt = (gQ 7)) (pre2 : (I0 a0 12).toInt = (gQ 8)) : ConE l mX7_isToldAgain [.ref a0, .int x1] cn K N I0 R0 L0 (ca_i (fun v cn' K' N' I' R' L' => cn = cn' ∧ K = K' ∧ N = N' ∧ I0 = I' ∧ R0 = R' ∧ L0 = L' ∧ (0 ≤ v.toInt ∧ v.toInt ≤ 1) ∧ (((v.toInt = 1) ∧ ((Agn ((gk)) ((gQ 7)) ((gQ 8)))) ∧ True) ∨ ((v.toInt = 0) ∧ ((NAg ((gk)) ((gQ 7)) ((gQ 8)))) ∧ True)) ∧ True)) := by
  refine ConE.of (by decide +kernel) rfl (Nat.le_of_ble_eq_true rfl) rfl (fun X hX hZ hE => ?_)
  subst hX
  have p1 := pre0
  obtain ⟨v2, c3⟩ : ∃ v, I0 a0 11 = v := ⟨_, rfl⟩
  have b4 := iv7_11 hW0 ta0 c3
  have p5 := pre1
  rw [c3] at p5
  obtain ⟨v6, c7⟩ : ∃ v, I0 a0 12 = v := ⟨_, rfl⟩
  have b8 := iv7_12 hW0 ta0 c7
  have p9 := pre2
  rw [c7] at p9
  refine tr_iload_n dX7_isToldAgain_0 rfl ?_
  refine q_bipush dX7_isToldAgain_1 (by decide +kernel) ?_
  intro v10 h11
  refine q_icmp_ne 13 dX7_isToldAgain_3 (by decide) (fun h12 => ?_) (fun h12 => ?_)
  · skip
    refine tr_iload_n dX7_isToldAgain_13 rfl ?_
    refine q_bipush dX7_isToldAgain_14 (by decide +kernel) ?_
    intro v13 h14
    refine q_icmp_ne 30 dX7_isToldAgain_16 (by decide) (fun h15 => ?_) (fun h15 => ?_)
    · skip
      refine q_iconst dX7_isToldAgain_30 (by decide) ?_
      intro v16 h17
      exact tr_zret hZ dX7_isToldAgain_31 rfl (ti_b01 (by omega) (by omega)) (by decide) (by decide) ⟨v16, rfl, rfl, rfl, rfl, rfl, rfl, rfl, (by omega), (Or.inr (⟨(by first | done | omega), (by unfold NAg; omega), trivial⟩)), trivial⟩
    · skip
      refine tr_aload_n dX7_isToldAgain_19 rfl ?_
      refine q_getZ dX7_isToldAgain_20 fl7_35 (kR7 hW0 ta0) c7 ?_
      refine q_if_eq 30 dX7_isToldAgain_23 (by decide) (fun h18 => ?_) (fun h18 => ?_)
      · skip
        refine q_iconst dX7_isToldAgain_30 (by decide) ?_
        intro v19 h20
        exact tr_zret hZ dX7_isToldAgain_31 rfl (ti_b01 (by omega) (by omega)) (by decide) (by decide) ⟨v19, rfl, rfl, rfl, rfl, rfl, rfl, rfl, (by omega), (Or.inr (⟨(by first | done | omega), (by unfold NAg; omega), trivial⟩)), trivial⟩
      · skip
        refine q_iconst dX7_isToldAgain_26 (by decide) ?_
        intro v21 h22
        refine tr_goto 31 dX7_isToldAgain_27 (by decide) ?_
        exact tr_zret hZ dX7_isToldAgain_31 rfl (ti_b01 (by omega) (by omega)) (by decide) (by decide) ⟨v21, rfl, rfl, rfl, rfl, rfl, rfl, rfl, (by omega), (Or.inl ⟨(by first | done | omega), (by unfold Agn; omega), trivial⟩), trivial⟩
  · skip
    refine tr_aload_n dX7_isToldAgain_6 rfl ?_
    refine q_getZ dX7_isToldAgain_7 fl7_31 (kR7 hW0 ta0) c3 ?_
    refine q_if_ne 26 dX7_isToldAgain_10 (by decide) (fun h23 => ?_) (fun h23 => ?_)
    · skip
      refine q_iconst dX7_isToldAgain_26 (by decide) ?_
      intro v24 h25
      refine tr_goto 31 dX7_isToldAgain_27 (by decide) ?_
      exact tr_zret hZ dX7_isToldAgain_31 rfl (ti_b01 (by omega) (by omega)) (by decide) (by decide) ⟨v24, rfl, rfl, rfl, rfl, rfl, rfl, rfl, (by omega), (Or.inl ⟨(by first | done | omega), (by unfold Agn; omega), trivial⟩), trivial⟩
    · skip
      refine tr_iload_n dX7_isToldAgain_13 rfl ?_
      refine q_bipush dX7_isToldAgain_14 (by decide +kernel) ?_
      intro v26 h27
      refine q_icmp_ne 30 dX7_isToldAgain_16 (by decide) (fun h28 => ?_) (fun h28 => ?_)
      · skip
        refine q_iconst dX7_isToldAgain_30 (by decide) ?_
        intro v29 h30
        exact tr_zret hZ dX7_isToldAgain_31 rfl (ti_b01 (by omega) (by omega)) (by decide) (by decide) ⟨v29, rfl, rfl, rfl, rfl, rfl, rfl, rfl, (by omega), (Or.inr (⟨(by first | done | omega), (by unfold NAg; omega), trivial⟩)), trivial⟩
      · skip
        exfalso; omega
set_option maxHeartbeats 4000000 in
theorem fk_X7_isFull {l : Launch} {T : Nat → Nat} {cn : Nat} {K N : Nat → Nat} {I0 : cz_I} {R0 : cz_R} {L0 : cz_L} {d : Int} (hW0 : Wf T cn K N I0 R0 d) (gQ : Nat → Int) (gk : Int) {a0 : Nat} (ta0 : T a0 = 7) {x1 : Int32} (hx1 : 0 ≤ x1.toInt ∧ x1.toInt ≤ 10) (pre0 : ∀ b1, R0 a0 10 = some b1 → (I0 b1 3).toInt = (gQ 2)) (pre1 : ∀ b1, R0 a0 10 = some b1 → (I0 b1 5).toInt = (gQ 3)) (pre2 : ∀ b1, R0 a0 10 = some b1 → (I0 b1 9).toInt = (gQ 4)) (pre3 : ∀ b1, R0 a0 10 = some b1 → (I0 b1 11).toInt = (gQ 5)) (pre4 : ∀ b1, R0 a0 10 = some b1 → (I0 b1 13).toInt = (gQ 6)) (pre5 : x1.toInt = (gk)) : ConE l mX7_isFull [.ref a0, .int x1] cn K N I0 R0 L0 (ca_i (fun v cn' K' N' I' R' L' => cn = cn' ∧ K = K' ∧ N = N' ∧ I0 = I' ∧ R0 = R' ∧ L0 = L' ∧ (0 ≤ v.toInt ∧ v.toInt ≤ 1) ∧ (((v.toInt = 1) ∧ ((FullD ((gk)) ((gQ 2)) ((gQ 3)) ((gQ 4)) ((gQ 5)) ((gQ 6)))) ∧ True) ∨ ((v.toInt = 0) ∧ ((Fl5 ((gk)) ((gQ 3)))) ∧ ((Fl7 ((gk)) ((gQ 4)))) ∧ ((Fl8 ((gk)) ((gQ 5)))) ∧ ((Fl9 ((gk)) ((gQ 6)))) ∧ ((FlE ((gk)) ((gQ 2)))) ∧ True)) ∧ True)) := by
  refine ConE.of (by decide +kernel) rfl (Nat.le_of_ble_eq_true rfl) rfl (fun X hX hZ hE => ?_)
  subst hX
  obtain ⟨a1, d2, ta1⟩ := rf7_10 hW0 ta0
  obtain ⟨v3, c4⟩ : ∃ v, I0 a1 3 = v := ⟨_, rfl⟩
  have b5 := iv2_3 hW0 ta1 c4
  have p6 := pre0 _ d2
  rw [c4] at p6
  obtain ⟨v7, c8⟩ : ∃ v, I0 a1 5 = v := ⟨_, rfl⟩
  have b9 := iv2_5 hW0 ta1 c8
  have p10 := pre1 _ d2
  rw [c8] at p10
  obtain ⟨v11, c12⟩ : ∃ v, I0 a1 9 = v := ⟨_, rfl⟩
  have b13 := iv2_9 hW0 ta1 c12
  have p14 := pre2 _ d2
  rw [c12] at p14
  obtain ⟨v15, c16⟩ : ∃ v, I0 a1 11 = v := ⟨_, rfl⟩
  have b17 := iv2_11 hW0 ta1 c16
  have p18 := pre3 _ d2
  rw [c16] at p18
  obtain ⟨v19, c20⟩ : ∃ v, I0 a1 13 = v := ⟨_, rfl⟩
  have b21 := iv2_13 hW0 ta1 c20
  have p22 := pre4 _ d2
  rw [c20] at p22
  have p23 := pre5
  refine tr_iload_n dX7_isFull_0 rfl ?_
  by_cases h24 : x1.toInt = 5
  · skip
    refine tr_tabIn (off := 41) 42 dX7_isFull_1 (by omega) (by omega) (by rw [h24]; decide +kernel) (by decide) ?_
    refine tr_aload_n dX7_isFull_42 rfl ?_
    refine tr_getR dX7_isFull_43 fl7_22 (kR7 hW0 ta0) d2 ?_
    refine q_getI dX7_isFull_46 fl7_61 (kR2 hW0 ta1) c8 ?_
    refine q_bipush dX7_isFull_49 (by decide +kernel) ?_
    intro v25 h26
    refine q_icmp_lt 58 dX7_isFull_51 (by decide) (fun h27 => ?_) (fun h27 => ?_)
    · skip
      refine q_iconst dX7_isFull_58 (by decide) ?_
      intro v28 h29
      exact tr_zret hZ dX7_isFull_59 rfl (ti_b01 (by omega) (by omega)) (by decide) (by decide) ⟨v28, rfl, rfl, rfl, rfl, rfl, rfl, rfl, (by omega), (Or.inr (⟨(by first | done | omega), (by unfold Fl5; omega), (by unfold Fl7; omega), (by unfold Fl8; omega), (by unfold Fl9; omega), (by unfold FlE; omega), trivial⟩)), trivial⟩
    · skip
      refine q_iconst dX7_isFull_54 (by decide) ?_
      intro v30 h31
      refine tr_goto 59 dX7_isFull_55 (by decide) ?_
      exact tr_zret hZ dX7_isFull_59 rfl (ti_b01 (by omega) (by omega)) (by decide) (by decide) ⟨v30, rfl, rfl, rfl, rfl, rfl, rfl, rfl, (by omega), (Or.inl ⟨(by first | done | omega), (by unfold FullD; omega), trivial⟩), trivial⟩
  · skip
    by_cases h32 : x1.toInt = 6
    · skip
      refine tr_tabIn (off := 39) 40 dX7_isFull_1 (by omega) (by omega) (by rw [h32]; decide +kernel) (by decide) ?_
      refine q_iconst dX7_isFull_40 (by decide) ?_
      intro v33 h34
      exact tr_zret hZ dX7_isFull_41 rfl (ti_b01 (by omega) (by omega)) (by decide) (by decide) ⟨v33, rfl, rfl, rfl, rfl, rfl, rfl, rfl, (by omega), (Or.inr (⟨(by first | done | omega), (by unfold Fl5; omega), (by unfold Fl7; omega), (by unfold Fl8; omega), (by unfold Fl9; omega), (by unfold FlE; omega), trivial⟩)), trivial⟩
    · skip
      by_cases h35 : x1.toInt = 7
      · skip
        refine tr_tabIn (off := 59) 60 dX7_isFull_1 (by omega) (by omega) (by rw [h35]; decide +kernel) (by decide) ?_
        refine tr_aload_n dX7_isFull_60 rfl ?_
        refine tr_getR dX7_isFull_61 fl7_22 (kR7 hW0 ta0) d2 ?_
        refine q_getI dX7_isFull_64 fl7_156 (kR2 hW0 ta1) c12 ?_
        refine q_iconst dX7_isFull_67 (by decide) ?_
        intro v36 h37
        refine q_icmp_lt 75 dX7_isFull_68 (by decide) (fun h38 => ?_) (fun h38 => ?_)
        · skip
          refine q_iconst dX7_isFull_75 (by decide) ?_
          intro v39 h40
          exact tr_zret hZ dX7_isFull_76 rfl (ti_b01 (by omega) (by omega)) (by decide) (by decide) ⟨v39, rfl, rfl, rfl, rfl, rfl, rfl, rfl, (by omega), (Or.inr (⟨(by first | done | omega), (by unfold Fl5; omega), (by unfold Fl7; omega), (by unfold Fl8; omega), (by unfold Fl9; omega), (by unfold FlE; omega), trivial⟩)), trivial⟩
        · skip
          refine q_iconst dX7_isFull_71 (by decide) ?_
          intro v41 h42
          refine tr_goto 76 dX7_isFull_72 (by decide) ?_
          exact tr_zret hZ dX7_isFull_76 rfl (ti_b01 (by omega) (by omega)) (by decide) (by decide) ⟨v41, rfl, rfl, rfl, rfl, rfl, rfl, rfl, (by omega), (Or.inl ⟨(by first | done | omega), (by unfold FullD; omega), trivial⟩), trivial⟩
      · skip
        by_cases h43 : x1.toInt = 8
        · skip
          refine tr_tabIn (off := 76) 77 dX7_isFull_1 (by omega) (by omega) (by rw [h43]; decide +kernel) (by decide) ?_
          refine tr_aload_n dX7_isFull_77 rfl ?_
          refine tr_getR dX7_isFull_78 fl7_22 (kR7 hW0 ta0) d2 ?_
          refine q_getI dX7_isFull_81 fl7_159 (kR2 hW0 ta1) c16 ?_
          refine q_bipush dX7_isFull_84 (by decide +kernel) ?_
          intro v44 h45
          refine q_icmp_lt 93 dX7_isFull_86 (by decide) (fun h46 => ?_) (fun h46 => ?_)
          · skip
            refine q_iconst dX7_isFull_93 (by decide) ?_
            intro v47 h48
            exact tr_zret hZ dX7_isFull_94 rfl (ti_b01 (by omega) (by omega)) (by decide) (by decide) ⟨v47, rfl, rfl, rfl, rfl, rfl, rfl, rfl, (by omega), (Or.inr (⟨(by first | done | omega), (by unfold Fl5; omega), (by unfold Fl7; omega), (by unfold Fl8; omega), (by unfold Fl9; omega), (by unfold FlE; omega), trivial⟩)), trivial⟩
          · skip
            refine q_iconst dX7_isFull_89 (by decide) ?_
            intro v49 h50
            refine tr_goto 94 dX7_isFull_90 (by decide) ?_
            exact tr_zret hZ dX7_isFull_94 rfl (ti_b01 (by omega) (by omega)) (by decide) (by decide) ⟨v49, rfl, rfl, rfl, rfl, rfl, rfl, rfl, (by omega), (Or.inl ⟨(by first | done | omega), (by unfold FullD; omega), trivial⟩), trivial⟩
        · skip
          by_cases h51 : x1.toInt = 9
          · skip
            refine tr_tabIn (off := 94) 95 dX7_isFull_1 (by omega) (by omega) (by rw [h51]; decide +kernel) (by decide) ?_
            refine tr_aload_n dX7_isFull_95 rfl ?_
            refine tr_getR dX7_isFull_96 fl7_22 (kR7 hW0 ta0) d2 ?_
            refine q_getI dX7_isFull_99 fl7_162 (kR2 hW0 ta1) c20 ?_
            refine q_iconst dX7_isFull_102 (by decide) ?_
            intro v52 h53
            refine q_icmp_lt 110 dX7_isFull_103 (by decide) (fun h54 => ?_) (fun h54 => ?_)
            · skip
              refine q_iconst dX7_isFull_110 (by decide) ?_
              intro v55 h56
              exact tr_zret hZ dX7_isFull_111 rfl (ti_b01 (by omega) (by omega)) (by decide) (by decide) ⟨v55, rfl, rfl, rfl, rfl, rfl, rfl, rfl, (by omega), (Or.inr (⟨(by first | done | omega), (by unfold Fl5; omega), (by unfold Fl7; omega), (by unfold Fl8; omega), (by unfold Fl9; omega), (by unfold FlE; omega), trivial⟩)), trivial⟩
            · skip
              refine q_iconst dX7_isFull_106 (by decide) ?_
              intro v57 h58
              refine tr_goto 111 dX7_isFull_107 (by decide) ?_
              exact tr_zret hZ dX7_isFull_111 rfl (ti_b01 (by omega) (by omega)) (by decide) (by decide) ⟨v57, rfl, rfl, rfl, rfl, rfl, rfl, rfl, (by omega), (Or.inl ⟨(by first | done | omega), (by unfold FullD; omega), trivial⟩), trivial⟩
          · skip
            by_cases h59 : x1.toInt = 10
            · skip
              refine tr_tabIn (off := 39) 40 dX7_isFull_1 (by omega) (by omega) (by rw [h59]; decide +kernel) (by decide) ?_
              refine q_iconst dX7_isFull_40 (by decide) ?_
              intro v60 h61
              exact tr_zret hZ dX7_isFull_41 rfl (ti_b01 (by omega) (by omega)) (by decide) (by decide) ⟨v60, rfl, rfl, rfl, rfl, rfl, rfl, rfl, (by omega), (Or.inr (⟨(by first | done | omega), (by unfold Fl5; omega), (by unfold Fl7; omega), (by unfold Fl8; omega), (by unfold Fl9; omega), (by unfold FlE; omega), trivial⟩)), trivial⟩
            · skip
              refine tr_tabOut 112 dX7_isFull_1 (by omega) (by decide) ?_
              refine tr_aload_n dX7_isFull_112 rfl ?_
              refine tr_getR dX7_isFull_113 fl7_22 (kR7 hW0 ta0) d2 ?_
              refine q_getI dX7_isFull_116 fl7_165 (kR2 hW0 ta1) c4 ?_
              refine q_bipush dX7_isFull_119 (by decide +kernel) ?_
              intro v62 h63
              refine q_icmp_lt 128 dX7_isFull_121 (by decide) (fun h64 => ?_) (fun h64 => ?_)
              · skip
                refine q_iconst dX7_isFull_128 (by decide) ?_
                intro v65 h66
                exact tr_zret hZ dX7_isFull_129 rfl (ti_b01 (by omega) (by omega)) (by decide) (by decide) ⟨v65, rfl, rfl, rfl, rfl, rfl, rfl, rfl, (by omega), (Or.inr (⟨(by first | done | omega), (by unfold Fl5; omega), (by unfold Fl7; omega), (by unfold Fl8; omega), (by unfold Fl9; omega), (by unfold FlE; omega), trivial⟩)), trivial⟩
              · skip
                refine q_iconst dX7_isFull_124 (by decide) ?_
                intro v67 h68
                refine tr_goto 129 dX7_isFull_125 (by decide) ?_
                exact tr_zret hZ dX7_isFull_129 rfl (ti_b01 (by omega) (by omega)) (by decide) (by decide) ⟨v67, rfl, rfl, rfl, rfl, rfl, rfl, rfl, (by omega), (Or.inl ⟨(by first | done | omega), (by unfold FullD; omega), trivial⟩), trivial⟩
def wik_X7_readLine : List Nat := [128, 129, 131, 133, 135, 137, 139, 141, 192, 193, 194, 195, 256, 257, 258, 259, 260, 261, 320, 321, 322, 323, 384, 450, 451, 452, 454, 455, 456, 457, 459, 460, 463, 464, 1215, 1343, 1599]
def wrk_X7_readLine : List Nat := []
def wlk_X7_readLine : List Nat := [453, 1663, 1727]
set_option maxHeartbeats 4000000 in
theorem fk_X7_readLine {l : Launch} {T : Nat → Nat} {cn : Nat} {K N : Nat → Nat} {I0 : cz_I} {R0 : cz_R} {L0 : cz_L} {d : Int} (hW0 : Wf T cn K N I0 R0 d) (gB : cz_B) (gs : Int) (gQ : Nat → Int) {a0 : Nat} (ta0 : T a0 = 7) (hT : ∀ t, R0 a0 0 = some t → Tx I0 t gB) (hN : NmC L0 R0 a0 gQ) (pre0 : (I0 a0 2).toInt = (tkN gB gs)) (pre1 : (I0 a0 4).toInt = (tkS gB gs)) (pre2 : (I0 a0 3).toInt = (tkK gB gs)) (pre3 : (AtW ((tkK gB gs)) ((L0 a0 5).toInt) ((tkW gB gs)))) (pre4 : (AtV ((tkK gB gs)) ((I0 a0 6).toInt) ((tkV gB gs)))) (pre5 : (I0 a0 1).toInt = (gB.2)) (pre6 : ∀ b1, R0 a0 10 = some b1 → (I0 b1 0).toInt = (gQ 0)) (pre7 : ∀ b1, R0 a0 10 = some b1 → (I0 b1 1).toInt = (gQ 1)) (pre8 : ∀ b1, R0 a0 10 = some b1 → (I0 b1 3).toInt = (gQ 2)) (pre9 : ∀ b1, R0 a0 10 = some b1 → (I0 b1 5).toInt = (gQ 3)) (pre10 : ∀ b1, R0 a0 10 = some b1 → (I0 b1 9).toInt = (gQ 4)) (pre11 : ∀ b1, R0 a0 10 = some b1 → (I0 b1 11).toInt = (gQ 5)) (pre12 : ∀ b1, R0 a0 10 = some b1 → (I0 b1 13).toInt = (gQ 6)) (pre13 : (I0 a0 11).toInt = (gQ 7)) (pre14 : (I0 a0 12).toInt = (gQ 8)) : ConE l mX7_readLine [.ref a0] cn K N I0 R0 L0 (ca_i (fun v cn' K' N' I' R' L' => cn = cn' ∧ K = K' ∧ N = N' ∧ R0 = R' ∧ St T cn K N d wik_X7_readLine wrk_X7_readLine I0 R0 I' R0 ∧ LgS T wlk_X7_readLine L0 L' ∧ (0 ≤ v.toInt ∧ v.toInt ≤ 1) ∧ (((v.toInt = 1) ∧ ((I' a0 15).toInt = (I0 a0 15).toInt) ∧ ((lnF gB gQ gs) = 0) ∧ (∀ b1, R0 a0 10 = some b1 → (I' b1 0).toInt = (lnQ gB gQ gs 0)) ∧ (∀ b1, R0 a0 10 = some b1 → (I' b1 1).toInt = (lnQ gB gQ gs 1)) ∧ (∀ b1, R0 a0 10 = some b1 → (I' b1 3).toInt = (lnQ gB gQ gs 2)) ∧ (∀ b1, R0 a0 10 = some b1 → (I' b1 5).toInt = (lnQ gB gQ gs 3)) ∧ (∀ b1, R0 a0 10 = some b1 → (I' b1 9).toInt = (lnQ gB gQ gs 4)) ∧ (∀ b1, R0 a0 10 = some b1 → (I' b1 11).toInt = (lnQ gB gQ gs 5)) ∧ (∀ b1, R0 a0 10 = some b1 → (I' b1 13).toInt = (lnQ gB gQ gs 6)) ∧ ((I' a0 11).toInt = (lnQ gB gQ gs 7)) ∧ ((I' a0 12).toInt = (lnQ gB gQ gs 8)) ∧ ((I' a0 2).toInt = (tkN gB (lnS gB gQ gs))) ∧ ((I' a0 4).toInt = (tkS gB (lnS gB gQ gs))) ∧ ((I' a0 3).toInt = (tkK gB (lnS gB gQ gs))) ∧ ((AtW ((tkK gB (lnS gB gQ gs))) ((L' a0 5).toInt) ((tkW gB (lnS gB gQ gs))))) ∧ ((AtV ((tkK gB (lnS gB gQ gs))) ((I' a0 6).toInt) ((tkV gB (lnS gB gQ gs))))) ∧ (NmC L' R0 a0 (lnQ gB gQ gs)) ∧ True) ∨ ((v.toInt = 0) ∧ ((lnF gB gQ gs) ≠ 0) ∧ ((I' a0 15).toInt = (lnF gB gQ gs)) ∧ ((I' a0 16).toInt = (lnP gB gQ gs)) ∧ True)) ∧ True)) := by
  refine ConE.of (by decide +kernel) rfl (Nat.le_of_ble_eq_true rfl) rfl (fun X hX hZ hE => ?_)
  subst hX
  have hS0 : St T cn K N d wik_X7_readLine wrk_X7_readLine I0 R0 I0 R0 := St.rf0 hW0
  have hL0 : LgS T wlk_X7_readLine L0 L0 := LgS.rf0
  obtain ⟨v1, c2⟩ : ∃ v, I0 a0 2 = v := ⟨_, rfl⟩
  have b3 := iv7_2 hS0.1 ta0 c2
  have p4 := pre0
  rw [c2] at p4
  obtain ⟨v5, c6⟩ : ∃ v, I0 a0 4 = v := ⟨_, rfl⟩
  have b7 := iv7_4 hS0.1 ta0 c6
  have p8 := pre1
  rw [c6] at p8
  obtain ⟨v9, c10⟩ : ∃ v, I0 a0 3 = v := ⟨_, rfl⟩
  have b11 := iv7_3 hS0.1 ta0 c10
  have p12 := pre2
  rw [c10] at p12
  obtain ⟨y13, c14⟩ : ∃ v, L0 a0 5 = v := ⟨_, rfl⟩
  have p15 := pre3
  rw [c14] at p15
  obtain ⟨v16, c17⟩ : ∃ v, I0 a0 6 = v := ⟨_, rfl⟩
  have p18 := pre4
  rw [c17] at p18
  obtain ⟨v19, c20⟩ : ∃ v, I0 a0 1 = v := ⟨_, rfl⟩
  have b21 := iv7_1 hW0 ta0 c20
  have p22 := pre5
  rw [c20] at p22
  obtain ⟨a23, d24, ta23⟩ := rf7_10 hW0 ta0
  obtain ⟨v25, c26⟩ : ∃ v, I0 a23 0 = v := ⟨_, rfl⟩
  have b27 := iv2_0 hS0.1 ta23 c26
  have p28 := pre6 _ d24
  rw [c26] at p28
  obtain ⟨v29, c30⟩ : ∃ v, I0 a23 1 = v := ⟨_, rfl⟩
  have b31 := iv2_1 hS0.1 ta23 c30
  have p32 := pre7 _ d24
  rw [c30] at p32
  obtain ⟨v33, c34⟩ : ∃ v, I0 a23 3 = v := ⟨_, rfl⟩
  have b35 := iv2_3 hS0.1 ta23 c34
  have p36 := pre8 _ d24
  rw [c34] at p36
  obtain ⟨v37, c38⟩ : ∃ v, I0 a23 5 = v := ⟨_, rfl⟩
  have b39 := iv2_5 hS0.1 ta23 c38
  have p40 := pre9 _ d24
  rw [c38] at p40
  obtain ⟨v41, c42⟩ : ∃ v, I0 a23 9 = v := ⟨_, rfl⟩
  have b43 := iv2_9 hS0.1 ta23 c42
  have p44 := pre10 _ d24
  rw [c42] at p44
  obtain ⟨v45, c46⟩ : ∃ v, I0 a23 11 = v := ⟨_, rfl⟩
  have b47 := iv2_11 hS0.1 ta23 c46
  have p48 := pre11 _ d24
  rw [c46] at p48
  obtain ⟨v49, c50⟩ : ∃ v, I0 a23 13 = v := ⟨_, rfl⟩
  have b51 := iv2_13 hS0.1 ta23 c50
  have p52 := pre12 _ d24
  rw [c50] at p52
  obtain ⟨v53, c54⟩ : ∃ v, I0 a0 11 = v := ⟨_, rfl⟩
  have b55 := iv7_11 hS0.1 ta0 c54
  have p56 := pre13
  rw [c54] at p56
  obtain ⟨v57, c58⟩ : ∃ v, I0 a0 12 = v := ⟨_, rfl⟩
  have b59 := iv7_12 hS0.1 ta0 c58
  have p60 := pre14
  rw [c58] at p60
  obtain ⟨v61, c62⟩ : ∃ v, I0 a0 15 = v := ⟨_, rfl⟩
  have hF := lnF_ch gB gQ gs
  have hP := lnP_ch gB gQ gs
  refine tr_aload_n dX7_readLine_0 rfl ?_
  refine q_callVi hE (M' := mX7_sortOfWord) (as := []) dX7_readLine_1 lk7_168 inX7_sortOfWord seX7_sortOfWord myX7_sortOfWord (by decide) ⟨by decide, by decide⟩ rfl (kR7 hS0.1 ta0) (Nat.le_of_ble_eq_true rfl) rfl rfl (by decide) (by decide) (fk_X7_sortOfWord hS0.1 (gB) (gs) ta0 (by (try rw [c10]); first | done | omega) (by (try rw [c14]); first | done | assumption)) ?_
  rintro v68 cn' K' N' I63 R64 L65 ⟨rfl, rfl, rfl, rfl, rfl, rfl, h69, p70, -⟩
  refine tr_istore_n dX7_readLine_4 (by decide) (by decide) ?_
  refine tr_iload_n dX7_readLine_5 rfl ?_
  refine q_iconst dX7_readLine_6 (by decide) ?_
  intro v71 h72
  refine q_icmp_ne 16 dX7_readLine_7 (by decide) (fun h73 => ?_) (fun h73 => ?_)
  · skip
    replace hF := hF.neg (by omega)
    replace hP := hP.neg (by omega)
    refine tr_aload_n dX7_readLine_16 rfl ?_
    refine tr_iload_n dX7_readLine_17 rfl ?_
    refine q_callVi hE (M' := mX7_isToldAgain) (as := [_]) dX7_readLine_18 lk7_171 inX7_isToldAgain seX7_isToldAgain myX7_isToldAgain (by decide) ⟨by decide, by decide⟩ rfl (kR7 hS0.1 ta0) (Nat.le_of_ble_eq_true rfl) rfl rfl (by decide) (by decide) (fk_X7_isToldAgain hS0.1 (gQ) ((srt gB gs)) ta0 (by first | done | omega) (by (try rw [c54]); first | done | omega) (by (try rw [c58]); first | done | omega)) ?_
    rintro v79 cn' K' N' I74 R75 L76 ⟨rfl, rfl, rfl, rfl, rfl, rfl, h80, dj81, -⟩
    rcases dj81 with ⟨p82, p83, -⟩ | ⟨p84, p85, -⟩
    · skip
      replace hF := hF.pos p83
      replace hP := hP.pos p83
      refine q_if_eq 30 dX7_readLine_21 (by decide) (fun h86 => ?_) (fun h86 => ?_)
      · skip
        exfalso; omega
      · skip
        refine tr_aload_n dX7_readLine_24 rfl ?_
        refine q_iconst dX7_readLine_25 (by decide) ?_
        intro v87 h88
        refine q_callVi hE (M' := mX7_fail) (as := [_]) dX7_readLine_26 lk7_64 inX7_fail seX7_fail myX7_fail (by decide) ⟨by decide, by decide⟩ rfl (kR7 hS0.1 ta0) (Nat.le_of_ble_eq_true rfl) rfl rfl (by decide) (by decide) (fk_X7_fail hS0.1  ta0 (by omega)) ?_
        rintro v94 cn' K' N' I89 R90 L91 ⟨rfl, rfl, rfl, rfl, rfl, g92, h95, p96, p97, p98, -⟩
        have hS99 := hS0.tr g92 (by decide +kernel) (by decide +kernel)
        have c100 : I89 a0 2 = v1 := (g92.cell ta0 (by decide +kernel)).trans c2
        have c101 : I89 a0 4 = v5 := (g92.cell ta0 (by decide +kernel)).trans c6
        have c102 : I89 a0 3 = v9 := (g92.cell ta0 (by decide +kernel)).trans c10
        have c103 : I89 a0 6 = v16 := (g92.cell ta0 (by decide +kernel)).trans c17
        have c104 : I89 a23 0 = v25 := (g92.cell ta23 (by decide +kernel)).trans c26
        have c105 : I89 a23 1 = v29 := (g92.cell ta23 (by decide +kernel)).trans c30
        have c106 : I89 a23 3 = v33 := (g92.cell ta23 (by decide +kernel)).trans c34
        have c107 : I89 a23 5 = v37 := (g92.cell ta23 (by decide +kernel)).trans c38
        have c108 : I89 a23 9 = v41 := (g92.cell ta23 (by decide +kernel)).trans c42
        have c109 : I89 a23 11 = v45 := (g92.cell ta23 (by decide +kernel)).trans c46
        have c110 : I89 a23 13 = v49 := (g92.cell ta23 (by decide +kernel)).trans c50
        have c111 : I89 a0 11 = v53 := (g92.cell ta0 (by decide +kernel)).trans c54
        have c112 : I89 a0 12 = v57 := (g92.cell ta0 (by decide +kernel)).trans c58
        obtain ⟨v113, c114⟩ : ∃ v, I89 a0 15 = v := ⟨_, rfl⟩
        rw [c114] at p97
        obtain ⟨v115, c116⟩ : ∃ v, I89 a0 16 = v := ⟨_, rfl⟩
        rw [c116] at p98
        rw [c6] at p98
        have eF := hF.eq
        have eP := hP.eq
        exact tr_zret hZ dX7_readLine_29 rfl (ti_b01 (by omega) (by omega)) (by decide) (by decide) ⟨v94, rfl, rfl, rfl, rfl, rfl, hS99, hL0, (by omega), (Or.inr (⟨(by first | done | omega), (by first | done | omega), (by (try rw [c114]); first | done | omega), (by (try rw [c116]); first | done | omega), trivial⟩)), trivial⟩
    · skip
      replace hF := hF.neg p85
      replace hP := hP.neg p85
      refine q_if_eq 30 dX7_readLine_21 (by decide) (fun h117 => ?_) (fun h117 => ?_)
      · skip
        refine tr_aload_n dX7_readLine_30 rfl ?_
        refine tr_iload_n dX7_readLine_31 rfl ?_
        refine q_callVi hE (M' := mX7_isFull) (as := [_]) dX7_readLine_32 lk7_174 inX7_isFull seX7_isFull myX7_isFull (by decide) ⟨by decide, by decide⟩ rfl (kR7 hS0.1 ta0) (Nat.le_of_ble_eq_true rfl) rfl rfl (by decide) (by decide) (fk_X7_isFull hS0.1 (gQ) ((srt gB gs)) ta0 (by omega) (fun q0 z0 => by obtain rfl := Option.some.inj ((d24).symm.trans z0); (try rw [c34]); first | done | omega) (fun q0 z0 => by obtain rfl := Option.some.inj ((d24).symm.trans z0); (try rw [c38]); first | done | omega) (fun q0 z0 => by obtain rfl := Option.some.inj ((d24).symm.trans z0); (try rw [c42]); first | done | omega) (fun q0 z0 => by obtain rfl := Option.some.inj ((d24).symm.trans z0); (try rw [c46]); first | done | omega) (fun q0 z0 => by obtain rfl := Option.some.inj ((d24).symm.trans z0); (try rw [c50]); first | done | omega) (by first | done | omega)) ?_
        rintro v123 cn' K' N' I118 R119 L120 ⟨rfl, rfl, rfl, rfl, rfl, rfl, h124, dj125, -⟩
        rcases dj125 with ⟨p126, p127, -⟩ | ⟨p128, p129, p130, p131, p132, p133, -⟩
        · skip
          replace hF := hF.pos p127
          replace hP := hP.pos p127
          refine q_if_eq 44 dX7_readLine_35 (by decide) (fun h134 => ?_) (fun h134 => ?_)
          · skip
            exfalso; omega
          · skip
            refine tr_aload_n dX7_readLine_38 rfl ?_
            refine q_iconst dX7_readLine_39 (by decide) ?_
            intro v135 h136
            refine q_callVi hE (M' := mX7_fail) (as := [_]) dX7_readLine_40 lk7_64 inX7_fail seX7_fail myX7_fail (by decide) ⟨by decide, by decide⟩ rfl (kR7 hS0.1 ta0) (Nat.le_of_ble_eq_true rfl) rfl rfl (by decide) (by decide) (fk_X7_fail hS0.1  ta0 (by omega)) ?_
            rintro v142 cn' K' N' I137 R138 L139 ⟨rfl, rfl, rfl, rfl, rfl, g140, h143, p144, p145, p146, -⟩
            have hS147 := hS0.tr g140 (by decide +kernel) (by decide +kernel)
            have c148 : I137 a0 2 = v1 := (g140.cell ta0 (by decide +kernel)).trans c2
            have c149 : I137 a0 4 = v5 := (g140.cell ta0 (by decide +kernel)).trans c6
            have c150 : I137 a0 3 = v9 := (g140.cell ta0 (by decide +kernel)).trans c10
            have c151 : I137 a0 6 = v16 := (g140.cell ta0 (by decide +kernel)).trans c17
            have c152 : I137 a23 0 = v25 := (g140.cell ta23 (by decide +kernel)).trans c26
            have c153 : I137 a23 1 = v29 := (g140.cell ta23 (by decide +kernel)).trans c30
            have c154 : I137 a23 3 = v33 := (g140.cell ta23 (by decide +kernel)).trans c34
            have c155 : I137 a23 5 = v37 := (g140.cell ta23 (by decide +kernel)).trans c38
            have c156 : I137 a23 9 = v41 := (g140.cell ta23 (by decide +kernel)).trans c42
            have c157 : I137 a23 11 = v45 := (g140.cell ta23 (by decide +kernel)).trans c46
            have c158 : I137 a23 13 = v49 := (g140.cell ta23 (by decide +kernel)).trans c50
            have c159 : I137 a0 11 = v53 := (g140.cell ta0 (by decide +kernel)).trans c54
            have c160 : I137 a0 12 = v57 := (g140.cell ta0 (by decide +kernel)).trans c58
            obtain ⟨v161, c162⟩ : ∃ v, I137 a0 15 = v := ⟨_, rfl⟩
            rw [c162] at p145
            obtain ⟨v163, c164⟩ : ∃ v, I137 a0 16 = v := ⟨_, rfl⟩
            rw [c164] at p146
            rw [c6] at p146
            have eF := hF.eq
            have eP := hP.eq
            exact tr_zret hZ dX7_readLine_43 rfl (ti_b01 (by omega) (by omega)) (by decide) (by decide) ⟨v142, rfl, rfl, rfl, rfl, rfl, hS147, hL0, (by omega), (Or.inr (⟨(by first | done | omega), (by first | done | omega), (by (try rw [c162]); first | done | omega), (by (try rw [c164]); first | done | omega), trivial⟩)), trivial⟩
        · skip
          replace hF := hF.neg (nfull p129 p130 p131 p132 p133)
          replace hP := hP.neg (nfull p129 p130 p131 p132 p133)
          refine q_if_eq 44 dX7_readLine_35 (by decide) (fun h165 => ?_) (fun h165 => ?_)
          · skip
            refine tr_iload_n dX7_readLine_44 rfl ?_
            refine q_bipush dX7_readLine_45 (by decide +kernel) ?_
            intro v166 h167
            refine q_icmp_eq 64 dX7_readLine_47 (by decide) (fun h168 => ?_) (fun h168 => ?_)
            · skip
              replace hF := hF.neg (by omega)
              replace hP := hP.neg (by omega)
              refine tr_aload_n dX7_readLine_64 rfl ?_
              refine q_callVv hE (M' := mX7_step) (as := []) dX7_readLine_65 lk7_51 inX7_step seX7_step myX7_step (by decide) ⟨by decide, by decide⟩ rfl (kR7 hS0.1 ta0) (Nat.le_of_ble_eq_true rfl) rfl rfl (by decide) (by decide) (fk_X7_step hS0.1 (gB) ((tkN gB gs)) ta0 (TxA.kp hT hS0 ta0 rfl rfl rfl (by decide +kernel) (by decide +kernel)) (by (try rw [c2]); first | done | omega) (by (try rw [c20]); first | done | omega)) ?_
              rintro cn' K' N' I169 R170 L171 ⟨rfl, rfl, rfl, rfl, g172, gl173, p175, p176, p177, p178, p179, -⟩
              have hS180 := hS0.tr g172 (by decide +kernel) (by decide +kernel)
              have c181 : I169 a23 0 = v25 := (g172.cell ta23 (by decide +kernel)).trans c26
              have c182 : I169 a23 1 = v29 := (g172.cell ta23 (by decide +kernel)).trans c30
              have c183 : I169 a23 3 = v33 := (g172.cell ta23 (by decide +kernel)).trans c34
              have c184 : I169 a23 5 = v37 := (g172.cell ta23 (by decide +kernel)).trans c38
              have c185 : I169 a23 9 = v41 := (g172.cell ta23 (by decide +kernel)).trans c42
              have c186 : I169 a23 11 = v45 := (g172.cell ta23 (by decide +kernel)).trans c46
              have c187 : I169 a23 13 = v49 := (g172.cell ta23 (by decide +kernel)).trans c50
              have c188 : I169 a0 11 = v53 := (g172.cell ta0 (by decide +kernel)).trans c54
              have c189 : I169 a0 12 = v57 := (g172.cell ta0 (by decide +kernel)).trans c58
              have c190 : I169 a0 15 = v61 := (g172.cell ta0 (by decide +kernel)).trans c62
              have hL191 := hL0.tr gl173 (by decide +kernel)
              have hN192 : NmC L171 R0 a0 gQ := NmC.kp hN gl173 hS180.1 ta0 (by decide +kernel) (by decide +kernel)
              obtain ⟨v193, c194⟩ : ∃ v, I169 a0 2 = v := ⟨_, rfl⟩
              have b195 := iv7_2 hS180.1 ta0 c194
              rw [c194] at p175
              obtain ⟨v196, c197⟩ : ∃ v, I169 a0 4 = v := ⟨_, rfl⟩
              have b198 := iv7_4 hS180.1 ta0 c197
              rw [c197] at p176
              obtain ⟨v199, c200⟩ : ∃ v, I169 a0 3 = v := ⟨_, rfl⟩
              have b201 := iv7_3 hS180.1 ta0 c200
              rw [c200] at p177
              obtain ⟨y202, c203⟩ : ∃ v, L171 a0 5 = v := ⟨_, rfl⟩
              rw [c203] at p178
              obtain ⟨v204, c205⟩ : ∃ v, I169 a0 6 = v := ⟨_, rfl⟩
              rw [c205] at p179
              refine tr_iload_n dX7_readLine_68 rfl ?_
              by_cases h206 : v68.toInt = 10
              · skip
                refine tr_tabIn (off := 39) 108 dX7_readLine_69 (by omega) (by omega) (by rw [h206]; decide +kernel) (by decide) ?_
                obtain ⟨w207, w208, w209, w210, w211, w212, w213, w214, w215, w216, w217, w218⟩ := lnl_10 (B := gB) (Q := gQ) (s := gs) (by omega)
                refine tr_aload_n dX7_readLine_108 rfl ?_
                refine q_callVi hE (M' := mX7_readAlp) (as := []) dX7_readLine_109 lk7_177 inX7_readAlp seX7_readAlp myX7_readAlp (by decide) ⟨by decide, by decide⟩ rfl (kR7 hS180.1 ta0) (Nat.le_of_ble_eq_true rfl) rfl rfl (by decide) (by decide) (fk_X7_readAlp hS180.1 (gB) ((tkN gB gs)) (gQ) ta0 (TxA.kp hT hS180 ta0 rfl rfl rfl (by decide +kernel) (by decide +kernel)) (by (try rw [c194]); first | done | omega) (by (try rw [c197]); first | done | omega) (by (try rw [c200]); first | done | omega) (by (try rw [c203]); first | done | assumption) (by (try rw [c205]); first | done | assumption) (by (try rw [((hS180.cell ta0 (by decide +kernel)).trans c20)]); first | done | omega)) ?_
                rintro v224 cn' K' N' I219 R220 L221 ⟨rfl, rfl, rfl, rfl, g222, gl223, h225, dj226, -⟩
                have hS227 := hS180.tr g222 (by decide +kernel) (by decide +kernel)
                have c228 : I219 a23 3 = v33 := (g222.cell ta23 (by decide +kernel)).trans c183
                have c229 : I219 a23 5 = v37 := (g222.cell ta23 (by decide +kernel)).trans c184
                have c230 : I219 a23 9 = v41 := (g222.cell ta23 (by decide +kernel)).trans c185
                have c231 : I219 a23 11 = v45 := (g222.cell ta23 (by decide +kernel)).trans c186
                have c232 : I219 a23 13 = v49 := (g222.cell ta23 (by decide +kernel)).trans c187
                have c233 : I219 a0 12 = v57 := (g222.cell ta0 (by decide +kernel)).trans c189
                have hL234 := hL191.tr gl223 (by decide +kernel)
                have hN235 : NmC L221 R0 a0 gQ := NmC.kp hN192 gl223 hS227.1 ta0 (by decide +kernel) (by decide +kernel)
                rcases dj226 with ⟨p236, p237, p238, p239, p240, p241, p242, p243, p244, p245, p246, -⟩ | ⟨p247, p248, p249, p250, -⟩
                · skip
                  obtain ⟨v251, c252⟩ : ∃ v, I219 a0 15 = v := ⟨_, rfl⟩
                  rw [c252] at p237
                  rw [c190] at p237
                  obtain ⟨v253, c254⟩ : ∃ v, I219 a23 0 = v := ⟨_, rfl⟩
                  have b255 := iv2_0 hS227.1 ta23 c254
                  have p256 := p239 _ d24
                  clear p239
                  rw [c254] at p256
                  obtain ⟨v257, c258⟩ : ∃ v, I219 a23 1 = v := ⟨_, rfl⟩
                  have b259 := iv2_1 hS227.1 ta23 c258
                  have p260 := p240 _ d24
                  clear p240
                  rw [c258] at p260
                  obtain ⟨v261, c262⟩ : ∃ v, I219 a0 11 = v := ⟨_, rfl⟩
                  have b263 := iv7_11 hS227.1 ta0 c262
                  rw [c262] at p241
                  obtain ⟨v264, c265⟩ : ∃ v, I219 a0 2 = v := ⟨_, rfl⟩
                  have b266 := iv7_2 hS227.1 ta0 c265
                  rw [c265] at p242
                  obtain ⟨v267, c268⟩ : ∃ v, I219 a0 4 = v := ⟨_, rfl⟩
                  have b269 := iv7_4 hS227.1 ta0 c268
                  rw [c268] at p243
                  obtain ⟨v270, c271⟩ : ∃ v, I219 a0 3 = v := ⟨_, rfl⟩
                  have b272 := iv7_3 hS227.1 ta0 c271
                  rw [c271] at p244
                  obtain ⟨y273, c274⟩ : ∃ v, L221 a0 5 = v := ⟨_, rfl⟩
                  rw [c274] at p245
                  obtain ⟨v275, c276⟩ : ∃ v, I219 a0 6 = v := ⟨_, rfl⟩
                  rw [c276] at p246
                  have eF := hF.eq
                  have eP := hP.eq
                  obtain ⟨v277, c278⟩ : ∃ v, I219 a0 16 = v := ⟨_, rfl⟩
                  exact tr_zret hZ dX7_readLine_112 rfl (ti_b01 (by omega) (by omega)) (by decide) (by decide) ⟨v224, rfl, rfl, rfl, rfl, rfl, hS227, hL234, (by omega), (Or.inl ⟨(by (try rw [w209]); first | done | omega), (by (try rw [w209]); (try rw [c252]); (try rw [c62]); first | done | omega), (by (try rw [w209]); first | done | omega), (fun q0 z0 => by obtain rfl := Option.some.inj ((d24).symm.trans z0); (try rw [w209]); (try rw [c254]); first | done | omega), (fun q0 z0 => by obtain rfl := Option.some.inj ((d24).symm.trans z0); (try rw [w209]); (try rw [c258]); first | done | omega), (fun q0 z0 => by obtain rfl := Option.some.inj ((d24).symm.trans z0); (try rw [w209]); (try rw [c228]); first | done | omega), (fun q0 z0 => by obtain rfl := Option.some.inj ((d24).symm.trans z0); (try rw [w209]); (try rw [c229]); first | done | omega), (fun q0 z0 => by obtain rfl := Option.some.inj ((d24).symm.trans z0); (try rw [w209]); (try rw [c230]); first | done | omega), (fun q0 z0 => by obtain rfl := Option.some.inj ((d24).symm.trans z0); (try rw [w209]); (try rw [c231]); first | done | omega), (fun q0 z0 => by obtain rfl := Option.some.inj ((d24).symm.trans z0); (try rw [w209]); (try rw [c232]); first | done | omega), (by (try rw [w209]); (try rw [c262]); first | done | omega), (by (try rw [w209]); (try rw [c233]); first | done | omega), (by (try rw [w209]); (try rw [c265]); first | done | omega), (by (try rw [w209]); (try rw [c268]); first | done | omega), (by (try rw [w209]); (try rw [c271]); first | done | omega), (by (try rw [w209]); (try rw [c274]); first | done | assumption), (by (try rw [w209]); (try rw [c276]); first | done | assumption), (NmC.ln (NmC.bd (k := srt gB gs) hN235 (by omega) (by omega)) rfl), trivial⟩), trivial⟩
                · skip
                  obtain ⟨v279, c280⟩ : ∃ v, I219 a0 15 = v := ⟨_, rfl⟩
                  rw [c280] at p249
                  obtain ⟨v281, c282⟩ : ∃ v, I219 a0 16 = v := ⟨_, rfl⟩
                  rw [c282] at p250
                  have eF := hF.eq
                  have eP := hP.eq
                  obtain ⟨v283, c284⟩ : ∃ v, I219 a23 0 = v := ⟨_, rfl⟩
                  have b285 := iv2_0 hS227.1 ta23 c284
                  obtain ⟨v286, c287⟩ : ∃ v, I219 a23 1 = v := ⟨_, rfl⟩
                  have b288 := iv2_1 hS227.1 ta23 c287
                  obtain ⟨v289, c290⟩ : ∃ v, I219 a0 11 = v := ⟨_, rfl⟩
                  have b291 := iv7_11 hS227.1 ta0 c290
                  obtain ⟨v292, c293⟩ : ∃ v, I219 a0 2 = v := ⟨_, rfl⟩
                  have b294 := iv7_2 hS227.1 ta0 c293
                  obtain ⟨v295, c296⟩ : ∃ v, I219 a0 4 = v := ⟨_, rfl⟩
                  have b297 := iv7_4 hS227.1 ta0 c296
                  obtain ⟨v298, c299⟩ : ∃ v, I219 a0 3 = v := ⟨_, rfl⟩
                  have b300 := iv7_3 hS227.1 ta0 c299
                  obtain ⟨y301, c302⟩ : ∃ v, L221 a0 5 = v := ⟨_, rfl⟩
                  obtain ⟨v303, c304⟩ : ∃ v, I219 a0 6 = v := ⟨_, rfl⟩
                  exact tr_zret hZ dX7_readLine_112 rfl (ti_b01 (by omega) (by omega)) (by decide) (by decide) ⟨v224, rfl, rfl, rfl, rfl, rfl, hS227, hL234, (by omega), (Or.inr (⟨(by (try rw [w209]); first | done | omega), (by (try rw [w209]); first | done | omega), (by (try rw [w209]); (try rw [c280]); first | done | omega), (by (try rw [w209]); (try rw [c282]); first | done | omega), trivial⟩)), trivial⟩
              · skip
                refine tr_tabOut 180 dX7_readLine_69 (by omega) (by decide) ?_
                obtain ⟨w305, w306, w307, w308, w309, w310, w311, w312, w313, w314, w315, w316⟩ := lnl_e (B := gB) (Q := gQ) (s := gs) (by omega) (by omega)
                have p317 := p133 (by omega)
                refine tr_aload_n dX7_readLine_180 rfl ?_
                refine tr_iload_n dX7_readLine_181 rfl ?_
                refine q_callVi hE (M' := mX7_readEvent) (as := [_]) dX7_readLine_182 lk7_200 inX7_readEvent seX7_readEvent myX7_readEvent (by decide) ⟨by decide, by decide⟩ rfl (kR7 hS180.1 ta0) (Nat.le_of_ble_eq_true rfl) rfl rfl (by decide) (by decide) (fk_X7_readEvent hS180.1 (gB) ((tkN gB gs)) (gQ) ((srt gB gs)) ta0 (by omega) (TxA.kp hT hS180 ta0 rfl rfl rfl (by decide +kernel) (by decide +kernel)) (by (try rw [c194]); first | done | omega) (by (try rw [c197]); first | done | omega) (by (try rw [c200]); first | done | omega) (by (try rw [c203]); first | done | assumption) (by (try rw [c205]); first | done | assumption) (by (try rw [((hS180.cell ta0 (by decide +kernel)).trans c20)]); first | done | omega) (fun q0 z0 => by obtain rfl := Option.some.inj ((d24).symm.trans z0); (try rw [c181]); first | done | omega) (fun q0 z0 => by obtain rfl := Option.some.inj ((d24).symm.trans z0); (try rw [c182]); first | done | omega) (fun q0 z0 => by obtain rfl := Option.some.inj ((d24).symm.trans z0); (try rw [c183]); first | done | omega) (by first | done | omega) (by first | done | omega)) ?_
                rintro v323 cn' K' N' I318 R319 L320 ⟨rfl, rfl, rfl, rfl, g321, gl322, h324, dj325, -⟩
                have hS326 := hS180.tr g321 (by decide +kernel) (by decide +kernel)
                have c327 : I318 a23 0 = v25 := (g321.cell ta23 (by decide +kernel)).trans c181
                have c328 : I318 a23 1 = v29 := (g321.cell ta23 (by decide +kernel)).trans c182
                have c329 : I318 a23 5 = v37 := (g321.cell ta23 (by decide +kernel)).trans c184
                have c330 : I318 a23 9 = v41 := (g321.cell ta23 (by decide +kernel)).trans c185
                have c331 : I318 a23 11 = v45 := (g321.cell ta23 (by decide +kernel)).trans c186
                have c332 : I318 a23 13 = v49 := (g321.cell ta23 (by decide +kernel)).trans c187
                have c333 : I318 a0 11 = v53 := (g321.cell ta0 (by decide +kernel)).trans c188
                have c334 : I318 a0 12 = v57 := (g321.cell ta0 (by decide +kernel)).trans c189
                have hL335 := hL191.tr gl322 (by decide +kernel)
                have hN336 : NmC L320 R0 a0 gQ := NmC.kp hN192 gl322 hS326.1 ta0 (by decide +kernel) (by decide +kernel)
                rcases dj325 with ⟨p337, p338, p339, p340, p341, p342, p343, p344, p345, -⟩ | ⟨p346, p347, p348, p349, -⟩
                · skip
                  obtain ⟨v350, c351⟩ : ∃ v, I318 a0 15 = v := ⟨_, rfl⟩
                  rw [c351] at p338
                  rw [c190] at p338
                  obtain ⟨v352, c353⟩ : ∃ v, I318 a23 3 = v := ⟨_, rfl⟩
                  have b354 := iv2_3 hS326.1 ta23 c353
                  have p355 := p340 _ d24
                  clear p340
                  rw [c353] at p355
                  obtain ⟨v356, c357⟩ : ∃ v, I318 a0 2 = v := ⟨_, rfl⟩
                  have b358 := iv7_2 hS326.1 ta0 c357
                  rw [c357] at p341
                  obtain ⟨v359, c360⟩ : ∃ v, I318 a0 4 = v := ⟨_, rfl⟩
                  have b361 := iv7_4 hS326.1 ta0 c360
                  rw [c360] at p342
                  obtain ⟨v362, c363⟩ : ∃ v, I318 a0 3 = v := ⟨_, rfl⟩
                  have b364 := iv7_3 hS326.1 ta0 c363
                  rw [c363] at p343
                  obtain ⟨y365, c366⟩ : ∃ v, L320 a0 5 = v := ⟨_, rfl⟩
                  rw [c366] at p344
                  obtain ⟨v367, c368⟩ : ∃ v, I318 a0 6 = v := ⟨_, rfl⟩
                  rw [c368] at p345
                  exfalso; omega
                · skip
                  obtain ⟨v369, c370⟩ : ∃ v, I318 a0 15 = v := ⟨_, rfl⟩
                  rw [c370] at p348
                  obtain ⟨v371, c372⟩ : ∃ v, I318 a0 16 = v := ⟨_, rfl⟩
                  rw [c372] at p349
                  exfalso; omega
            · skip
              refine tr_aload_n dX7_readLine_50 rfl ?_
              refine q_getZ dX7_readLine_51 fl7_31 (kR7 hS0.1 ta0) c54 ?_
              refine q_if_ne 64 dX7_readLine_54 (by decide) (fun h373 => ?_) (fun h373 => ?_)
              · skip
                replace hF := hF.neg (by omega)
                replace hP := hP.neg (by omega)
                refine tr_aload_n dX7_readLine_64 rfl ?_
                refine q_callVv hE (M' := mX7_step) (as := []) dX7_readLine_65 lk7_51 inX7_step seX7_step myX7_step (by decide) ⟨by decide, by decide⟩ rfl (kR7 hS0.1 ta0) (Nat.le_of_ble_eq_true rfl) rfl rfl (by decide) (by decide) (fk_X7_step hS0.1 (gB) ((tkN gB gs)) ta0 (TxA.kp hT hS0 ta0 rfl rfl rfl (by decide +kernel) (by decide +kernel)) (by (try rw [c2]); first | done | omega) (by (try rw [c20]); first | done | omega)) ?_
                rintro cn' K' N' I374 R375 L376 ⟨rfl, rfl, rfl, rfl, g377, gl378, p380, p381, p382, p383, p384, -⟩
                have hS385 := hS0.tr g377 (by decide +kernel) (by decide +kernel)
                have c386 : I374 a23 0 = v25 := (g377.cell ta23 (by decide +kernel)).trans c26
                have c387 : I374 a23 1 = v29 := (g377.cell ta23 (by decide +kernel)).trans c30
                have c388 : I374 a23 3 = v33 := (g377.cell ta23 (by decide +kernel)).trans c34
                have c389 : I374 a23 5 = v37 := (g377.cell ta23 (by decide +kernel)).trans c38
                have c390 : I374 a23 9 = v41 := (g377.cell ta23 (by decide +kernel)).trans c42
                have c391 : I374 a23 11 = v45 := (g377.cell ta23 (by decide +kernel)).trans c46
                have c392 : I374 a23 13 = v49 := (g377.cell ta23 (by decide +kernel)).trans c50
                have c393 : I374 a0 11 = v53 := (g377.cell ta0 (by decide +kernel)).trans c54
                have c394 : I374 a0 12 = v57 := (g377.cell ta0 (by decide +kernel)).trans c58
                have c395 : I374 a0 15 = v61 := (g377.cell ta0 (by decide +kernel)).trans c62
                have hL396 := hL0.tr gl378 (by decide +kernel)
                have hN397 : NmC L376 R0 a0 gQ := NmC.kp hN gl378 hS385.1 ta0 (by decide +kernel) (by decide +kernel)
                obtain ⟨v398, c399⟩ : ∃ v, I374 a0 2 = v := ⟨_, rfl⟩
                have b400 := iv7_2 hS385.1 ta0 c399
                rw [c399] at p380
                obtain ⟨v401, c402⟩ : ∃ v, I374 a0 4 = v := ⟨_, rfl⟩
                have b403 := iv7_4 hS385.1 ta0 c402
                rw [c402] at p381
                obtain ⟨v404, c405⟩ : ∃ v, I374 a0 3 = v := ⟨_, rfl⟩
                have b406 := iv7_3 hS385.1 ta0 c405
                rw [c405] at p382
                obtain ⟨y407, c408⟩ : ∃ v, L376 a0 5 = v := ⟨_, rfl⟩
                rw [c408] at p383
                obtain ⟨v409, c410⟩ : ∃ v, I374 a0 6 = v := ⟨_, rfl⟩
                rw [c410] at p384
                refine tr_iload_n dX7_readLine_68 rfl ?_
                by_cases h411 : v68.toInt = 5
                · skip
                  refine tr_tabIn (off := 44) 113 dX7_readLine_69 (by omega) (by omega) (by rw [h411]; decide +kernel) (by decide) ?_
                  obtain ⟨w412, w413, w414, w415, w416, w417, w418, w419, w420, w421, w422, w423⟩ := lnl_5 (B := gB) (Q := gQ) (s := gs) (by omega)
                  have p424 := p129 (by omega)
                  refine tr_aload_n dX7_readLine_113 rfl ?_
                  refine q_callVi hE (M' := mX7_readCheese) (as := []) dX7_readLine_114 lk7_180 inX7_readCheese seX7_readCheese myX7_readCheese (by decide) ⟨by decide, by decide⟩ rfl (kR7 hS385.1 ta0) (Nat.le_of_ble_eq_true rfl) rfl rfl (by decide) (by decide) (fk_X7_readCheese hS385.1 (gB) ((tkN gB gs)) (gQ) ta0 (TxA.kp hT hS385 ta0 rfl rfl rfl (by decide +kernel) (by decide +kernel)) hN397 (by (try rw [c399]); first | done | omega) (by (try rw [c402]); first | done | omega) (by (try rw [c405]); first | done | omega) (by (try rw [c408]); first | done | assumption) (by (try rw [c410]); first | done | assumption) (by (try rw [((hS385.cell ta0 (by decide +kernel)).trans c20)]); first | done | omega) (fun q0 z0 => by obtain rfl := Option.some.inj ((d24).symm.trans z0); (try rw [c387]); first | done | omega) (fun q0 z0 => by obtain rfl := Option.some.inj ((d24).symm.trans z0); (try rw [c389]); first | done | omega) (fun q0 z0 => by obtain rfl := Option.some.inj ((d24).symm.trans z0); (try rw [c390]); first | done | omega) (by first | done | omega) (by first | done | omega)) ?_
                  rintro v430 cn' K' N' I425 R426 L427 ⟨rfl, rfl, rfl, rfl, g428, gl429, h431, dj432, -⟩
                  have hS433 := hS385.tr g428 (by decide +kernel) (by decide +kernel)
                  have c434 : I425 a23 0 = v25 := (g428.cell ta23 (by decide +kernel)).trans c386
                  have c435 : I425 a23 1 = v29 := (g428.cell ta23 (by decide +kernel)).trans c387
                  have c436 : I425 a23 3 = v33 := (g428.cell ta23 (by decide +kernel)).trans c388
                  have c437 : I425 a23 9 = v41 := (g428.cell ta23 (by decide +kernel)).trans c390
                  have c438 : I425 a23 11 = v45 := (g428.cell ta23 (by decide +kernel)).trans c391
                  have c439 : I425 a23 13 = v49 := (g428.cell ta23 (by decide +kernel)).trans c392
                  have c440 : I425 a0 11 = v53 := (g428.cell ta0 (by decide +kernel)).trans c393
                  have c441 : I425 a0 12 = v57 := (g428.cell ta0 (by decide +kernel)).trans c394
                  have hL442 := hL396.tr gl429 (by decide +kernel)
                  rcases dj432 with ⟨p443, p444, p445, p446, p447, p448, p449, p450, p451, rp452, -⟩ | ⟨p453, p454, p455, p456, -⟩
                  · skip
                    obtain ⟨v457, c458⟩ : ∃ v, I425 a0 15 = v := ⟨_, rfl⟩
                    rw [c458] at p444
                    rw [c395] at p444
                    obtain ⟨v459, c460⟩ : ∃ v, I425 a23 5 = v := ⟨_, rfl⟩
                    have b461 := iv2_5 hS433.1 ta23 c460
                    have p462 := p446 _ d24
                    clear p446
                    rw [c460] at p462
                    obtain ⟨v463, c464⟩ : ∃ v, I425 a0 2 = v := ⟨_, rfl⟩
                    have b465 := iv7_2 hS433.1 ta0 c464
                    rw [c464] at p447
                    obtain ⟨v466, c467⟩ : ∃ v, I425 a0 4 = v := ⟨_, rfl⟩
                    have b468 := iv7_4 hS433.1 ta0 c467
                    rw [c467] at p448
                    obtain ⟨v469, c470⟩ : ∃ v, I425 a0 3 = v := ⟨_, rfl⟩
                    have b471 := iv7_3 hS433.1 ta0 c470
                    rw [c470] at p449
                    obtain ⟨y472, c473⟩ : ∃ v, L427 a0 5 = v := ⟨_, rfl⟩
                    rw [c473] at p450
                    obtain ⟨v474, c475⟩ : ∃ v, I425 a0 6 = v := ⟨_, rfl⟩
                    rw [c475] at p451
                    have eF := hF.eq
                    have eP := hP.eq
                    obtain ⟨v476, c477⟩ : ∃ v, I425 a0 16 = v := ⟨_, rfl⟩
                    exact tr_zret hZ dX7_readLine_117 rfl (ti_b01 (by omega) (by omega)) (by decide) (by decide) ⟨v430, rfl, rfl, rfl, rfl, rfl, hS433, hL442, (by omega), (Or.inl ⟨(by (try rw [w414]); first | done | omega), (by (try rw [w414]); (try rw [c458]); (try rw [c62]); first | done | omega), (by (try rw [w414]); first | done | omega), (fun q0 z0 => by obtain rfl := Option.some.inj ((d24).symm.trans z0); (try rw [w414]); (try rw [c434]); first | done | omega), (fun q0 z0 => by obtain rfl := Option.some.inj ((d24).symm.trans z0); (try rw [w414]); (try rw [c435]); first | done | omega), (fun q0 z0 => by obtain rfl := Option.some.inj ((d24).symm.trans z0); (try rw [w414]); (try rw [c436]); first | done | omega), (fun q0 z0 => by obtain rfl := Option.some.inj ((d24).symm.trans z0); (try rw [w414]); (try rw [c460]); first | done | omega), (fun q0 z0 => by obtain rfl := Option.some.inj ((d24).symm.trans z0); (try rw [w414]); (try rw [c437]); first | done | omega), (fun q0 z0 => by obtain rfl := Option.some.inj ((d24).symm.trans z0); (try rw [w414]); (try rw [c438]); first | done | omega), (fun q0 z0 => by obtain rfl := Option.some.inj ((d24).symm.trans z0); (try rw [w414]); (try rw [c439]); first | done | omega), (by (try rw [w414]); (try rw [c440]); first | done | omega), (by (try rw [w414]); (try rw [c441]); first | done | omega), (by (try rw [w414]); (try rw [c464]); first | done | omega), (by (try rw [w414]); (try rw [c467]); first | done | omega), (by (try rw [w414]); (try rw [c470]); first | done | omega), (by (try rw [w414]); (try rw [c473]); first | done | assumption), (by (try rw [w414]); (try rw [c475]); first | done | assumption), (NmC.ln rp452 (by omega)), trivial⟩), trivial⟩
                  · skip
                    obtain ⟨v478, c479⟩ : ∃ v, I425 a0 15 = v := ⟨_, rfl⟩
                    rw [c479] at p455
                    obtain ⟨v480, c481⟩ : ∃ v, I425 a0 16 = v := ⟨_, rfl⟩
                    rw [c481] at p456
                    have eF := hF.eq
                    have eP := hP.eq
                    obtain ⟨v482, c483⟩ : ∃ v, I425 a23 5 = v := ⟨_, rfl⟩
                    have b484 := iv2_5 hS433.1 ta23 c483
                    obtain ⟨v485, c486⟩ : ∃ v, I425 a0 2 = v := ⟨_, rfl⟩
                    have b487 := iv7_2 hS433.1 ta0 c486
                    obtain ⟨v488, c489⟩ : ∃ v, I425 a0 4 = v := ⟨_, rfl⟩
                    have b490 := iv7_4 hS433.1 ta0 c489
                    obtain ⟨v491, c492⟩ : ∃ v, I425 a0 3 = v := ⟨_, rfl⟩
                    have b493 := iv7_3 hS433.1 ta0 c492
                    obtain ⟨y494, c495⟩ : ∃ v, L427 a0 5 = v := ⟨_, rfl⟩
                    obtain ⟨v496, c497⟩ : ∃ v, I425 a0 6 = v := ⟨_, rfl⟩
                    exact tr_zret hZ dX7_readLine_117 rfl (ti_b01 (by omega) (by omega)) (by decide) (by decide) ⟨v430, rfl, rfl, rfl, rfl, rfl, hS433, hL442, (by omega), (Or.inr (⟨(by (try rw [w414]); first | done | omega), (by (try rw [w414]); first | done | omega), (by (try rw [w414]); (try rw [c479]); first | done | omega), (by (try rw [w414]); (try rw [c481]); first | done | omega), trivial⟩)), trivial⟩
                · skip
                  by_cases h498 : v68.toInt = 6
                  · skip
                    refine tr_tabIn (off := 49) 118 dX7_readLine_69 (by omega) (by omega) (by rw [h498]; decide +kernel) (by decide) ?_
                    obtain ⟨w499, w500, w501, w502, w503, w504, w505, w506, w507, w508, w509, w510⟩ := lnl_6 (B := gB) (Q := gQ) (s := gs) (by omega)
                    refine tr_aload_n dX7_readLine_118 rfl ?_
                    refine q_iconst dX7_readLine_119 (by decide) ?_
                    intro v511 h512
                    refine q_putZ dX7_readLine_120 fl7_35 (kR7 hS385.1 ta0) (Or.inl rfl) hS385 ta0 (by omega) (by show (0 : Int) ≤ v511.toInt ∧ v511.toInt ≤ (1 : Int); omega) rfl (by decide +kernel) ?_
                    intro I513 hS514 e515 f516
                    have c517 : I513 a23 0 = v25 := (f516 _ _ (fun q => absurd q.2 (by decide))).trans c386
                    have c518 : I513 a23 1 = v29 := (f516 _ _ (fun q => absurd q.2 (by decide))).trans c387
                    have c519 : I513 a23 3 = v33 := (f516 _ _ (fun q => absurd q.2 (by decide))).trans c388
                    have c520 : I513 a23 5 = v37 := (f516 _ _ (fun q => absurd q.2 (by decide))).trans c389
                    have c521 : I513 a23 9 = v41 := (f516 _ _ (fun q => absurd q.2 (by decide))).trans c390
                    have c522 : I513 a23 11 = v45 := (f516 _ _ (fun q => absurd q.2 (by decide))).trans c391
                    have c523 : I513 a23 13 = v49 := (f516 _ _ (fun q => absurd q.2 (by decide))).trans c392
                    have c524 : I513 a0 11 = v53 := (f516 _ _ (fun q => absurd q.2 (by decide))).trans c393
                    have c525 : I513 a0 15 = v61 := (f516 _ _ (fun q => absurd q.2 (by decide))).trans c395
                    have c526 : I513 a0 2 = v398 := (f516 _ _ (fun q => absurd q.2 (by decide))).trans c399
                    have c527 : I513 a0 4 = v401 := (f516 _ _ (fun q => absurd q.2 (by decide))).trans c402
                    have c528 : I513 a0 3 = v404 := (f516 _ _ (fun q => absurd q.2 (by decide))).trans c405
                    have c529 : I513 a0 6 = v409 := (f516 _ _ (fun q => absurd q.2 (by decide))).trans c410
                    refine tr_aload_n dX7_readLine_123 rfl ?_
                    refine tr_aload_n dX7_readLine_124 rfl ?_
                    refine tr_getR dX7_readLine_125 fl7_22 (kR7 hS514.1 ta0) d24 ?_
                    obtain ⟨a530, d531, ta530⟩ := rf2_8 hW0 ta23
                    refine tr_getR dX7_readLine_128 fl7_183 (kR2 hS514.1 ta23) d531 ?_
                    refine q_callVi hE (M' := mX7_readMinutes) (as := [_]) dX7_readLine_131 lk7_186 inX7_readMinutes seX7_readMinutes myX7_readMinutes (by decide) ⟨by decide, by decide⟩ rfl (kR7 hS514.1 ta0) (Nat.le_of_ble_eq_true rfl) rfl rfl (by decide) (by decide) (fk_X7_readMinutes hS514.1 (gB) ((tkN gB gs)) (gQ) ta0 ta530 (TxA.kp hT hS514 ta0 rfl rfl rfl (by decide +kernel) (by decide +kernel)) (by (try rw [c526]); first | done | omega) (by (try rw [c527]); first | done | omega) (by (try rw [c528]); first | done | omega) (by (try rw [c408]); first | done | assumption) (by (try rw [c529]); first | done | assumption) (by (try rw [((hS514.cell ta0 (by decide +kernel)).trans c20)]); first | done | omega) (fun q0 z0 => by obtain rfl := Option.some.inj ((d24).symm.trans z0); (try rw [c517]); first | done | omega)) ?_
                    rintro v537 cn' K' N' I532 R533 L534 ⟨rfl, rfl, rfl, rfl, g535, gl536, h538, dj539, -⟩
                    have hS540 := hS514.tr g535 (by decide +kernel) (by decide +kernel)
                    have c541 : I532 a23 0 = v25 := (g535.cell ta23 (by decide +kernel)).trans c517
                    have c542 : I532 a23 1 = v29 := (g535.cell ta23 (by decide +kernel)).trans c518
                    have c543 : I532 a23 3 = v33 := (g535.cell ta23 (by decide +kernel)).trans c519
                    have c544 : I532 a23 5 = v37 := (g535.cell ta23 (by decide +kernel)).trans c520
                    have c545 : I532 a23 9 = v41 := (g535.cell ta23 (by decide +kernel)).trans c521
                    have c546 : I532 a23 11 = v45 := (g535.cell ta23 (by decide +kernel)).trans c522
                    have c547 : I532 a23 13 = v49 := (g535.cell ta23 (by decide +kernel)).trans c523
                    have c548 : I532 a0 11 = v53 := (g535.cell ta0 (by decide +kernel)).trans c524
                    have c549 : I532 a0 12 = v511 := (g535.cell ta0 (by decide +kernel)).trans e515
                    have hL550 := hL396.tr gl536 (by decide +kernel)
                    have hN551 : NmC L534 R0 a0 gQ := NmC.kp hN397 gl536 hS540.1 ta0 (by decide +kernel) (by decide +kernel)
                    rcases dj539 with ⟨p552, p553, p554, p555, p556, p557, p558, p559, -⟩ | ⟨p560, p561, p562, p563, -⟩
                    · skip
                      obtain ⟨v564, c565⟩ : ∃ v, I532 a0 15 = v := ⟨_, rfl⟩
                      rw [c565] at p553
                      rw [c525] at p553
                      obtain ⟨v566, c567⟩ : ∃ v, I532 a0 2 = v := ⟨_, rfl⟩
                      have b568 := iv7_2 hS540.1 ta0 c567
                      rw [c567] at p555
                      obtain ⟨v569, c570⟩ : ∃ v, I532 a0 4 = v := ⟨_, rfl⟩
                      have b571 := iv7_4 hS540.1 ta0 c570
                      rw [c570] at p556
                      obtain ⟨v572, c573⟩ : ∃ v, I532 a0 3 = v := ⟨_, rfl⟩
                      have b574 := iv7_3 hS540.1 ta0 c573
                      rw [c573] at p557
                      obtain ⟨y575, c576⟩ : ∃ v, L534 a0 5 = v := ⟨_, rfl⟩
                      rw [c576] at p558
                      obtain ⟨v577, c578⟩ : ∃ v, I532 a0 6 = v := ⟨_, rfl⟩
                      rw [c578] at p559
                      have eF := hF.eq
                      have eP := hP.eq
                      obtain ⟨v579, c580⟩ : ∃ v, I532 a0 16 = v := ⟨_, rfl⟩
                      exact tr_zret hZ dX7_readLine_134 rfl (ti_b01 (by omega) (by omega)) (by decide) (by decide) ⟨v537, rfl, rfl, rfl, rfl, rfl, hS540, hL550, (by omega), (Or.inl ⟨(by (try rw [w501]); first | done | omega), (by (try rw [w501]); (try rw [c565]); (try rw [c62]); first | done | omega), (by (try rw [w501]); first | done | omega), (fun q0 z0 => by obtain rfl := Option.some.inj ((d24).symm.trans z0); (try rw [w501]); (try rw [c541]); first | done | omega), (fun q0 z0 => by obtain rfl := Option.some.inj ((d24).symm.trans z0); (try rw [w501]); (try rw [c542]); first | done | omega), (fun q0 z0 => by obtain rfl := Option.some.inj ((d24).symm.trans z0); (try rw [w501]); (try rw [c543]); first | done | omega), (fun q0 z0 => by obtain rfl := Option.some.inj ((d24).symm.trans z0); (try rw [w501]); (try rw [c544]); first | done | omega), (fun q0 z0 => by obtain rfl := Option.some.inj ((d24).symm.trans z0); (try rw [w501]); (try rw [c545]); first | done | omega), (fun q0 z0 => by obtain rfl := Option.some.inj ((d24).symm.trans z0); (try rw [w501]); (try rw [c546]); first | done | omega), (fun q0 z0 => by obtain rfl := Option.some.inj ((d24).symm.trans z0); (try rw [w501]); (try rw [c547]); first | done | omega), (by (try rw [w501]); (try rw [c548]); first | done | omega), (by (try rw [w501]); (try rw [c549]); first | done | omega), (by (try rw [w501]); (try rw [c567]); first | done | omega), (by (try rw [w501]); (try rw [c570]); first | done | omega), (by (try rw [w501]); (try rw [c573]); first | done | omega), (by (try rw [w501]); (try rw [c576]); first | done | assumption), (by (try rw [w501]); (try rw [c578]); first | done | assumption), (NmC.ln (NmC.bd (k := srt gB gs) hN551 (by omega) (by omega)) rfl), trivial⟩), trivial⟩
                    · skip
                      obtain ⟨v581, c582⟩ : ∃ v, I532 a0 15 = v := ⟨_, rfl⟩
                      rw [c582] at p562
                      obtain ⟨v583, c584⟩ : ∃ v, I532 a0 16 = v := ⟨_, rfl⟩
                      rw [c584] at p563
                      have eF := hF.eq
                      have eP := hP.eq
                      obtain ⟨v585, c586⟩ : ∃ v, I532 a0 2 = v := ⟨_, rfl⟩
                      have b587 := iv7_2 hS540.1 ta0 c586
                      obtain ⟨v588, c589⟩ : ∃ v, I532 a0 4 = v := ⟨_, rfl⟩
                      have b590 := iv7_4 hS540.1 ta0 c589
                      obtain ⟨v591, c592⟩ : ∃ v, I532 a0 3 = v := ⟨_, rfl⟩
                      have b593 := iv7_3 hS540.1 ta0 c592
                      obtain ⟨y594, c595⟩ : ∃ v, L534 a0 5 = v := ⟨_, rfl⟩
                      obtain ⟨v596, c597⟩ : ∃ v, I532 a0 6 = v := ⟨_, rfl⟩
                      exact tr_zret hZ dX7_readLine_134 rfl (ti_b01 (by omega) (by omega)) (by decide) (by decide) ⟨v537, rfl, rfl, rfl, rfl, rfl, hS540, hL550, (by omega), (Or.inr (⟨(by (try rw [w501]); first | done | omega), (by (try rw [w501]); first | done | omega), (by (try rw [w501]); (try rw [c582]); first | done | omega), (by (try rw [w501]); (try rw [c584]); first | done | omega), trivial⟩)), trivial⟩
                  · skip
                    by_cases h598 : v68.toInt = 7
                    · skip
                      refine tr_tabIn (off := 66) 135 dX7_readLine_69 (by omega) (by omega) (by rw [h598]; decide +kernel) (by decide) ?_
                      obtain ⟨w599, w600, w601, w602, w603, w604, w605, w606, w607, w608, w609, w610⟩ := lnl_7 (B := gB) (Q := gQ) (s := gs) (by omega)
                      have p611 := p130 (by omega)
                      refine tr_aload_n dX7_readLine_135 rfl ?_
                      refine q_callVi hE (M' := mX7_readTurner) (as := []) dX7_readLine_136 lk7_190 inX7_readTurner seX7_readTurner myX7_readTurner (by decide) ⟨by decide, by decide⟩ rfl (kR7 hS385.1 ta0) (Nat.le_of_ble_eq_true rfl) rfl rfl (by decide) (by decide) (fk_X7_readTurner hS385.1 (gB) ((tkN gB gs)) (gQ) ta0 (TxA.kp hT hS385 ta0 rfl rfl rfl (by decide +kernel) (by decide +kernel)) hN397 (by (try rw [c399]); first | done | omega) (by (try rw [c402]); first | done | omega) (by (try rw [c405]); first | done | omega) (by (try rw [c408]); first | done | assumption) (by (try rw [c410]); first | done | assumption) (by (try rw [((hS385.cell ta0 (by decide +kernel)).trans c20)]); first | done | omega) (fun q0 z0 => by obtain rfl := Option.some.inj ((d24).symm.trans z0); (try rw [c386]); first | done | omega) (fun q0 z0 => by obtain rfl := Option.some.inj ((d24).symm.trans z0); (try rw [c387]); first | done | omega) (fun q0 z0 => by obtain rfl := Option.some.inj ((d24).symm.trans z0); (try rw [c389]); first | done | omega) (fun q0 z0 => by obtain rfl := Option.some.inj ((d24).symm.trans z0); (try rw [c390]); first | done | omega) (by first | done | omega) (by first | done | omega)) ?_
                      rintro v617 cn' K' N' I612 R613 L614 ⟨rfl, rfl, rfl, rfl, g615, gl616, h618, dj619, -⟩
                      have hS620 := hS385.tr g615 (by decide +kernel) (by decide +kernel)
                      have c621 : I612 a23 0 = v25 := (g615.cell ta23 (by decide +kernel)).trans c386
                      have c622 : I612 a23 1 = v29 := (g615.cell ta23 (by decide +kernel)).trans c387
                      have c623 : I612 a23 3 = v33 := (g615.cell ta23 (by decide +kernel)).trans c388
                      have c624 : I612 a23 5 = v37 := (g615.cell ta23 (by decide +kernel)).trans c389
                      have c625 : I612 a23 11 = v45 := (g615.cell ta23 (by decide +kernel)).trans c391
                      have c626 : I612 a23 13 = v49 := (g615.cell ta23 (by decide +kernel)).trans c392
                      have c627 : I612 a0 11 = v53 := (g615.cell ta0 (by decide +kernel)).trans c393
                      have c628 : I612 a0 12 = v57 := (g615.cell ta0 (by decide +kernel)).trans c394
                      have hL629 := hL396.tr gl616 (by decide +kernel)
                      rcases dj619 with ⟨p630, p631, p632, p633, p634, p635, p636, p637, p638, rp639, -⟩ | ⟨p640, p641, p642, p643, -⟩
                      · skip
                        obtain ⟨v644, c645⟩ : ∃ v, I612 a0 15 = v := ⟨_, rfl⟩
                        rw [c645] at p631
                        rw [c395] at p631
                        obtain ⟨v646, c647⟩ : ∃ v, I612 a23 9 = v := ⟨_, rfl⟩
                        have b648 := iv2_9 hS620.1 ta23 c647
                        have p649 := p633 _ d24
                        clear p633
                        rw [c647] at p649
                        obtain ⟨v650, c651⟩ : ∃ v, I612 a0 2 = v := ⟨_, rfl⟩
                        have b652 := iv7_2 hS620.1 ta0 c651
                        rw [c651] at p634
                        obtain ⟨v653, c654⟩ : ∃ v, I612 a0 4 = v := ⟨_, rfl⟩
                        have b655 := iv7_4 hS620.1 ta0 c654
                        rw [c654] at p635
                        obtain ⟨v656, c657⟩ : ∃ v, I612 a0 3 = v := ⟨_, rfl⟩
                        have b658 := iv7_3 hS620.1 ta0 c657
                        rw [c657] at p636
                        obtain ⟨y659, c660⟩ : ∃ v, L614 a0 5 = v := ⟨_, rfl⟩
                        rw [c660] at p637
                        obtain ⟨v661, c662⟩ : ∃ v, I612 a0 6 = v := ⟨_, rfl⟩
                        rw [c662] at p638
                        have eF := hF.eq
                        have eP := hP.eq
                        obtain ⟨v663, c664⟩ : ∃ v, I612 a0 16 = v := ⟨_, rfl⟩
                        exact tr_zret hZ dX7_readLine_139 rfl (ti_b01 (by omega) (by omega)) (by decide) (by decide) ⟨v617, rfl, rfl, rfl, rfl, rfl, hS620, hL629, (by omega), (Or.inl ⟨(by (try rw [w601]); first | done | omega), (by (try rw [w601]); (try rw [c645]); (try rw [c62]); first | done | omega), (by (try rw [w601]); first | done | omega), (fun q0 z0 => by obtain rfl := Option.some.inj ((d24).symm.trans z0); (try rw [w601]); (try rw [c621]); first | done | omega), (fun q0 z0 => by obtain rfl := Option.some.inj ((d24).symm.trans z0); (try rw [w601]); (try rw [c622]); first | done | omega), (fun q0 z0 => by obtain rfl := Option.some.inj ((d24).symm.trans z0); (try rw [w601]); (try rw [c623]); first | done | omega), (fun q0 z0 => by obtain rfl := Option.some.inj ((d24).symm.trans z0); (try rw [w601]); (try rw [c624]); first | done | omega), (fun q0 z0 => by obtain rfl := Option.some.inj ((d24).symm.trans z0); (try rw [w601]); (try rw [c647]); first | done | omega), (fun q0 z0 => by obtain rfl := Option.some.inj ((d24).symm.trans z0); (try rw [w601]); (try rw [c625]); first | done | omega), (fun q0 z0 => by obtain rfl := Option.some.inj ((d24).symm.trans z0); (try rw [w601]); (try rw [c626]); first | done | omega), (by (try rw [w601]); (try rw [c627]); first | done | omega), (by (try rw [w601]); (try rw [c628]); first | done | omega), (by (try rw [w601]); (try rw [c651]); first | done | omega), (by (try rw [w601]); (try rw [c654]); first | done | omega), (by (try rw [w601]); (try rw [c657]); first | done | omega), (by (try rw [w601]); (try rw [c660]); first | done | assumption), (by (try rw [w601]); (try rw [c662]); first | done | assumption), (NmC.ln rp639 (by omega)), trivial⟩), trivial⟩
                      · skip
                        obtain ⟨v665, c666⟩ : ∃ v, I612 a0 15 = v := ⟨_, rfl⟩
                        rw [c666] at p642
                        obtain ⟨v667, c668⟩ : ∃ v, I612 a0 16 = v := ⟨_, rfl⟩
                        rw [c668] at p643
                        have eF := hF.eq
                        have eP := hP.eq
                        obtain ⟨v669, c670⟩ : ∃ v, I612 a23 9 = v := ⟨_, rfl⟩
                        have b671 := iv2_9 hS620.1 ta23 c670
                        obtain ⟨v672, c673⟩ : ∃ v, I612 a0 2 = v := ⟨_, rfl⟩
                        have b674 := iv7_2 hS620.1 ta0 c673
                        obtain ⟨v675, c676⟩ : ∃ v, I612 a0 4 = v := ⟨_, rfl⟩
                        have b677 := iv7_4 hS620.1 ta0 c676
                        obtain ⟨v678, c679⟩ : ∃ v, I612 a0 3 = v := ⟨_, rfl⟩
                        have b680 := iv7_3 hS620.1 ta0 c679
                        obtain ⟨y681, c682⟩ : ∃ v, L614 a0 5 = v := ⟨_, rfl⟩
                        obtain ⟨v683, c684⟩ : ∃ v, I612 a0 6 = v := ⟨_, rfl⟩
                        exact tr_zret hZ dX7_readLine_139 rfl (ti_b01 (by omega) (by omega)) (by decide) (by decide) ⟨v617, rfl, rfl, rfl, rfl, rfl, hS620, hL629, (by omega), (Or.inr (⟨(by (try rw [w601]); first | done | omega), (by (try rw [w601]); first | done | omega), (by (try rw [w601]); (try rw [c666]); first | done | omega), (by (try rw [w601]); (try rw [c668]); first | done | omega), trivial⟩)), trivial⟩
                    · skip
                      by_cases h685 : v68.toInt = 8
                      · skip
                        refine tr_tabIn (off := 71) 140 dX7_readLine_69 (by omega) (by omega) (by rw [h685]; decide +kernel) (by decide) ?_
                        obtain ⟨w686, w687, w688, w689, w690, w691, w692, w693, w694, w695, w696, w697⟩ := lnl_8 (B := gB) (Q := gQ) (s := gs) (by omega)
                        have p698 := p131 (by omega)
                        refine tr_aload_n dX7_readLine_140 rfl ?_
                        refine q_callVi hE (M' := mX7_readCall) (as := []) dX7_readLine_141 lk7_193 inX7_readCall seX7_readCall myX7_readCall (by decide) ⟨by decide, by decide⟩ rfl (kR7 hS385.1 ta0) (Nat.le_of_ble_eq_true rfl) rfl rfl (by decide) (by decide) (fk_X7_readCall hS385.1 (gB) ((tkN gB gs)) (gQ) ta0 (TxA.kp hT hS385 ta0 rfl rfl rfl (by decide +kernel) (by decide +kernel)) hN397 (by (try rw [c399]); first | done | omega) (by (try rw [c402]); first | done | omega) (by (try rw [c405]); first | done | omega) (by (try rw [c408]); first | done | assumption) (by (try rw [c410]); first | done | assumption) (by (try rw [((hS385.cell ta0 (by decide +kernel)).trans c20)]); first | done | omega) (fun q0 z0 => by obtain rfl := Option.some.inj ((d24).symm.trans z0); (try rw [c386]); first | done | omega) (fun q0 z0 => by obtain rfl := Option.some.inj ((d24).symm.trans z0); (try rw [c390]); first | done | omega) (fun q0 z0 => by obtain rfl := Option.some.inj ((d24).symm.trans z0); (try rw [c391]); first | done | omega) (by first | done | omega)) ?_
                        rintro v704 cn' K' N' I699 R700 L701 ⟨rfl, rfl, rfl, rfl, g702, gl703, h705, dj706, -⟩
                        have hS707 := hS385.tr g702 (by decide +kernel) (by decide +kernel)
                        have c708 : I699 a23 0 = v25 := (g702.cell ta23 (by decide +kernel)).trans c386
                        have c709 : I699 a23 1 = v29 := (g702.cell ta23 (by decide +kernel)).trans c387
                        have c710 : I699 a23 3 = v33 := (g702.cell ta23 (by decide +kernel)).trans c388
                        have c711 : I699 a23 5 = v37 := (g702.cell ta23 (by decide +kernel)).trans c389
                        have c712 : I699 a23 9 = v41 := (g702.cell ta23 (by decide +kernel)).trans c390
                        have c713 : I699 a23 13 = v49 := (g702.cell ta23 (by decide +kernel)).trans c392
                        have c714 : I699 a0 11 = v53 := (g702.cell ta0 (by decide +kernel)).trans c393
                        have c715 : I699 a0 12 = v57 := (g702.cell ta0 (by decide +kernel)).trans c394
                        have hL716 := hL396.tr gl703 (by decide +kernel)
                        have hN717 : NmC L701 R0 a0 gQ := NmC.kp hN397 gl703 hS707.1 ta0 (by decide +kernel) (by decide +kernel)
                        rcases dj706 with ⟨p718, p719, p720, p721, p722, p723, p724, p725, p726, -⟩ | ⟨p727, p728, p729, p730, -⟩
                        · skip
                          obtain ⟨v731, c732⟩ : ∃ v, I699 a0 15 = v := ⟨_, rfl⟩
                          rw [c732] at p719
                          rw [c395] at p719
                          obtain ⟨v733, c734⟩ : ∃ v, I699 a23 11 = v := ⟨_, rfl⟩
                          have b735 := iv2_11 hS707.1 ta23 c734
                          have p736 := p721 _ d24
                          clear p721
                          rw [c734] at p736
                          obtain ⟨v737, c738⟩ : ∃ v, I699 a0 2 = v := ⟨_, rfl⟩
                          have b739 := iv7_2 hS707.1 ta0 c738
                          rw [c738] at p722
                          obtain ⟨v740, c741⟩ : ∃ v, I699 a0 4 = v := ⟨_, rfl⟩
                          have b742 := iv7_4 hS707.1 ta0 c741
                          rw [c741] at p723
                          obtain ⟨v743, c744⟩ : ∃ v, I699 a0 3 = v := ⟨_, rfl⟩
                          have b745 := iv7_3 hS707.1 ta0 c744
                          rw [c744] at p724
                          obtain ⟨y746, c747⟩ : ∃ v, L701 a0 5 = v := ⟨_, rfl⟩
                          rw [c747] at p725
                          obtain ⟨v748, c749⟩ : ∃ v, I699 a0 6 = v := ⟨_, rfl⟩
                          rw [c749] at p726
                          have eF := hF.eq
                          have eP := hP.eq
                          obtain ⟨v750, c751⟩ : ∃ v, I699 a0 16 = v := ⟨_, rfl⟩
                          exact tr_zret hZ dX7_readLine_144 rfl (ti_b01 (by omega) (by omega)) (by decide) (by decide) ⟨v704, rfl, rfl, rfl, rfl, rfl, hS707, hL716, (by omega), (Or.inl ⟨(by (try rw [w688]); first | done | omega), (by (try rw [w688]); (try rw [c732]); (try rw [c62]); first | done | omega), (by (try rw [w688]); first | done | omega), (fun q0 z0 => by obtain rfl := Option.some.inj ((d24).symm.trans z0); (try rw [w688]); (try rw [c708]); first | done | omega), (fun q0 z0 => by obtain rfl := Option.some.inj ((d24).symm.trans z0); (try rw [w688]); (try rw [c709]); first | done | omega), (fun q0 z0 => by obtain rfl := Option.some.inj ((d24).symm.trans z0); (try rw [w688]); (try rw [c710]); first | done | omega), (fun q0 z0 => by obtain rfl := Option.some.inj ((d24).symm.trans z0); (try rw [w688]); (try rw [c711]); first | done | omega), (fun q0 z0 => by obtain rfl := Option.some.inj ((d24).symm.trans z0); (try rw [w688]); (try rw [c712]); first | done | omega), (fun q0 z0 => by obtain rfl := Option.some.inj ((d24).symm.trans z0); (try rw [w688]); (try rw [c734]); first | done | omega), (fun q0 z0 => by obtain rfl := Option.some.inj ((d24).symm.trans z0); (try rw [w688]); (try rw [c713]); first | done | omega), (by (try rw [w688]); (try rw [c714]); first | done | omega), (by (try rw [w688]); (try rw [c715]); first | done | omega), (by (try rw [w688]); (try rw [c738]); first | done | omega), (by (try rw [w688]); (try rw [c741]); first | done | omega), (by (try rw [w688]); (try rw [c744]); first | done | omega), (by (try rw [w688]); (try rw [c747]); first | done | assumption), (by (try rw [w688]); (try rw [c749]); first | done | assumption), (NmC.ln (NmC.bd (k := srt gB gs) hN717 (by omega) (by omega)) rfl), trivial⟩), trivial⟩
                        · skip
                          obtain ⟨v752, c753⟩ : ∃ v, I699 a0 15 = v := ⟨_, rfl⟩
                          rw [c753] at p729
                          obtain ⟨v754, c755⟩ : ∃ v, I699 a0 16 = v := ⟨_, rfl⟩
                          rw [c755] at p730
                          have eF := hF.eq
                          have eP := hP.eq
                          obtain ⟨v756, c757⟩ : ∃ v, I699 a23 11 = v := ⟨_, rfl⟩
                          have b758 := iv2_11 hS707.1 ta23 c757
                          obtain ⟨v759, c760⟩ : ∃ v, I699 a0 2 = v := ⟨_, rfl⟩
                          have b761 := iv7_2 hS707.1 ta0 c760
                          obtain ⟨v762, c763⟩ : ∃ v, I699 a0 4 = v := ⟨_, rfl⟩
                          have b764 := iv7_4 hS707.1 ta0 c763
                          obtain ⟨v765, c766⟩ : ∃ v, I699 a0 3 = v := ⟨_, rfl⟩
                          have b767 := iv7_3 hS707.1 ta0 c766
                          obtain ⟨y768, c769⟩ : ∃ v, L701 a0 5 = v := ⟨_, rfl⟩
                          obtain ⟨v770, c771⟩ : ∃ v, I699 a0 6 = v := ⟨_, rfl⟩
                          exact tr_zret hZ dX7_readLine_144 rfl (ti_b01 (by omega) (by omega)) (by decide) (by decide) ⟨v704, rfl, rfl, rfl, rfl, rfl, hS707, hL716, (by omega), (Or.inr (⟨(by (try rw [w688]); first | done | omega), (by (try rw [w688]); first | done | omega), (by (try rw [w688]); (try rw [c753]); first | done | omega), (by (try rw [w688]); (try rw [c755]); first | done | omega), trivial⟩)), trivial⟩
                      · skip
                        by_cases h772 : v68.toInt = 9
                        · skip
                          refine tr_tabIn (off := 76) 145 dX7_readLine_69 (by omega) (by omega) (by rw [h772]; decide +kernel) (by decide) ?_
                          obtain ⟨w773, w774, w775, w776, w777, w778, w779, w780, w781, w782, w783, w784⟩ := lnl_9 (B := gB) (Q := gQ) (s := gs) (by omega)
                          have p785 := p132 (by omega)
                          refine tr_aload_n dX7_readLine_145 rfl ?_
                          refine tr_getR dX7_readLine_146 fl7_22 (kR7 hS385.1 ta0) d24 ?_
                          refine tr_dup dX7_readLine_149 rfl ?_
                          refine q_getI dX7_readLine_150 fl7_162 (kR2 hS385.1 ta23) c392 ?_
                          refine q_iconst dX7_readLine_153 (by decide) ?_
                          intro v786 h787
                          refine q_iaddE dX7_readLine_154 (by intros; omega) ?_
                          intro v788 h789
                          refine q_putI dX7_readLine_155 fl7_162 (kR2 hS385.1 ta23) (Or.inl rfl) hS385 ta23 (by show (0 : Int) ≤ v788.toInt ∧ v788.toInt ≤ (4 : Int); omega) rfl (by decide +kernel) ?_
                          intro I790 hS791 e792 f793
                          have c794 : I790 a23 0 = v25 := (f793 _ _ (fun q => absurd q.2 (by decide))).trans c386
                          have c795 : I790 a23 1 = v29 := (f793 _ _ (fun q => absurd q.2 (by decide))).trans c387
                          have c796 : I790 a23 3 = v33 := (f793 _ _ (fun q => absurd q.2 (by decide))).trans c388
                          have c797 : I790 a23 5 = v37 := (f793 _ _ (fun q => absurd q.2 (by decide))).trans c389
                          have c798 : I790 a23 9 = v41 := (f793 _ _ (fun q => absurd q.2 (by decide))).trans c390
                          have c799 : I790 a23 11 = v45 := (f793 _ _ (fun q => absurd q.2 (by decide))).trans c391
                          have c800 : I790 a0 11 = v53 := (f793 _ _ (fun q => absurd q.2 (by decide))).trans c393
                          have c801 : I790 a0 12 = v57 := (f793 _ _ (fun q => absurd q.2 (by decide))).trans c394
                          have c802 : I790 a0 15 = v61 := (f793 _ _ (fun q => absurd q.2 (by decide))).trans c395
                          have c803 : I790 a0 2 = v398 := (f793 _ _ (fun q => absurd q.2 (by decide))).trans c399
                          have c804 : I790 a0 4 = v401 := (f793 _ _ (fun q => absurd q.2 (by decide))).trans c402
                          have c805 : I790 a0 3 = v404 := (f793 _ _ (fun q => absurd q.2 (by decide))).trans c405
                          have c806 : I790 a0 6 = v409 := (f793 _ _ (fun q => absurd q.2 (by decide))).trans c410
                          refine tr_aload_n dX7_readLine_158 rfl ?_
                          refine tr_aload_n dX7_readLine_159 rfl ?_
                          refine tr_getR dX7_readLine_160 fl7_22 (kR7 hS791.1 ta0) d24 ?_
                          obtain ⟨a807, d808, ta807⟩ := rf2_14 hW0 ta23
                          refine tr_getR dX7_readLine_163 fl7_196 (kR2 hS791.1 ta23) d808 ?_
                          refine tr_aload_n dX7_readLine_166 rfl ?_
                          refine tr_getR dX7_readLine_167 fl7_22 (kR7 hS791.1 ta0) d24 ?_
                          refine q_getI dX7_readLine_170 fl7_162 (kR2 hS791.1 ta23) e792 ?_
                          refine q_iconst dX7_readLine_173 (by decide) ?_
                          intro v809 h810
                          refine q_isubE dX7_readLine_174 (by intros; omega) ?_
                          intro v811 h812
                          obtain ⟨a813, d814, ta813⟩ := rf23 hS791.1 ta807 (j := v811.toNatClampNeg) (ti_lt (by omega) (by omega))
                          refine tr_aald dX7_readLine_175 (kR23 hS791.1 ta807) (by decide) (by decide) (ti_in (nR23 hS791.1 ta807) (by omega) (by omega)) d814 ?_
                          refine q_callVi hE (M' := mX7_readMinutes) (as := [_]) dX7_readLine_176 lk7_186 inX7_readMinutes seX7_readMinutes myX7_readMinutes (by decide) ⟨by decide, by decide⟩ rfl (kR7 hS791.1 ta0) (Nat.le_of_ble_eq_true rfl) rfl rfl (by decide) (by decide) (fk_X7_readMinutes hS791.1 (gB) ((tkN gB gs)) (gQ) ta0 ta813 (TxA.kp hT hS791 ta0 rfl rfl rfl (by decide +kernel) (by decide +kernel)) (by (try rw [c803]); first | done | omega) (by (try rw [c804]); first | done | omega) (by (try rw [c805]); first | done | omega) (by (try rw [c408]); first | done | assumption) (by (try rw [c806]); first | done | assumption) (by (try rw [((hS791.cell ta0 (by decide +kernel)).trans c20)]); first | done | omega) (fun q0 z0 => by obtain rfl := Option.some.inj ((d24).symm.trans z0); (try rw [c794]); first | done | omega)) ?_
                          rintro v820 cn' K' N' I815 R816 L817 ⟨rfl, rfl, rfl, rfl, g818, gl819, h821, dj822, -⟩
                          have hS823 := hS791.tr g818 (by decide +kernel) (by decide +kernel)
                          have c824 : I815 a23 0 = v25 := (g818.cell ta23 (by decide +kernel)).trans c794
                          have c825 : I815 a23 1 = v29 := (g818.cell ta23 (by decide +kernel)).trans c795
                          have c826 : I815 a23 3 = v33 := (g818.cell ta23 (by decide +kernel)).trans c796
                          have c827 : I815 a23 5 = v37 := (g818.cell ta23 (by decide +kernel)).trans c797
                          have c828 : I815 a23 9 = v41 := (g818.cell ta23 (by decide +kernel)).trans c798
                          have c829 : I815 a23 11 = v45 := (g818.cell ta23 (by decide +kernel)).trans c799
                          have c830 : I815 a0 11 = v53 := (g818.cell ta0 (by decide +kernel)).trans c800
                          have c831 : I815 a0 12 = v57 := (g818.cell ta0 (by decide +kernel)).trans c801
                          have c832 : I815 a23 13 = v788 := (g818.cell ta23 (by decide +kernel)).trans e792
                          have hL833 := hL396.tr gl819 (by decide +kernel)
                          have hN834 : NmC L817 R0 a0 gQ := NmC.kp hN397 gl819 hS823.1 ta0 (by decide +kernel) (by decide +kernel)
                          rcases dj822 with ⟨p835, p836, p837, p838, p839, p840, p841, p842, -⟩ | ⟨p843, p844, p845, p846, -⟩
                          · skip
                            obtain ⟨v847, c848⟩ : ∃ v, I815 a0 15 = v := ⟨_, rfl⟩
                            rw [c848] at p836
                            rw [c802] at p836
                            obtain ⟨v849, c850⟩ : ∃ v, I815 a0 2 = v := ⟨_, rfl⟩
                            have b851 := iv7_2 hS823.1 ta0 c850
                            rw [c850] at p838
                            obtain ⟨v852, c853⟩ : ∃ v, I815 a0 4 = v := ⟨_, rfl⟩
                            have b854 := iv7_4 hS823.1 ta0 c853
                            rw [c853] at p839
                            obtain ⟨v855, c856⟩ : ∃ v, I815 a0 3 = v := ⟨_, rfl⟩
                            have b857 := iv7_3 hS823.1 ta0 c856
                            rw [c856] at p840
                            obtain ⟨y858, c859⟩ : ∃ v, L817 a0 5 = v := ⟨_, rfl⟩
                            rw [c859] at p841
                            obtain ⟨v860, c861⟩ : ∃ v, I815 a0 6 = v := ⟨_, rfl⟩
                            rw [c861] at p842
                            have eF := hF.eq
                            have eP := hP.eq
                            obtain ⟨v862, c863⟩ : ∃ v, I815 a0 16 = v := ⟨_, rfl⟩
                            exact tr_zret hZ dX7_readLine_179 rfl (ti_b01 (by omega) (by omega)) (by decide) (by decide) ⟨v820, rfl, rfl, rfl, rfl, rfl, hS823, hL833, (by omega), (Or.inl ⟨(by (try rw [w775]); first | done | omega), (by (try rw [w775]); (try rw [c848]); (try rw [c62]); first | done | omega), (by (try rw [w775]); first | done | omega), (fun q0 z0 => by obtain rfl := Option.some.inj ((d24).symm.trans z0); (try rw [w775]); (try rw [c824]); first | done | omega), (fun q0 z0 => by obtain rfl := Option.some.inj ((d24).symm.trans z0); (try rw [w775]); (try rw [c825]); first | done | omega), (fun q0 z0 => by obtain rfl := Option.some.inj ((d24).symm.trans z0); (try rw [w775]); (try rw [c826]); first | done | omega), (fun q0 z0 => by obtain rfl := Option.some.inj ((d24).symm.trans z0); (try rw [w775]); (try rw [c827]); first | done | omega), (fun q0 z0 => by obtain rfl := Option.some.inj ((d24).symm.trans z0); (try rw [w775]); (try rw [c828]); first | done | omega), (fun q0 z0 => by obtain rfl := Option.some.inj ((d24).symm.trans z0); (try rw [w775]); (try rw [c829]); first | done | omega), (fun q0 z0 => by obtain rfl := Option.some.inj ((d24).symm.trans z0); (try rw [w775]); (try rw [c832]); first | done | omega), (by (try rw [w775]); (try rw [c830]); first | done | omega), (by (try rw [w775]); (try rw [c831]); first | done | omega), (by (try rw [w775]); (try rw [c850]); first | done | omega), (by (try rw [w775]); (try rw [c853]); first | done | omega), (by (try rw [w775]); (try rw [c856]); first | done | omega), (by (try rw [w775]); (try rw [c859]); first | done | assumption), (by (try rw [w775]); (try rw [c861]); first | done | assumption), (NmC.ln (NmC.bd (k := srt gB gs) hN834 (by omega) (by omega)) rfl), trivial⟩), trivial⟩
                          · skip
                            obtain ⟨v864, c865⟩ : ∃ v, I815 a0 15 = v := ⟨_, rfl⟩
                            rw [c865] at p845
                            obtain ⟨v866, c867⟩ : ∃ v, I815 a0 16 = v := ⟨_, rfl⟩
                            rw [c867] at p846
                            have eF := hF.eq
                            have eP := hP.eq
                            obtain ⟨v868, c869⟩ : ∃ v, I815 a0 2 = v := ⟨_, rfl⟩
                            have b870 := iv7_2 hS823.1 ta0 c869
                            obtain ⟨v871, c872⟩ : ∃ v, I815 a0 4 = v := ⟨_, rfl⟩
                            have b873 := iv7_4 hS823.1 ta0 c872
                            obtain ⟨v874, c875⟩ : ∃ v, I815 a0 3 = v := ⟨_, rfl⟩
                            have b876 := iv7_3 hS823.1 ta0 c875
                            obtain ⟨y877, c878⟩ : ∃ v, L817 a0 5 = v := ⟨_, rfl⟩
                            obtain ⟨v879, c880⟩ : ∃ v, I815 a0 6 = v := ⟨_, rfl⟩
                            exact tr_zret hZ dX7_readLine_179 rfl (ti_b01 (by omega) (by omega)) (by decide) (by decide) ⟨v820, rfl, rfl, rfl, rfl, rfl, hS823, hL833, (by omega), (Or.inr (⟨(by (try rw [w775]); first | done | omega), (by (try rw [w775]); first | done | omega), (by (try rw [w775]); (try rw [c865]); first | done | omega), (by (try rw [w775]); (try rw [c867]); first | done | omega), trivial⟩)), trivial⟩
                        · skip
                          refine tr_tabOut 180 dX7_readLine_69 (by omega) (by decide) ?_
                          obtain ⟨w881, w882, w883, w884, w885, w886, w887, w888, w889, w890, w891, w892⟩ := lnl_e (B := gB) (Q := gQ) (s := gs) (by omega) (by omega)
                          have p893 := p133 (by omega)
                          refine tr_aload_n dX7_readLine_180 rfl ?_
                          refine tr_iload_n dX7_readLine_181 rfl ?_
                          refine q_callVi hE (M' := mX7_readEvent) (as := [_]) dX7_readLine_182 lk7_200 inX7_readEvent seX7_readEvent myX7_readEvent (by decide) ⟨by decide, by decide⟩ rfl (kR7 hS385.1 ta0) (Nat.le_of_ble_eq_true rfl) rfl rfl (by decide) (by decide) (fk_X7_readEvent hS385.1 (gB) ((tkN gB gs)) (gQ) ((srt gB gs)) ta0 (by omega) (TxA.kp hT hS385 ta0 rfl rfl rfl (by decide +kernel) (by decide +kernel)) (by (try rw [c399]); first | done | omega) (by (try rw [c402]); first | done | omega) (by (try rw [c405]); first | done | omega) (by (try rw [c408]); first | done | assumption) (by (try rw [c410]); first | done | assumption) (by (try rw [((hS385.cell ta0 (by decide +kernel)).trans c20)]); first | done | omega) (fun q0 z0 => by obtain rfl := Option.some.inj ((d24).symm.trans z0); (try rw [c386]); first | done | omega) (fun q0 z0 => by obtain rfl := Option.some.inj ((d24).symm.trans z0); (try rw [c387]); first | done | omega) (fun q0 z0 => by obtain rfl := Option.some.inj ((d24).symm.trans z0); (try rw [c388]); first | done | omega) (by first | done | omega) (by first | done | omega)) ?_
                          rintro v899 cn' K' N' I894 R895 L896 ⟨rfl, rfl, rfl, rfl, g897, gl898, h900, dj901, -⟩
                          have hS902 := hS385.tr g897 (by decide +kernel) (by decide +kernel)
                          have c903 : I894 a23 0 = v25 := (g897.cell ta23 (by decide +kernel)).trans c386
                          have c904 : I894 a23 1 = v29 := (g897.cell ta23 (by decide +kernel)).trans c387
                          have c905 : I894 a23 5 = v37 := (g897.cell ta23 (by decide +kernel)).trans c389
                          have c906 : I894 a23 9 = v41 := (g897.cell ta23 (by decide +kernel)).trans c390
                          have c907 : I894 a23 11 = v45 := (g897.cell ta23 (by decide +kernel)).trans c391
                          have c908 : I894 a23 13 = v49 := (g897.cell ta23 (by decide +kernel)).trans c392
                          have c909 : I894 a0 11 = v53 := (g897.cell ta0 (by decide +kernel)).trans c393
                          have c910 : I894 a0 12 = v57 := (g897.cell ta0 (by decide +kernel)).trans c394
                          have hL911 := hL396.tr gl898 (by decide +kernel)
                          have hN912 : NmC L896 R0 a0 gQ := NmC.kp hN397 gl898 hS902.1 ta0 (by decide +kernel) (by decide +kernel)
                          rcases dj901 with ⟨p913, p914, p915, p916, p917, p918, p919, p920, p921, -⟩ | ⟨p922, p923, p924, p925, -⟩
                          · skip
                            obtain ⟨v926, c927⟩ : ∃ v, I894 a0 15 = v := ⟨_, rfl⟩
                            rw [c927] at p914
                            rw [c395] at p914
                            obtain ⟨v928, c929⟩ : ∃ v, I894 a23 3 = v := ⟨_, rfl⟩
                            have b930 := iv2_3 hS902.1 ta23 c929
                            have p931 := p916 _ d24
                            clear p916
                            rw [c929] at p931
                            obtain ⟨v932, c933⟩ : ∃ v, I894 a0 2 = v := ⟨_, rfl⟩
                            have b934 := iv7_2 hS902.1 ta0 c933
                            rw [c933] at p917
                            obtain ⟨v935, c936⟩ : ∃ v, I894 a0 4 = v := ⟨_, rfl⟩
                            have b937 := iv7_4 hS902.1 ta0 c936
                            rw [c936] at p918
                            obtain ⟨v938, c939⟩ : ∃ v, I894 a0 3 = v := ⟨_, rfl⟩
                            have b940 := iv7_3 hS902.1 ta0 c939
                            rw [c939] at p919
                            obtain ⟨y941, c942⟩ : ∃ v, L896 a0 5 = v := ⟨_, rfl⟩
                            rw [c942] at p920
                            obtain ⟨v943, c944⟩ : ∃ v, I894 a0 6 = v := ⟨_, rfl⟩
                            rw [c944] at p921
                            have eF := hF.eq
                            have eP := hP.eq
                            obtain ⟨v945, c946⟩ : ∃ v, I894 a0 16 = v := ⟨_, rfl⟩
                            exact tr_zret hZ dX7_readLine_185 rfl (ti_b01 (by omega) (by omega)) (by decide) (by decide) ⟨v899, rfl, rfl, rfl, rfl, rfl, hS902, hL911, (by omega), (Or.inl ⟨(by (try rw [w883]); first | done | omega), (by (try rw [w883]); (try rw [c927]); (try rw [c62]); first | done | omega), (by (try rw [w883]); first | done | omega), (fun q0 z0 => by obtain rfl := Option.some.inj ((d24).symm.trans z0); (try rw [w883]); (try rw [c903]); first | done | omega), (fun q0 z0 => by obtain rfl := Option.some.inj ((d24).symm.trans z0); (try rw [w883]); (try rw [c904]); first | done | omega), (fun q0 z0 => by obtain rfl := Option.some.inj ((d24).symm.trans z0); (try rw [w883]); (try rw [c929]); first | done | omega), (fun q0 z0 => by obtain rfl := Option.some.inj ((d24).symm.trans z0); (try rw [w883]); (try rw [c905]); first | done | omega), (fun q0 z0 => by obtain rfl := Option.some.inj ((d24).symm.trans z0); (try rw [w883]); (try rw [c906]); first | done | omega), (fun q0 z0 => by obtain rfl := Option.some.inj ((d24).symm.trans z0); (try rw [w883]); (try rw [c907]); first | done | omega), (fun q0 z0 => by obtain rfl := Option.some.inj ((d24).symm.trans z0); (try rw [w883]); (try rw [c908]); first | done | omega), (by (try rw [w883]); (try rw [c909]); first | done | omega), (by (try rw [w883]); (try rw [c910]); first | done | omega), (by (try rw [w883]); (try rw [c933]); first | done | omega), (by (try rw [w883]); (try rw [c936]); first | done | omega), (by (try rw [w883]); (try rw [c939]); first | done | omega), (by (try rw [w883]); (try rw [c942]); first | done | assumption), (by (try rw [w883]); (try rw [c944]); first | done | assumption), (NmC.ln (NmC.bd (k := srt gB gs) hN912 (by omega) (by omega)) rfl), trivial⟩), trivial⟩
                          · skip
                            obtain ⟨v947, c948⟩ : ∃ v, I894 a0 15 = v := ⟨_, rfl⟩
                            rw [c948] at p924
                            obtain ⟨v949, c950⟩ : ∃ v, I894 a0 16 = v := ⟨_, rfl⟩
                            rw [c950] at p925
                            have eF := hF.eq
                            have eP := hP.eq
                            obtain ⟨v951, c952⟩ : ∃ v, I894 a23 3 = v := ⟨_, rfl⟩
                            have b953 := iv2_3 hS902.1 ta23 c952
                            obtain ⟨v954, c955⟩ : ∃ v, I894 a0 2 = v := ⟨_, rfl⟩
                            have b956 := iv7_2 hS902.1 ta0 c955
                            obtain ⟨v957, c958⟩ : ∃ v, I894 a0 4 = v := ⟨_, rfl⟩
                            have b959 := iv7_4 hS902.1 ta0 c958
                            obtain ⟨v960, c961⟩ : ∃ v, I894 a0 3 = v := ⟨_, rfl⟩
                            have b962 := iv7_3 hS902.1 ta0 c961
                            obtain ⟨y963, c964⟩ : ∃ v, L896 a0 5 = v := ⟨_, rfl⟩
                            obtain ⟨v965, c966⟩ : ∃ v, I894 a0 6 = v := ⟨_, rfl⟩
                            exact tr_zret hZ dX7_readLine_185 rfl (ti_b01 (by omega) (by omega)) (by decide) (by decide) ⟨v899, rfl, rfl, rfl, rfl, rfl, hS902, hL911, (by omega), (Or.inr (⟨(by (try rw [w883]); first | done | omega), (by (try rw [w883]); first | done | omega), (by (try rw [w883]); (try rw [c948]); first | done | omega), (by (try rw [w883]); (try rw [c950]); first | done | omega), trivial⟩)), trivial⟩
              · skip
                replace hF := hF.pos (by omega)
                replace hP := hP.pos (by omega)
                refine tr_aload_n dX7_readLine_57 rfl ?_
                refine q_bipush dX7_readLine_58 (by decide +kernel) ?_
                intro v967 h968
                refine q_callVi hE (M' := mX7_fail) (as := [_]) dX7_readLine_60 lk7_64 inX7_fail seX7_fail myX7_fail (by decide) ⟨by decide, by decide⟩ rfl (kR7 hS0.1 ta0) (Nat.le_of_ble_eq_true rfl) rfl rfl (by decide) (by decide) (fk_X7_fail hS0.1  ta0 (by omega)) ?_
                rintro v974 cn' K' N' I969 R970 L971 ⟨rfl, rfl, rfl, rfl, rfl, g972, h975, p976, p977, p978, -⟩
                have hS979 := hS0.tr g972 (by decide +kernel) (by decide +kernel)
                have c980 : I969 a0 2 = v1 := (g972.cell ta0 (by decide +kernel)).trans c2
                have c981 : I969 a0 4 = v5 := (g972.cell ta0 (by decide +kernel)).trans c6
                have c982 : I969 a0 3 = v9 := (g972.cell ta0 (by decide +kernel)).trans c10
                have c983 : I969 a0 6 = v16 := (g972.cell ta0 (by decide +kernel)).trans c17
                have c984 : I969 a23 0 = v25 := (g972.cell ta23 (by decide +kernel)).trans c26
                have c985 : I969 a23 1 = v29 := (g972.cell ta23 (by decide +kernel)).trans c30
                have c986 : I969 a23 3 = v33 := (g972.cell ta23 (by decide +kernel)).trans c34
                have c987 : I969 a23 5 = v37 := (g972.cell ta23 (by decide +kernel)).trans c38
                have c988 : I969 a23 9 = v41 := (g972.cell ta23 (by decide +kernel)).trans c42
                have c989 : I969 a23 11 = v45 := (g972.cell ta23 (by decide +kernel)).trans c46
                have c990 : I969 a23 13 = v49 := (g972.cell ta23 (by decide +kernel)).trans c50
                have c991 : I969 a0 11 = v53 := (g972.cell ta0 (by decide +kernel)).trans c54
                have c992 : I969 a0 12 = v57 := (g972.cell ta0 (by decide +kernel)).trans c58
                obtain ⟨v993, c994⟩ : ∃ v, I969 a0 15 = v := ⟨_, rfl⟩
                rw [c994] at p977
                obtain ⟨v995, c996⟩ : ∃ v, I969 a0 16 = v := ⟨_, rfl⟩
                rw [c996] at p978
                rw [c6] at p978
                have eF := hF.eq
                have eP := hP.eq
                exact tr_zret hZ dX7_readLine_63 rfl (ti_b01 (by omega) (by omega)) (by decide) (by decide) ⟨v974, rfl, rfl, rfl, rfl, rfl, hS979, hL0, (by omega), (Or.inr (⟨(by first | done | omega), (by first | done | omega), (by (try rw [c994]); first | done | omega), (by (try rw [c996]); first | done | omega), trivial⟩)), trivial⟩
          · skip
            exfalso; omega
      · skip
        exfalso; omega
  · skip
    replace hF := hF.pos (by omega)
    replace hP := hP.pos (by omega)
    refine tr_aload_n dX7_readLine_10 rfl ?_
    refine q_iconst dX7_readLine_11 (by decide) ?_
    intro v997 h998
    refine q_callVi hE (M' := mX7_fail) (as := [_]) dX7_readLine_12 lk7_64 inX7_fail seX7_fail myX7_fail (by decide) ⟨by decide, by decide⟩ rfl (kR7 hS0.1 ta0) (Nat.le_of_ble_eq_true rfl) rfl rfl (by decide) (by decide) (fk_X7_fail hS0.1  ta0 (by omega)) ?_
    rintro v1004 cn' K' N' I999 R1000 L1001 ⟨rfl, rfl, rfl, rfl, rfl, g1002, h1005, p1006, p1007, p1008, -⟩
    have hS1009 := hS0.tr g1002 (by decide +kernel) (by decide +kernel)
    have c1010 : I999 a0 2 = v1 := (g1002.cell ta0 (by decide +kernel)).trans c2
    have c1011 : I999 a0 4 = v5 := (g1002.cell ta0 (by decide +kernel)).trans c6
    have c1012 : I999 a0 3 = v9 := (g1002.cell ta0 (by decide +kernel)).trans c10
    have c1013 : I999 a0 6 = v16 := (g1002.cell ta0 (by decide +kernel)).trans c17
    have c1014 : I999 a23 0 = v25 := (g1002.cell ta23 (by decide +kernel)).trans c26
    have c1015 : I999 a23 1 = v29 := (g1002.cell ta23 (by decide +kernel)).trans c30
    have c1016 : I999 a23 3 = v33 := (g1002.cell ta23 (by decide +kernel)).trans c34
    have c1017 : I999 a23 5 = v37 := (g1002.cell ta23 (by decide +kernel)).trans c38
    have c1018 : I999 a23 9 = v41 := (g1002.cell ta23 (by decide +kernel)).trans c42
    have c1019 : I999 a23 11 = v45 := (g1002.cell ta23 (by decide +kernel)).trans c46
    have c1020 : I999 a23 13 = v49 := (g1002.cell ta23 (by decide +kernel)).trans c50
    have c1021 : I999 a0 11 = v53 := (g1002.cell ta0 (by decide +kernel)).trans c54
    have c1022 : I999 a0 12 = v57 := (g1002.cell ta0 (by decide +kernel)).trans c58
    obtain ⟨v1023, c1024⟩ : ∃ v, I999 a0 15 = v := ⟨_, rfl⟩
    rw [c1024] at p1007
    obtain ⟨v1025, c1026⟩ : ∃ v, I999 a0 16 = v := ⟨_, rfl⟩
    rw [c1026] at p1008
    rw [c6] at p1008
    have eF := hF.eq
    have eP := hP.eq
    exact tr_zret hZ dX7_readLine_15 rfl (ti_b01 (by omega) (by omega)) (by decide) (by decide) ⟨v1004, rfl, rfl, rfl, rfl, rfl, hS1009, hL0, (by omega), (Or.inr (⟨(by first | done | omega), (by first | done | omega), (by (try rw [c1024]); first | done | omega), (by (try rw [c1026]); first | done | omega), trivial⟩)), trivial⟩
