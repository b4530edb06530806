def wik_X10_turned : List Nat := [73, 75, 81, 768, 769, 778, 834, 2303, 2367, 2431, 2495, 2559, 2623, 2687, 2751, 2815, 2879, 2943, 3007, 3071, 3135, 3199, 3263, 3327, 3391]
def wrk_X10_turned : List Nat := [832, 833]
set_option maxHeartbeats 4000000 in
theorem fk_X10_turned {l : Launch} {T : Nat → Nat} {cn : Nat} {K N : Nat → Nat} {I0 : cz_I} {R0 : cz_R} {L0 : cz_L} {d : Int} (hW0 : Wf T cn K N I0 R0 d) (gX : Nat → Nat → Int) {a0 : Nat} (ta0 : T a0 = 1) {x1 : Int32} {x2 : Int32} (hX : EvQ I0 R0 a0 gX) (hK : SkQ I0 R0 a0 gX) (hD : DjS R0 a0) : ConE l mX10_turned [.ref a0, .int x1, .int x2] cn K N I0 R0 L0 (ca_i (fun v cn' K' N' I' R' L' => cn = cn' ∧ K = K' ∧ N = N' ∧ L0 = L' ∧ St T cn K N d wik_X10_turned wrk_X10_turned I0 R0 I' R' ∧ (SkQ I' R0 a0 gX) ∧ True)) := by
  refine ConE.of (by decide +kernel) rfl (Nat.le_of_ble_eq_true rfl) rfl (fun X hX hZ hE => ?_)
  subst hX
  have hS0 : St T cn K N d wik_X10_turned wrk_X10_turned I0 R0 I0 R0 := St.rf0 hW0
  obtain ⟨a1, d2, ta1⟩ := rf1_2 hW0 ta0
  obtain ⟨a3, d4, ta3⟩ := rf1_6 hW0 ta0
  obtain ⟨a5, d6, ta5⟩ := rf1_8 hW0 ta0
  obtain ⟨a7, d8, ta7⟩ := rf1_13 hW0 ta0
  refine tr_aload_n dX10_turned_0 rfl ?_
  refine tr_iload_n dX10_turned_1 rfl ?_
  refine q_callVi hE (M' := mX10_isCheese) (as := [_]) dX10_turned_2 lk10_195 inX10_isCheese seX10_isCheese myX10_isCheese (by decide) ⟨by decide, by decide⟩ rfl (kR1 hS0.1 ta0) (Nat.le_of_ble_eq_true rfl) rfl rfl (by decide) (by decide) (k_X10_isCheese hS0.1 ta0) ?_
  rintro v13 cn' K' N' I9 R10 L11 ⟨rfl, rfl, rfl, rfl, rfl, rfl, h14, p15, -⟩
  refine q_if_ne 14 dX10_turned_5 (by decide) (fun h16 => ?_) (fun h16 => ?_)
  · skip
    refine tr_aload_n dX10_turned_14 rfl ?_
    refine tr_iload_n dX10_turned_15 rfl ?_
    obtain ⟨v17, c18⟩ : ∃ v, I0 a1 0 = v := ⟨_, rfl⟩
    have b19 := iv2_0 hW0 ta1 c18
    refine q_callVi hE (M' := mX10_isMinute) (as := [_]) dX10_turned_16 lk10_115 inX10_isMinute seX10_isMinute myX10_isMinute (by decide) ⟨by decide, by decide⟩ rfl (kR1 hS0.1 ta0) (Nat.le_of_ble_eq_true rfl) rfl rfl (by decide) (by decide) (fk_X10_isMinute hS0.1  ta0) ?_
    rintro v25 cn' K' N' I20 R21 L22 ⟨rfl, rfl, rfl, rfl, rfl, rfl, h26, p27, p28, -⟩
    have p29 := p27 _ d2
    clear p27
    rw [c18] at p29
    have p30 := p28 _ d2
    clear p28
    rw [c18] at p30
    refine q_if_ne 28 dX10_turned_19 (by decide) (fun h31 => ?_) (fun h31 => ?_)
    · skip
      refine tr_aload_n dX10_turned_28 rfl ?_
      refine tr_aload_n dX10_turned_29 rfl ?_
      refine q_callVr hE (M' := mX10_presentNight) (as := []) dX10_turned_30 lk10_155 inX10_presentNight seX10_presentNight myX10_presentNight (by decide) ⟨by decide, by decide⟩ rfl (kR1 hS0.1 ta0) (Nat.le_of_ble_eq_true rfl) rfl rfl (by decide) (by decide) (fk_X10_presentNight hS0.1 (gX) ta0 hX hK hD) ?_
      rintro a37 cn' K' N' I32 R33 L34 ⟨rfl, rfl, rfl, rfl, g35, ta37, rp38, -⟩
      have hS39 := hS0.tr g35 (by decide +kernel) (by decide +kernel)
      refine tr_iload_n dX10_turned_33 rfl ?_
      refine tr_iload_n dX10_turned_34 rfl ?_
      refine q_callVi hE (M' := mX5_turnerOf) (as := [_, _]) dX10_turned_35 lk10_198 inX5_turnerOf seX5_turnerOf myX5_turnerOf (by decide) ⟨by decide, by decide⟩ rfl (kR13 hS39.1 ta37) (Nat.le_of_ble_eq_true rfl) rfl rfl (by decide) (by decide) (k_X5_turnerOf hS39.1 ta37 (by omega)) ?_
      rintro v44 cn' K' N' I40 R41 L42 ⟨rfl, rfl, rfl, rfl, rfl, rfl, -⟩
      refine q_callVi hE (M' := mX10_answered) (as := [_]) dX10_turned_38 lk10_109 inX10_answered seX10_answered myX10_answered (by decide) ⟨by decide, by decide⟩ rfl (kR1 hS39.1 ta0) (Nat.le_of_ble_eq_true rfl) rfl rfl (by decide) (by decide) (fk_X10_answered hS39.1  ta0) ?_
      rintro v50 cn' K' N' I45 R46 L47 ⟨rfl, rfl, rfl, rfl, rfl, g48, p51, p52, -⟩
      have hS53 := hS39.tr g48 (by decide +kernel) (by decide +kernel)
      obtain ⟨v54, c55⟩ : ∃ v, I45 a0 17 = v := ⟨_, rfl⟩
      rw [c55] at p52
      exact tr_iret hZ dX10_turned_41 rfl (by decide) (by decide) ⟨v50, rfl, rfl, rfl, rfl, rfl, hS53, (SkQ.st rp38 hW0 ta0 g48 (by decide +kernel) (by decide +kernel)), trivial⟩
    · skip
      refine tr_aload_n dX10_turned_22 rfl ?_
      refine q_iconst dX10_turned_23 (by decide) ?_
      intro v56 h57
      refine q_callVi hE (M' := mX10_refused) (as := [_]) dX10_turned_24 lk10_79 inX10_refused seX10_refused myX10_refused (by decide) ⟨by decide, by decide⟩ rfl (kR1 hS0.1 ta0) (Nat.le_of_ble_eq_true rfl) rfl rfl (by decide) (by decide) (fk_X10_refused hS0.1  ta0) ?_
      rintro v63 cn' K' N' I58 R59 L60 ⟨rfl, rfl, rfl, rfl, rfl, g61, p64, p65, -⟩
      have hS66 := hS0.tr g61 (by decide +kernel) (by decide +kernel)
      obtain ⟨v67, c68⟩ : ∃ v, I58 a0 17 = v := ⟨_, rfl⟩
      rw [c68] at p65
      exact tr_iret hZ dX10_turned_27 rfl (by decide) (by decide) ⟨v63, rfl, rfl, rfl, rfl, rfl, hS66, (SkQ.st hK hW0 ta0 g61 (by decide +kernel) (by decide +kernel)), trivial⟩
  · skip
    refine tr_aload_n dX10_turned_8 rfl ?_
    refine q_iconst dX10_turned_9 (by decide) ?_
    intro v69 h70
    refine q_callVi hE (M' := mX10_refused) (as := [_]) dX10_turned_10 lk10_79 inX10_refused seX10_refused myX10_refused (by decide) ⟨by decide, by decide⟩ rfl (kR1 hS0.1 ta0) (Nat.le_of_ble_eq_true rfl) rfl rfl (by decide) (by decide) (fk_X10_refused hS0.1  ta0) ?_
    rintro v76 cn' K' N' I71 R72 L73 ⟨rfl, rfl, rfl, rfl, rfl, g74, p77, p78, -⟩
    have hS79 := hS0.tr g74 (by decide +kernel) (by decide +kernel)
    obtain ⟨v80, c81⟩ : ∃ v, I71 a0 17 = v := ⟨_, rfl⟩
    rw [c81] at p78
    exact tr_iret hZ dX10_turned_13 rfl (by decide) (by decide) ⟨v76, rfl, rfl, rfl, rfl, rfl, hS79, (SkQ.st hK hW0 ta0 g74 (by decide +kernel) (by decide +kernel)), trivial⟩
def wik_X10_up : List Nat := [73, 75, 81, 768, 769, 778, 834, 2303, 2367, 2431, 2495, 2559, 2623, 2687, 2751, 2815, 2879, 2943, 3007, 3071, 3135, 3199, 3263, 3327, 3391]
def wrk_X10_up : List Nat := [832, 833]
set_option maxHeartbeats 4000000 in
theorem fk_X10_up {l : Launch} {T : Nat → Nat} {cn : Nat} {K N : Nat → Nat} {I0 : cz_I} {R0 : cz_R} {L0 : cz_L} {d : Int} (hW0 : Wf T cn K N I0 R0 d) (gX : Nat → Nat → Int) {a0 : Nat} (ta0 : T a0 = 1) {x1 : Int32} {x2 : Int32} (hX : EvQ I0 R0 a0 gX) (hK : SkQ I0 R0 a0 gX) (hD : DjS R0 a0) : ConE l mX10_up [.ref a0, .int x1, .int x2] cn K N I0 R0 L0 (ca_i (fun v cn' K' N' I' R' L' => cn = cn' ∧ K = K' ∧ N = N' ∧ L0 = L' ∧ St T cn K N d wik_X10_up wrk_X10_up I0 R0 I' R' ∧ (SkQ I' R0 a0 gX) ∧ True)) := by
  refine ConE.of (by decide +kernel) rfl (Nat.le_of_ble_eq_true rfl) rfl (fun X hX hZ hE => ?_)
  subst hX
  have hS0 : St T cn K N d wik_X10_up wrk_X10_up I0 R0 I0 R0 := St.rf0 hW0
  obtain ⟨a1, d2, ta1⟩ := rf1_2 hW0 ta0
  obtain ⟨a3, d4, ta3⟩ := rf1_6 hW0 ta0
  obtain ⟨a5, d6, ta5⟩ := rf1_8 hW0 ta0
  obtain ⟨a7, d8, ta7⟩ := rf1_13 hW0 ta0
  refine tr_aload_n dX10_up_0 rfl ?_
  refine tr_iload_n dX10_up_1 rfl ?_
  refine q_callVi hE (M' := mX10_isCheese) (as := [_]) dX10_up_2 lk10_195 inX10_isCheese seX10_isCheese myX10_isCheese (by decide) ⟨by decide, by decide⟩ rfl (kR1 hS0.1 ta0) (Nat.le_of_ble_eq_true rfl) rfl rfl (by decide) (by decide) (k_X10_isCheese hS0.1 ta0) ?_
  rintro v13 cn' K' N' I9 R10 L11 ⟨rfl, rfl, rfl, rfl, rfl, rfl, h14, p15, -⟩
  refine q_if_ne 14 dX10_up_5 (by decide) (fun h16 => ?_) (fun h16 => ?_)
  · skip
    refine tr_aload_n dX10_up_14 rfl ?_
    refine tr_iload_n dX10_up_15 rfl ?_
    obtain ⟨v17, c18⟩ : ∃ v, I0 a1 0 = v := ⟨_, rfl⟩
    have b19 := iv2_0 hW0 ta1 c18
    refine q_callVi hE (M' := mX10_isMinute) (as := [_]) dX10_up_16 lk10_115 inX10_isMinute seX10_isMinute myX10_isMinute (by decide) ⟨by decide, by decide⟩ rfl (kR1 hS0.1 ta0) (Nat.le_of_ble_eq_true rfl) rfl rfl (by decide) (by decide) (fk_X10_isMinute hS0.1  ta0) ?_
    rintro v25 cn' K' N' I20 R21 L22 ⟨rfl, rfl, rfl, rfl, rfl, rfl, h26, p27, p28, -⟩
    have p29 := p27 _ d2
    clear p27
    rw [c18] at p29
    have p30 := p28 _ d2
    clear p28
    rw [c18] at p30
    refine q_if_ne 28 dX10_up_19 (by decide) (fun h31 => ?_) (fun h31 => ?_)
    · skip
      refine tr_aload_n dX10_up_28 rfl ?_
      refine tr_aload_n dX10_up_29 rfl ?_
      refine q_callVr hE (M' := mX10_presentNight) (as := []) dX10_up_30 lk10_155 inX10_presentNight seX10_presentNight myX10_presentNight (by decide) ⟨by decide, by decide⟩ rfl (kR1 hS0.1 ta0) (Nat.le_of_ble_eq_true rfl) rfl rfl (by decide) (by decide) (fk_X10_presentNight hS0.1 (gX) ta0 hX hK hD) ?_
      rintro a37 cn' K' N' I32 R33 L34 ⟨rfl, rfl, rfl, rfl, g35, ta37, rp38, -⟩
      have hS39 := hS0.tr g35 (by decide +kernel) (by decide +kernel)
      refine tr_iload_n dX10_up_33 rfl ?_
      refine tr_iload_n dX10_up_34 rfl ?_
      refine q_callVi hE (M' := mX5_liesUp) (as := [_, _]) dX10_up_35 lk10_201 inX5_liesUp seX5_liesUp myX5_liesUp (by decide) ⟨by decide, by decide⟩ rfl (kR13 hS39.1 ta37) (Nat.le_of_ble_eq_true rfl) rfl rfl (by decide) (by decide) (k_X5_liesUp hS39.1 ta37 (by omega)) ?_
      rintro v44 cn' K' N' I40 R41 L42 ⟨rfl, rfl, rfl, rfl, rfl, rfl, h45, -⟩
      refine q_if_eq 45 dX10_up_38 (by decide) (fun h46 => ?_) (fun h46 => ?_)
      · skip
        refine q_iconst dX10_up_45 (by decide) ?_
        intro v47 h48
        refine q_callVi hE (M' := mX10_answered) (as := [_]) dX10_up_46 lk10_109 inX10_answered seX10_answered myX10_answered (by decide) ⟨by decide, by decide⟩ rfl (kR1 hS39.1 ta0) (Nat.le_of_ble_eq_true rfl) rfl rfl (by decide) (by decide) (fk_X10_answered hS39.1  ta0) ?_
        rintro v54 cn' K' N' I49 R50 L51 ⟨rfl, rfl, rfl, rfl, rfl, g52, p55, p56, -⟩
        have hS57 := hS39.tr g52 (by decide +kernel) (by decide +kernel)
        obtain ⟨v58, c59⟩ : ∃ v, I49 a0 17 = v := ⟨_, rfl⟩
        rw [c59] at p56
        exact tr_iret hZ dX10_up_49 rfl (by decide) (by decide) ⟨v54, rfl, rfl, rfl, rfl, rfl, hS57, (SkQ.st rp38 hW0 ta0 g52 (by decide +kernel) (by decide +kernel)), trivial⟩
      · skip
        refine q_iconst dX10_up_41 (by decide) ?_
        intro v60 h61
        refine tr_goto 46 dX10_up_42 (by decide) ?_
        refine q_callVi hE (M' := mX10_answered) (as := [_]) dX10_up_46 lk10_109 inX10_answered seX10_answered myX10_answered (by decide) ⟨by decide, by decide⟩ rfl (kR1 hS39.1 ta0) (Nat.le_of_ble_eq_true rfl) rfl rfl (by decide) (by decide) (fk_X10_answered hS39.1  ta0) ?_
        rintro v67 cn' K' N' I62 R63 L64 ⟨rfl, rfl, rfl, rfl, rfl, g65, p68, p69, -⟩
        have hS70 := hS39.tr g65 (by decide +kernel) (by decide +kernel)
        obtain ⟨v71, c72⟩ : ∃ v, I62 a0 17 = v := ⟨_, rfl⟩
        rw [c72] at p69
        exact tr_iret hZ dX10_up_49 rfl (by decide) (by decide) ⟨v67, rfl, rfl, rfl, rfl, rfl, hS70, (SkQ.st rp38 hW0 ta0 g65 (by decide +kernel) (by decide +kernel)), trivial⟩
    · skip
      refine tr_aload_n dX10_up_22 rfl ?_
      refine q_iconst dX10_up_23 (by decide) ?_
      intro v73 h74
      refine q_callVi hE (M' := mX10_refused) (as := [_]) dX10_up_24 lk10_79 inX10_refused seX10_refused myX10_refused (by decide) ⟨by decide, by decide⟩ rfl (kR1 hS0.1 ta0) (Nat.le_of_ble_eq_true rfl) rfl rfl (by decide) (by decide) (fk_X10_refused hS0.1  ta0) ?_
      rintro v80 cn' K' N' I75 R76 L77 ⟨rfl, rfl, rfl, rfl, rfl, g78, p81, p82, -⟩
      have hS83 := hS0.tr g78 (by decide +kernel) (by decide +kernel)
      obtain ⟨v84, c85⟩ : ∃ v, I75 a0 17 = v := ⟨_, rfl⟩
      rw [c85] at p82
      exact tr_iret hZ dX10_up_27 rfl (by decide) (by decide) ⟨v80, rfl, rfl, rfl, rfl, rfl, hS83, (SkQ.st hK hW0 ta0 g78 (by decide +kernel) (by decide +kernel)), trivial⟩
  · skip
    refine tr_aload_n dX10_up_8 rfl ?_
    refine q_iconst dX10_up_9 (by decide) ?_
    intro v86 h87
    refine q_callVi hE (M' := mX10_refused) (as := [_]) dX10_up_10 lk10_79 inX10_refused seX10_refused myX10_refused (by decide) ⟨by decide, by decide⟩ rfl (kR1 hS0.1 ta0) (Nat.le_of_ble_eq_true rfl) rfl rfl (by decide) (by decide) (fk_X10_refused hS0.1  ta0) ?_
    rintro v93 cn' K' N' I88 R89 L90 ⟨rfl, rfl, rfl, rfl, rfl, g91, p94, p95, -⟩
    have hS96 := hS0.tr g91 (by decide +kernel) (by decide +kernel)
    obtain ⟨v97, c98⟩ : ∃ v, I88 a0 17 = v := ⟨_, rfl⟩
    rw [c98] at p95
    exact tr_iret hZ dX10_up_13 rfl (by decide) (by decide) ⟨v93, rfl, rfl, rfl, rfl, rfl, hS96, (SkQ.st hK hW0 ta0 g91 (by decide +kernel) (by decide +kernel)), trivial⟩
def wik_X10_cheese : List Nat := [73, 75, 81, 768, 769, 778, 834, 2303, 2367, 2431, 2495, 2559, 2623, 2687, 2751, 2815, 2879, 2943, 3007, 3071, 3135, 3199, 3263, 3327, 3391]
def wrk_X10_cheese : List Nat := [832, 833]
set_option maxHeartbeats 4000000 in
theorem fk_X10_cheese {l : Launch} {T : Nat → Nat} {cn : Nat} {K N : Nat → Nat} {I0 : cz_I} {R0 : cz_R} {L0 : cz_L} {d : Int} (hW0 : Wf T cn K N I0 R0 d) (gX : Nat → Nat → Int) {a0 : Nat} (ta0 : T a0 = 1) {x1 : Int32} {x2 : Int32} (hX : EvQ I0 R0 a0 gX) (hK : SkQ I0 R0 a0 gX) (hD : DjS R0 a0) : ConE l mX10_cheese [.ref a0, .int x1, .int x2] cn K N I0 R0 L0 (ca_i (fun v cn' K' N' I' R' L' => cn = cn' ∧ K = K' ∧ N = N' ∧ L0 = L' ∧ St T cn K N d wik_X10_cheese wrk_X10_cheese I0 R0 I' R' ∧ (SkQ I' R0 a0 gX) ∧ True)) := by
  refine ConE.of (by decide +kernel) rfl (Nat.le_of_ble_eq_true rfl) rfl (fun X hX hZ hE => ?_)
  subst hX
  have hS0 : St T cn K N d wik_X10_cheese wrk_X10_cheese I0 R0 I0 R0 := St.rf0 hW0
  obtain ⟨a1, d2, ta1⟩ := rf1_2 hW0 ta0
  obtain ⟨a3, d4, ta3⟩ := rf1_6 hW0 ta0
  obtain ⟨a5, d6, ta5⟩ := rf1_8 hW0 ta0
  obtain ⟨a7, d8, ta7⟩ := rf1_13 hW0 ta0
  refine tr_aload_n dX10_cheese_0 rfl ?_
  refine tr_iload_n dX10_cheese_1 rfl ?_
  refine q_callVi hE (M' := mX10_isCheese) (as := [_]) dX10_cheese_2 lk10_195 inX10_isCheese seX10_isCheese myX10_isCheese (by decide) ⟨by decide, by decide⟩ rfl (kR1 hS0.1 ta0) (Nat.le_of_ble_eq_true rfl) rfl rfl (by decide) (by decide) (k_X10_isCheese hS0.1 ta0) ?_
  rintro v13 cn' K' N' I9 R10 L11 ⟨rfl, rfl, rfl, rfl, rfl, rfl, h14, p15, -⟩
  refine q_if_ne 14 dX10_cheese_5 (by decide) (fun h16 => ?_) (fun h16 => ?_)
  · skip
    refine tr_aload_n dX10_cheese_14 rfl ?_
    refine q_callVr hE (M' := mX10_presentNight) (as := []) dX10_cheese_15 lk10_155 inX10_presentNight seX10_presentNight myX10_presentNight (by decide) ⟨by decide, by decide⟩ rfl (kR1 hS0.1 ta0) (Nat.le_of_ble_eq_true rfl) rfl rfl (by decide) (by decide) (fk_X10_presentNight hS0.1 (gX) ta0 hX hK hD) ?_
    rintro a22 cn' K' N' I17 R18 L19 ⟨rfl, rfl, rfl, rfl, g20, ta22, rp23, -⟩
    have hS24 := hS0.tr g20 (by decide +kernel) (by decide +kernel)
    refine tr_astore_n dX10_cheese_18 (by decide) (by decide) ?_
    refine tr_iload_n dX10_cheese_19 rfl ?_
    by_cases h25 : x2.toInt = 0
    · skip
      refine tr_tabIn (off := 44) 64 dX10_cheese_20 (by omega) (by omega) (by rw [h25]; decide +kernel) (by decide) ?_
      refine tr_aload_n dX10_cheese_64 rfl ?_
      refine tr_aload_n dX10_cheese_65 rfl ?_
      refine tr_getR dX10_cheese_66 fl10_16 (kR1 hS24.1 ta0) ((hS24.rcell ta0 (by decide +kernel)).trans d2) ?_
      obtain ⟨a26, d27, ta26⟩ := rf2_6 hW0 ta1
      refine tr_getR dX10_cheese_69 fl10_204 (kR2 hS24.1 ta1) ((hS24.rcell ta1 (by decide +kernel)).trans d27) ?_
      refine tr_iload_n dX10_cheese_72 rfl ?_
      refine q_iald dX10_cheese_73 (kR20 hS24.1 ta26) (ti_in (nR20 hS24.1 ta26) (by omega) (by omega)) ?_
      intro v28 c29
      refine q_callVi hE (M' := mX10_answered) (as := [_]) dX10_cheese_74 lk10_109 inX10_answered seX10_answered myX10_answered (by decide) ⟨by decide, by decide⟩ rfl (kR1 hS24.1 ta0) (Nat.le_of_ble_eq_true rfl) rfl rfl (by decide) (by decide) (fk_X10_answered hS24.1  ta0) ?_
      rintro v35 cn' K' N' I30 R31 L32 ⟨rfl, rfl, rfl, rfl, rfl, g33, p36, p37, -⟩
      have hS38 := hS24.tr g33 (by decide +kernel) (by decide +kernel)
      obtain ⟨v39, c40⟩ : ∃ v, I30 a0 17 = v := ⟨_, rfl⟩
      rw [c40] at p37
      exact tr_iret hZ dX10_cheese_77 rfl (by decide) (by decide) ⟨v35, rfl, rfl, rfl, rfl, rfl, hS38, (SkQ.st rp23 hW0 ta0 g33 (by decide +kernel) (by decide +kernel)), trivial⟩
    · skip
      by_cases h41 : x2.toInt = 1
      · skip
        refine tr_tabIn (off := 58) 78 dX10_cheese_20 (by omega) (by omega) (by rw [h41]; decide +kernel) (by decide) ?_
        refine tr_aload_n dX10_cheese_78 rfl ?_
        refine tr_aload_n dX10_cheese_79 rfl ?_
        obtain ⟨a42, d43, ta42⟩ := rf13_4 hW0 ta22
        refine tr_getR dX10_cheese_80 fl10_207 (kR13 hS24.1 ta22) ((hS24.rcell ta22 (by decide +kernel)).trans d43) ?_
        refine tr_iload_n dX10_cheese_83 rfl ?_
        refine q_iald dX10_cheese_84 (kR45 hS24.1 ta42) (ti_in (nR45 hS24.1 ta42) (by omega) (by omega)) ?_
        intro v44 c45
        refine tr_aload_n dX10_cheese_85 rfl ?_
        obtain ⟨a46, d47, ta46⟩ := rf13_5 hW0 ta22
        refine tr_getR dX10_cheese_86 fl10_210 (kR13 hS24.1 ta22) ((hS24.rcell ta22 (by decide +kernel)).trans d47) ?_
        refine tr_iload_n dX10_cheese_89 rfl ?_
        refine q_iald dX10_cheese_90 (kR46 hS24.1 ta46) (ti_in (nR46 hS24.1 ta46) (by omega) (by omega)) ?_
        intro v48 c49
        refine q_iadd dX10_cheese_91 ?_
        intro v50
        refine q_callVi hE (M' := mX10_answered) (as := [_]) dX10_cheese_92 lk10_109 inX10_answered seX10_answered myX10_answered (by decide) ⟨by decide, by decide⟩ rfl (kR1 hS24.1 ta0) (Nat.le_of_ble_eq_true rfl) rfl rfl (by decide) (by decide) (fk_X10_answered hS24.1  ta0) ?_
        rintro v56 cn' K' N' I51 R52 L53 ⟨rfl, rfl, rfl, rfl, rfl, g54, p57, p58, -⟩
        have hS59 := hS24.tr g54 (by decide +kernel) (by decide +kernel)
        obtain ⟨v60, c61⟩ : ∃ v, I51 a0 17 = v := ⟨_, rfl⟩
        rw [c61] at p58
        exact tr_iret hZ dX10_cheese_95 rfl (by decide) (by decide) ⟨v56, rfl, rfl, rfl, rfl, rfl, hS59, (SkQ.st rp23 hW0 ta0 g54 (by decide +kernel) (by decide +kernel)), trivial⟩
      · skip
        by_cases h62 : x2.toInt = 2
        · skip
          refine tr_tabIn (off := 76) 96 dX10_cheese_20 (by omega) (by omega) (by rw [h62]; decide +kernel) (by decide) ?_
          refine tr_aload_n dX10_cheese_96 rfl ?_
          refine tr_aload_n dX10_cheese_97 rfl ?_
          obtain ⟨a63, d64, ta63⟩ := rf13_4 hW0 ta22
          refine tr_getR dX10_cheese_98 fl10_207 (kR13 hS24.1 ta22) ((hS24.rcell ta22 (by decide +kernel)).trans d64) ?_
          refine tr_iload_n dX10_cheese_101 rfl ?_
          refine q_iald dX10_cheese_102 (kR45 hS24.1 ta63) (ti_in (nR45 hS24.1 ta63) (by omega) (by omega)) ?_
          intro v65 c66
          refine q_callVi hE (M' := mX10_answered) (as := [_]) dX10_cheese_103 lk10_109 inX10_answered seX10_answered myX10_answered (by decide) ⟨by decide, by decide⟩ rfl (kR1 hS24.1 ta0) (Nat.le_of_ble_eq_true rfl) rfl rfl (by decide) (by decide) (fk_X10_answered hS24.1  ta0) ?_
          rintro v72 cn' K' N' I67 R68 L69 ⟨rfl, rfl, rfl, rfl, rfl, g70, p73, p74, -⟩
          have hS75 := hS24.tr g70 (by decide +kernel) (by decide +kernel)
          obtain ⟨v76, c77⟩ : ∃ v, I67 a0 17 = v := ⟨_, rfl⟩
          rw [c77] at p74
          exact tr_iret hZ dX10_cheese_106 rfl (by decide) (by decide) ⟨v72, rfl, rfl, rfl, rfl, rfl, hS75, (SkQ.st rp23 hW0 ta0 g70 (by decide +kernel) (by decide +kernel)), trivial⟩
        · skip
          by_cases h78 : x2.toInt = 3
          · skip
            refine tr_tabIn (off := 87) 107 dX10_cheese_20 (by omega) (by omega) (by rw [h78]; decide +kernel) (by decide) ?_
            refine tr_aload_n dX10_cheese_107 rfl ?_
            refine tr_aload_n dX10_cheese_108 rfl ?_
            obtain ⟨a79, d80, ta79⟩ := rf13_6 hW0 ta22
            refine tr_getR dX10_cheese_109 fl10_213 (kR13 hS24.1 ta22) ((hS24.rcell ta22 (by decide +kernel)).trans d80) ?_
            refine tr_iload_n dX10_cheese_112 rfl ?_
            refine q_iald dX10_cheese_113 (kR47 hS24.1 ta79) (ti_in (nR47 hS24.1 ta79) (by omega) (by omega)) ?_
            intro v81 c82
            refine q_callVi hE (M' := mX10_answered) (as := [_]) dX10_cheese_114 lk10_109 inX10_answered seX10_answered myX10_answered (by decide) ⟨by decide, by decide⟩ rfl (kR1 hS24.1 ta0) (Nat.le_of_ble_eq_true rfl) rfl rfl (by decide) (by decide) (fk_X10_answered hS24.1  ta0) ?_
            rintro v88 cn' K' N' I83 R84 L85 ⟨rfl, rfl, rfl, rfl, rfl, g86, p89, p90, -⟩
            have hS91 := hS24.tr g86 (by decide +kernel) (by decide +kernel)
            obtain ⟨v92, c93⟩ : ∃ v, I83 a0 17 = v := ⟨_, rfl⟩
            rw [c93] at p90
            exact tr_iret hZ dX10_cheese_117 rfl (by decide) (by decide) ⟨v88, rfl, rfl, rfl, rfl, rfl, hS91, (SkQ.st rp23 hW0 ta0 g86 (by decide +kernel) (by decide +kernel)), trivial⟩
          · skip
            by_cases h94 : x2.toInt = 4
            · skip
              refine tr_tabIn (off := 98) 118 dX10_cheese_20 (by omega) (by omega) (by rw [h94]; decide +kernel) (by decide) ?_
              refine tr_aload_n dX10_cheese_118 rfl ?_
              refine tr_aload_n dX10_cheese_119 rfl ?_
              obtain ⟨a95, d96, ta95⟩ := rf13_5 hW0 ta22
              refine tr_getR dX10_cheese_120 fl10_210 (kR13 hS24.1 ta22) ((hS24.rcell ta22 (by decide +kernel)).trans d96) ?_
              refine tr_iload_n dX10_cheese_123 rfl ?_
              refine q_iald dX10_cheese_124 (kR46 hS24.1 ta95) (ti_in (nR46 hS24.1 ta95) (by omega) (by omega)) ?_
              intro v97 c98
              refine q_callVi hE (M' := mX10_answered) (as := [_]) dX10_cheese_125 lk10_109 inX10_answered seX10_answered myX10_answered (by decide) ⟨by decide, by decide⟩ rfl (kR1 hS24.1 ta0) (Nat.le_of_ble_eq_true rfl) rfl rfl (by decide) (by decide) (fk_X10_answered hS24.1  ta0) ?_
              rintro v104 cn' K' N' I99 R100 L101 ⟨rfl, rfl, rfl, rfl, rfl, g102, p105, p106, -⟩
              have hS107 := hS24.tr g102 (by decide +kernel) (by decide +kernel)
              obtain ⟨v108, c109⟩ : ∃ v, I99 a0 17 = v := ⟨_, rfl⟩
              rw [c109] at p106
              exact tr_iret hZ dX10_cheese_128 rfl (by decide) (by decide) ⟨v104, rfl, rfl, rfl, rfl, rfl, hS107, (SkQ.st rp23 hW0 ta0 g102 (by decide +kernel) (by decide +kernel)), trivial⟩
            · skip
              by_cases h110 : x2.toInt = 5
              · skip
                refine tr_tabIn (off := 109) 129 dX10_cheese_20 (by omega) (by omega) (by rw [h110]; decide +kernel) (by decide) ?_
                refine tr_aload_n dX10_cheese_129 rfl ?_
                refine tr_aload_n dX10_cheese_130 rfl ?_
                obtain ⟨a111, d112, ta111⟩ := rf13_7 hW0 ta22
                refine tr_getR dX10_cheese_131 fl10_216 (kR13 hS24.1 ta22) ((hS24.rcell ta22 (by decide +kernel)).trans d112) ?_
                refine tr_iload_n dX10_cheese_134 rfl ?_
                refine q_iald dX10_cheese_135 (kR48 hS24.1 ta111) (ti_in (nR48 hS24.1 ta111) (by omega) (by omega)) ?_
                intro v113 c114
                refine q_callVi hE (M' := mX10_answered) (as := [_]) dX10_cheese_136 lk10_109 inX10_answered seX10_answered myX10_answered (by decide) ⟨by decide, by decide⟩ rfl (kR1 hS24.1 ta0) (Nat.le_of_ble_eq_true rfl) rfl rfl (by decide) (by decide) (fk_X10_answered hS24.1  ta0) ?_
                rintro v120 cn' K' N' I115 R116 L117 ⟨rfl, rfl, rfl, rfl, rfl, g118, p121, p122, -⟩
                have hS123 := hS24.tr g118 (by decide +kernel) (by decide +kernel)
                obtain ⟨v124, c125⟩ : ∃ v, I115 a0 17 = v := ⟨_, rfl⟩
                rw [c125] at p122
                exact tr_iret hZ dX10_cheese_139 rfl (by decide) (by decide) ⟨v120, rfl, rfl, rfl, rfl, rfl, hS123, (SkQ.st rp23 hW0 ta0 g118 (by decide +kernel) (by decide +kernel)), trivial⟩
              · skip
                by_cases h126 : x2.toInt = 6
                · skip
                  refine tr_tabIn (off := 120) 140 dX10_cheese_20 (by omega) (by omega) (by rw [h126]; decide +kernel) (by decide) ?_
                  refine tr_aload_n dX10_cheese_140 rfl ?_
                  refine tr_aload_n dX10_cheese_141 rfl ?_
                  refine tr_iload_n dX10_cheese_142 rfl ?_
                  refine q_callVi hE (M' := mX5_price) (as := [_]) dX10_cheese_143 lk10_219 inX5_price seX5_price myX5_price (by decide) ⟨by decide, by decide⟩ rfl (kR13 hS24.1 ta22) (Nat.le_of_ble_eq_true rfl) rfl rfl (by decide) (by decide) (k_X5_price hS24.1 ta22 (by omega)) ?_
                  rintro v131 cn' K' N' I127 R128 L129 ⟨rfl, rfl, rfl, rfl, rfl, rfl, -⟩
                  refine q_callVi hE (M' := mX10_answered) (as := [_]) dX10_cheese_146 lk10_109 inX10_answered seX10_answered myX10_answered (by decide) ⟨by decide, by decide⟩ rfl (kR1 hS24.1 ta0) (Nat.le_of_ble_eq_true rfl) rfl rfl (by decide) (by decide) (fk_X10_answered hS24.1  ta0) ?_
                  rintro v137 cn' K' N' I132 R133 L134 ⟨rfl, rfl, rfl, rfl, rfl, g135, p138, p139, -⟩
                  have hS140 := hS24.tr g135 (by decide +kernel) (by decide +kernel)
                  obtain ⟨v141, c142⟩ : ∃ v, I132 a0 17 = v := ⟨_, rfl⟩
                  rw [c142] at p139
                  exact tr_iret hZ dX10_cheese_149 rfl (by decide) (by decide) ⟨v137, rfl, rfl, rfl, rfl, rfl, hS140, (SkQ.st rp23 hW0 ta0 g135 (by decide +kernel) (by decide +kernel)), trivial⟩
                · skip
                  refine tr_tabOut 150 dX10_cheese_20 (by omega) (by decide) ?_
                  refine tr_aload_n dX10_cheese_150 rfl ?_
                  refine q_iconst dX10_cheese_151 (by decide) ?_
                  intro v143 h144
                  refine q_callVi hE (M' := mX10_refused) (as := [_]) dX10_cheese_152 lk10_79 inX10_refused seX10_refused myX10_refused (by decide) ⟨by decide, by decide⟩ rfl (kR1 hS24.1 ta0) (Nat.le_of_ble_eq_true rfl) rfl rfl (by decide) (by decide) (fk_X10_refused hS24.1  ta0) ?_
                  rintro v150 cn' K' N' I145 R146 L147 ⟨rfl, rfl, rfl, rfl, rfl, g148, p151, p152, -⟩
                  have hS153 := hS24.tr g148 (by decide +kernel) (by decide +kernel)
                  obtain ⟨v154, c155⟩ : ∃ v, I145 a0 17 = v := ⟨_, rfl⟩
                  rw [c155] at p152
                  exact tr_iret hZ dX10_cheese_155 rfl (by decide) (by decide) ⟨v150, rfl, rfl, rfl, rfl, rfl, hS153, (SkQ.st rp23 hW0 ta0 g148 (by decide +kernel) (by decide +kernel)), trivial⟩
  · skip
    refine tr_aload_n dX10_cheese_8 rfl ?_
    refine q_iconst dX10_cheese_9 (by decide) ?_
    intro v156 h157
    refine q_callVi hE (M' := mX10_refused) (as := [_]) dX10_cheese_10 lk10_79 inX10_refused seX10_refused myX10_refused (by decide) ⟨by decide, by decide⟩ rfl (kR1 hS0.1 ta0) (Nat.le_of_ble_eq_true rfl) rfl rfl (by decide) (by decide) (fk_X10_refused hS0.1  ta0) ?_
    rintro v163 cn' K' N' I158 R159 L160 ⟨rfl, rfl, rfl, rfl, rfl, g161, p164, p165, -⟩
    have hS166 := hS0.tr g161 (by decide +kernel) (by decide +kernel)
    obtain ⟨v167, c168⟩ : ∃ v, I158 a0 17 = v := ⟨_, rfl⟩
    rw [c168] at p165
    exact tr_iret hZ dX10_cheese_13 rfl (by decide) (by decide) ⟨v163, rfl, rfl, rfl, rfl, rfl, hS166, (SkQ.st hK hW0 ta0 g161 (by decide +kernel) (by decide +kernel)), trivial⟩
def wik_X10_vein : List Nat := [73, 75, 81, 768, 769, 778, 834, 2303, 2367, 2431, 2495, 2559, 2623, 2687, 2751, 2815, 2879, 2943, 3007, 3071, 3135, 3199, 3263, 3327, 3391]
def wrk_X10_vein : List Nat := [832, 833]
set_option maxHeartbeats 4000000 in
theorem fk_X10_vein {l : Launch} {T : Nat → Nat} {cn : Nat} {K N : Nat → Nat} {I0 : cz_I} {R0 : cz_R} {L0 : cz_L} {d : Int} (hW0 : Wf T cn K N I0 R0 d) (gX : Nat → Nat → Int) {a0 : Nat} (ta0 : T a0 = 1) {x1 : Int32} {x2 : Int32} (hX : EvQ I0 R0 a0 gX) (hK : SkQ I0 R0 a0 gX) (hD : DjS R0 a0) : ConE l mX10_vein [.ref a0, .int x1, .int x2] cn K N I0 R0 L0 (ca_i (fun v cn' K' N' I' R' L' => cn = cn' ∧ K = K' ∧ N = N' ∧ L0 = L' ∧ St T cn K N d wik_X10_vein wrk_X10_vein I0 R0 I' R' ∧ (SkQ I' R0 a0 gX) ∧ True)) := by
  refine ConE.of (by decide +kernel) rfl (Nat.le_of_ble_eq_true rfl) rfl (fun X hX hZ hE => ?_)
  subst hX
  have hS0 : St T cn K N d wik_X10_vein wrk_X10_vein I0 R0 I0 R0 := St.rf0 hW0
  obtain ⟨a1, d2, ta1⟩ := rf1_2 hW0 ta0
  obtain ⟨a3, d4, ta3⟩ := rf1_6 hW0 ta0
  obtain ⟨a5, d6, ta5⟩ := rf1_8 hW0 ta0
  obtain ⟨a7, d8, ta7⟩ := rf1_13 hW0 ta0
  refine tr_aload_n dX10_vein_0 rfl ?_
  refine tr_iload_n dX10_vein_1 rfl ?_
  refine tr_iload_n dX10_vein_2 rfl ?_
  refine q_callVi hE (M' := mX10_veinMinute) (as := [_, _]) dX10_vein_3 lk10_222 inX10_veinMinute seX10_veinMinute myX10_veinMinute (by decide) ⟨by decide, by decide⟩ rfl (kR1 hS0.1 ta0) (Nat.le_of_ble_eq_true rfl) rfl rfl (by decide) (by decide) (fk_X10_veinMinute hS0.1 (gX) ta0 hX hK hD) ?_
  rintro v14 cn' K' N' I9 R10 L11 ⟨rfl, rfl, rfl, rfl, g12, rp15, -⟩
  have hS16 := hS0.tr g12 (by decide +kernel) (by decide +kernel)
  refine tr_istore_n dX10_vein_6 (by decide) (by decide) ?_
  refine tr_iload_n dX10_vein_7 rfl ?_
  refine q_iconst dX10_vein_8 (by decide) ?_
  intro v17 h18
  refine q_icmp_ne 20 dX10_vein_9 (by decide) (fun h19 => ?_) (fun h19 => ?_)
  · skip
    refine tr_aload_n dX10_vein_20 rfl ?_
    refine tr_iload_n dX10_vein_21 rfl ?_
    refine q_callVi hE (M' := mX10_answered) (as := [_]) dX10_vein_22 lk10_109 inX10_answered seX10_answered myX10_answered (by decide) ⟨by decide, by decide⟩ rfl (kR1 hS16.1 ta0) (Nat.le_of_ble_eq_true rfl) rfl rfl (by decide) (by decide) (fk_X10_answered hS16.1  ta0) ?_
    rintro v25 cn' K' N' I20 R21 L22 ⟨rfl, rfl, rfl, rfl, rfl, g23, p26, p27, -⟩
    have hS28 := hS16.tr g23 (by decide +kernel) (by decide +kernel)
    obtain ⟨v29, c30⟩ : ∃ v, I20 a0 17 = v := ⟨_, rfl⟩
    rw [c30] at p27
    exact tr_iret hZ dX10_vein_25 rfl (by decide) (by decide) ⟨v25, rfl, rfl, rfl, rfl, rfl, hS28, (SkQ.st rp15 hW0 ta0 g23 (by decide +kernel) (by decide +kernel)), trivial⟩
  · skip
    refine tr_aload_n dX10_vein_12 rfl ?_
    refine q_iconst dX10_vein_13 (by decide) ?_
    intro v31 h32
    refine q_callVi hE (M' := mX10_refused) (as := [_]) dX10_vein_14 lk10_79 inX10_refused seX10_refused myX10_refused (by decide) ⟨by decide, by decide⟩ rfl (kR1 hS16.1 ta0) (Nat.le_of_ble_eq_true rfl) rfl rfl (by decide) (by decide) (fk_X10_refused hS16.1  ta0) ?_
    rintro v38 cn' K' N' I33 R34 L35 ⟨rfl, rfl, rfl, rfl, rfl, g36, p39, p40, -⟩
    have hS41 := hS16.tr g36 (by decide +kernel) (by decide +kernel)
    obtain ⟨v42, c43⟩ : ∃ v, I33 a0 17 = v := ⟨_, rfl⟩
    rw [c43] at p40
    refine tr_goto 25 dX10_vein_17 (by decide) ?_
    exact tr_iret hZ dX10_vein_25 rfl (by decide) (by decide) ⟨v38, rfl, rfl, rfl, rfl, rfl, hS41, (SkQ.st rp15 hW0 ta0 g36 (by decide +kernel) (by decide +kernel)), trivial⟩
def wik_X10_cause : List Nat := [73, 75, 81, 768, 769, 778, 834, 2303, 2367, 2431, 2495, 2559, 2623, 2687, 2751, 2815, 2879, 2943, 3007, 3071, 3135, 3199, 3263, 3327, 3391]
def wrk_X10_cause : List Nat := [832, 833]
set_option maxHeartbeats 4000000 in
theorem fk_X10_cause {l : Launch} {T : Nat → Nat} {cn : Nat} {K N : Nat → Nat} {I0 : cz_I} {R0 : cz_R} {L0 : cz_L} {d : Int} (hW0 : Wf T cn K N I0 R0 d) (gX : Nat → Nat → Int) {a0 : Nat} (ta0 : T a0 = 1) {x1 : Int32} {x2 : Int32} (hX : EvQ I0 R0 a0 gX) (hK : SkQ I0 R0 a0 gX) (hD : DjS R0 a0) : ConE l mX10_cause [.ref a0, .int x1, .int x2] cn K N I0 R0 L0 (ca_i (fun v cn' K' N' I' R' L' => cn = cn' ∧ K = K' ∧ N = N' ∧ L0 = L' ∧ St T cn K N d wik_X10_cause wrk_X10_cause I0 R0 I' R' ∧ (SkQ I' R0 a0 gX) ∧ True)) := by
  refine ConE.of (by decide +kernel) rfl (Nat.le_of_ble_eq_true rfl) rfl (fun X hX hZ hE => ?_)
  subst hX
  have hS0 : St T cn K N d wik_X10_cause wrk_X10_cause I0 R0 I0 R0 := St.rf0 hW0
  obtain ⟨a1, d2, ta1⟩ := rf1_2 hW0 ta0
  obtain ⟨a3, d4, ta3⟩ := rf1_6 hW0 ta0
  obtain ⟨a5, d6, ta5⟩ := rf1_8 hW0 ta0
  obtain ⟨a7, d8, ta7⟩ := rf1_13 hW0 ta0
  refine tr_aload_n dX10_cause_0 rfl ?_
  refine tr_iload_n dX10_cause_1 rfl ?_
  refine tr_iload_n dX10_cause_2 rfl ?_
  refine q_callVi hE (M' := mX10_veinMinute) (as := [_, _]) dX10_cause_3 lk10_222 inX10_veinMinute seX10_veinMinute myX10_veinMinute (by decide) ⟨by decide, by decide⟩ rfl (kR1 hS0.1 ta0) (Nat.le_of_ble_eq_true rfl) rfl rfl (by decide) (by decide) (fk_X10_veinMinute hS0.1 (gX) ta0 hX hK hD) ?_
  rintro v14 cn' K' N' I9 R10 L11 ⟨rfl, rfl, rfl, rfl, g12, rp15, -⟩
  have hS16 := hS0.tr g12 (by decide +kernel) (by decide +kernel)
  refine tr_istore_n dX10_cause_6 (by decide) (by decide) ?_
  refine tr_iload_n dX10_cause_7 rfl ?_
  refine q_iconst dX10_cause_8 (by decide) ?_
  intro v17 h18
  refine q_icmp_ne 18 dX10_cause_9 (by decide) (fun h19 => ?_) (fun h19 => ?_)
  · skip
    refine q_iconst dX10_cause_18 (by decide) ?_
    intro v20 h21
    refine tr_istore dX10_cause_19 (by decide) (by decide) ?_
    have lp33 : ∀ (fu : Nat) (ls : Nat → Option Value) (v22 : Int32) (I28 : cz_I) (R29 : cz_R), ls 0 = some (.ref a0) → ls 1 = some (.int x1) → ls 2 = some (.int x2) → ls 3 = some (.int v14) → ls 4 = some (.int v22) → St T cn K N d wik_X10_cause wrk_X10_cause I0 R0 I28 R29 → 0 ≤ v22.toInt → (SkQ I28 R0 a0 gX) → (-v22.toInt + 2147483647).toNat < fu → Tr X mX10_cause 21 ls [] cn K N I28 R29 L0 0 0 := by
      intro fu
      induction fu with
      | zero => intros; rename_i hz; exact absurd hz (Nat.not_lt_zero _)
      | succ fu ih33 =>
        intro ls v22 I28 R29 hl23 hl24 hl25 hl26 hl27 hS30 g31 rw32 hm33
        refine tr_iload dX10_cause_21 hl27 ?_
        refine tr_aload_n dX10_cause_23 hl23 ?_
        obtain ⟨v35, c36⟩ : ∃ v, I0 a1 3 = v := ⟨_, rfl⟩
        have b37 := iv2_3 hW0 ta1 c36
        obtain ⟨v38, c39⟩ : ∃ v, I0 a3 2 = v := ⟨_, rfl⟩
        have b40 := iv8_2 hW0 ta3 c39
        refine q_callVi hE (M' := mX10_eventCount) (as := []) dX10_cause_24 lk10_225 inX10_eventCount seX10_eventCount myX10_eventCount (by decide) ⟨by decide, by decide⟩ rfl (kR1 hS30.1 ta0) (Nat.le_of_ble_eq_true rfl) rfl rfl (by decide) (by decide) (k_X10_eventCount hS30.1 ta0) ?_
        rintro v45 cn' K' N' I41 R42 L43 ⟨rfl, rfl, rfl, rfl, rfl, rfl, h46, p47, -⟩
        have p48 := p47 _ ((hS30.rcell ta0 (by decide +kernel)).trans d2) _ ((hS30.rcell ta0 (by decide +kernel)).trans d4)
        clear p47
        rw [((hS30.cell ta1 (by decide +kernel)).trans c36)] at p48
        rw [((hS30.cell ta3 (by decide +kernel)).trans c39)] at p48
        refine q_icmp_ge 63 dX10_cause_27 (by decide) (fun h49 => ?_) (fun h49 => ?_)
        · skip
          refine tr_aload_n dX10_cause_63 hl23 ?_
          refine q_bipush dX10_cause_64 (by decide +kernel) ?_
          intro v50 h51
          refine q_callVi hE (M' := mX10_answered) (as := [_]) dX10_cause_66 lk10_109 inX10_answered seX10_answered myX10_answered (by decide) ⟨by decide, by decide⟩ rfl (kR1 hS30.1 ta0) (Nat.le_of_ble_eq_true rfl) rfl rfl (by decide) (by decide) (fk_X10_answered hS30.1  ta0) ?_
          rintro v57 cn' K' N' I52 R53 L54 ⟨rfl, rfl, rfl, rfl, rfl, g55, p58, p59, -⟩
          have hS60 := hS30.tr g55 (by decide +kernel) (by decide +kernel)
          obtain ⟨v61, c62⟩ : ∃ v, I52 a0 17 = v := ⟨_, rfl⟩
          rw [c62] at p59
          exact tr_iret hZ dX10_cause_69 rfl (by decide) (by decide) ⟨v57, rfl, rfl, rfl, rfl, rfl, hS60, (SkQ.st rw32 hW0 ta0 g55 (by decide +kernel) (by decide +kernel)), trivial⟩
        · skip
          refine tr_aload_n dX10_cause_30 hl23 ?_
          refine tr_iload dX10_cause_31 hl27 ?_
          refine q_callVi hE (M' := mX10_eventFrom) (as := [_]) dX10_cause_33 lk10_228 inX10_eventFrom seX10_eventFrom myX10_eventFrom (by decide) ⟨by decide, by decide⟩ rfl (kR1 hS30.1 ta0) (Nat.le_of_ble_eq_true rfl) rfl rfl (by decide) (by decide) (k_X10_eventFrom hS30.1 ta0 (by omega) (fun q0 z0 => fun q1 z1 => by obtain rfl := Option.some.inj ((((hS30.rcell ta0 (by decide +kernel)).trans d2)).symm.trans z0); obtain rfl := Option.some.inj ((((hS30.rcell ta0 (by decide +kernel)).trans d4)).symm.trans z1); (try rw [((hS30.cell ta1 (by decide +kernel)).trans c36)]); (try rw [((hS30.cell ta3 (by decide +kernel)).trans c39)]); (try omega))) ?_
          rintro v67 cn' K' N' I63 R64 L65 ⟨rfl, rfl, rfl, rfl, rfl, rfl, -⟩
          refine tr_iload_n dX10_cause_36 hl26 ?_
          refine q_icmp_eq 50 dX10_cause_37 (by decide) (fun h68 => ?_) (fun h68 => ?_)
          · skip
            refine tr_aload_n dX10_cause_50 hl23 ?_
            refine tr_iload dX10_cause_51 hl27 ?_
            refine q_callVi hE (M' := mX10_answered) (as := [_]) dX10_cause_53 lk10_109 inX10_answered seX10_answered myX10_answered (by decide) ⟨by decide, by decide⟩ rfl (kR1 hS30.1 ta0) (Nat.le_of_ble_eq_true rfl) rfl rfl (by decide) (by decide) (fk_X10_answered hS30.1  ta0) ?_
            rintro v74 cn' K' N' I69 R70 L71 ⟨rfl, rfl, rfl, rfl, rfl, g72, p75, p76, -⟩
            have hS77 := hS30.tr g72 (by decide +kernel) (by decide +kernel)
            obtain ⟨v78, c79⟩ : ∃ v, I69 a0 17 = v := ⟨_, rfl⟩
            rw [c79] at p76
            exact tr_iret hZ dX10_cause_56 rfl (by decide) (by decide) ⟨v74, rfl, rfl, rfl, rfl, rfl, hS77, (SkQ.st rw32 hW0 ta0 g72 (by decide +kernel) (by decide +kernel)), trivial⟩
          · skip
            refine tr_aload_n dX10_cause_40 hl23 ?_
            refine tr_iload dX10_cause_41 hl27 ?_
            refine q_callVi hE (M' := mX10_eventTo) (as := [_]) dX10_cause_43 lk10_231 inX10_eventTo seX10_eventTo myX10_eventTo (by decide) ⟨by decide, by decide⟩ rfl (kR1 hS30.1 ta0) (Nat.le_of_ble_eq_true rfl) rfl rfl (by decide) (by decide) (k_X10_eventTo hS30.1 ta0 (by omega) (fun q0 z0 => fun q1 z1 => by obtain rfl := Option.some.inj ((((hS30.rcell ta0 (by decide +kernel)).trans d2)).symm.trans z0); obtain rfl := Option.some.inj ((((hS30.rcell ta0 (by decide +kernel)).trans d4)).symm.trans z1); (try rw [((hS30.cell ta1 (by decide +kernel)).trans c36)]); (try rw [((hS30.cell ta3 (by decide +kernel)).trans c39)]); (try omega))) ?_
            rintro v84 cn' K' N' I80 R81 L82 ⟨rfl, rfl, rfl, rfl, rfl, rfl, -⟩
            refine tr_iload_n dX10_cause_46 hl26 ?_
            refine q_icmp_ne 57 dX10_cause_47 (by decide) (fun h85 => ?_) (fun h85 => ?_)
            · skip
              refine q_iincE dX10_cause_57 hl27 (by decide) (by decide) (by intros; omega) ?_
              intro v86 h87
              refine tr_goto 21 dX10_cause_60 (by decide) ?_
              exact ih33 _ v86 I28 R29 hl23 hl24 hl25 hl26 rfl hS30 (by omega) rw32 (by omega)
            · skip
              refine tr_aload_n dX10_cause_50 hl23 ?_
              refine tr_iload dX10_cause_51 hl27 ?_
              refine q_callVi hE (M' := mX10_answered) (as := [_]) dX10_cause_53 lk10_109 inX10_answered seX10_answered myX10_answered (by decide) ⟨by decide, by decide⟩ rfl (kR1 hS30.1 ta0) (Nat.le_of_ble_eq_true rfl) rfl rfl (by decide) (by decide) (fk_X10_answered hS30.1  ta0) ?_
              rintro v93 cn' K' N' I88 R89 L90 ⟨rfl, rfl, rfl, rfl, rfl, g91, p94, p95, -⟩
              have hS96 := hS30.tr g91 (by decide +kernel) (by decide +kernel)
              obtain ⟨v97, c98⟩ : ∃ v, I88 a0 17 = v := ⟨_, rfl⟩
              rw [c98] at p95
              exact tr_iret hZ dX10_cause_56 rfl (by decide) (by decide) ⟨v93, rfl, rfl, rfl, rfl, rfl, hS96, (SkQ.st rw32 hW0 ta0 g91 (by decide +kernel) (by decide +kernel)), trivial⟩
    exact lp33 _ _ v20 I9 R10 rfl rfl rfl rfl rfl hS16 (by omega) rp15 (Nat.lt_succ_self _)
  · skip
    refine tr_aload_n dX10_cause_12 rfl ?_
    refine q_iconst dX10_cause_13 (by decide) ?_
    intro v99 h100
    refine q_callVi hE (M' := mX10_refused) (as := [_]) dX10_cause_14 lk10_79 inX10_refused seX10_refused myX10_refused (by decide) ⟨by decide, by decide⟩ rfl (kR1 hS16.1 ta0) (Nat.le_of_ble_eq_true rfl) rfl rfl (by decide) (by decide) (fk_X10_refused hS16.1  ta0) ?_
    rintro v106 cn' K' N' I101 R102 L103 ⟨rfl, rfl, rfl, rfl, rfl, g104, p107, p108, -⟩
    have hS109 := hS16.tr g104 (by decide +kernel) (by decide +kernel)
    obtain ⟨v110, c111⟩ : ∃ v, I101 a0 17 = v := ⟨_, rfl⟩
    rw [c111] at p108
    exact tr_iret hZ dX10_cause_17 rfl (by decide) (by decide) ⟨v106, rfl, rfl, rfl, rfl, rfl, hS109, (SkQ.st rp15 hW0 ta0 g104 (by decide +kernel) (by decide +kernel)), trivial⟩
def wik_X10_total : List Nat := [73, 75, 81, 768, 769, 778, 834, 2303, 2367, 2431, 2495, 2559, 2623, 2687, 2751, 2815, 2879, 2943, 3007, 3071, 3135, 3199, 3263, 3327, 3391]
def wrk_X10_total : List Nat := [832, 833]
set_option maxHeartbeats 4000000 in
theorem fk_X10_total {l : Launch} {T : Nat → Nat} {cn : Nat} {K N : Nat → Nat} {I0 : cz_I} {R0 : cz_R} {L0 : cz_L} {d : Int} (hW0 : Wf T cn K N I0 R0 d) (gX : Nat → Nat → Int) {a0 : Nat} (ta0 : T a0 = 1) (hX : EvQ I0 R0 a0 gX) (hK : SkQ I0 R0 a0 gX) (hD : DjS R0 a0) : ConE l mX10_total [.ref a0] cn K N I0 R0 L0 (ca_i (fun v cn' K' N' I' R' L' => cn = cn' ∧ K = K' ∧ N = N' ∧ L0 = L' ∧ St T cn K N d wik_X10_total wrk_X10_total I0 R0 I' R' ∧ (SkQ I' R0 a0 gX) ∧ True)) := by
  refine ConE.of (by decide +kernel) rfl (Nat.le_of_ble_eq_true rfl) rfl (fun X hX hZ hE => ?_)
  subst hX
  have hS0 : St T cn K N d wik_X10_total wrk_X10_total I0 R0 I0 R0 := St.rf0 hW0
  obtain ⟨a1, d2, ta1⟩ := rf1_2 hW0 ta0
  obtain ⟨a3, d4, ta3⟩ := rf1_6 hW0 ta0
  obtain ⟨a5, d6, ta5⟩ := rf1_8 hW0 ta0
  obtain ⟨a7, d8, ta7⟩ := rf1_13 hW0 ta0
  refine tr_aload_n dX10_total_0 rfl ?_
  obtain ⟨v9, c10⟩ : ∃ v, I0 a0 5 = v := ⟨_, rfl⟩
  have b11 := iv1_5 hW0 ta0 c10
  refine q_getZ dX10_total_1 fl10_95 (kR1 hS0.1 ta0) c10 ?_
  refine q_if_eq 21 dX10_total_4 (by decide) (fun h12 => ?_) (fun h12 => ?_)
  · skip
    refine tr_aload_n dX10_total_21 rfl ?_
    refine q_iconst dX10_total_22 (by decide) ?_
    intro v13 h14
    refine q_callVi hE (M' := mX10_refusedTotal) (as := [_]) dX10_total_23 lk10_178 inX10_refusedTotal seX10_refusedTotal myX10_refusedTotal (by decide) ⟨by decide, by decide⟩ rfl (kR1 hS0.1 ta0) (Nat.le_of_ble_eq_true rfl) rfl rfl (by decide) (by decide) (k_X10_refusedTotal hS0.1 ta0) ?_
    rintro v19 cn' K' N' I15 R16 L17 ⟨rfl, rfl, rfl, rfl, rfl, g18, -⟩
    have hS20 := hS0.tr g18 (by decide +kernel) (by decide +kernel)
    exact tr_iret hZ dX10_total_26 rfl (by decide) (by decide) ⟨v19, rfl, rfl, rfl, rfl, rfl, hS20, (SkQ.st hK hW0 ta0 g18 (by decide +kernel) (by decide +kernel)), trivial⟩
  · skip
    refine tr_aload_n dX10_total_7 rfl ?_
    refine tr_aload_n dX10_total_8 rfl ?_
    refine q_callVr hE (M' := mX10_presentNight) (as := []) dX10_total_9 lk10_155 inX10_presentNight seX10_presentNight myX10_presentNight (by decide) ⟨by decide, by decide⟩ rfl (kR1 hS0.1 ta0) (Nat.le_of_ble_eq_true rfl) rfl rfl (by decide) (by decide) (fk_X10_presentNight hS0.1 (gX) ta0 hX hK hD) ?_
    rintro a26 cn' K' N' I21 R22 L23 ⟨rfl, rfl, rfl, rfl, g24, ta26, rp27, -⟩
    have hS28 := hS0.tr g24 (by decide +kernel) (by decide +kernel)
    refine q_callVi hE (M' := mX5_sum) (as := []) dX10_total_12 lk10_192 inX5_sum seX5_sum myX5_sum (by decide) ⟨by decide, by decide⟩ rfl (kR13 hS28.1 ta26) (Nat.le_of_ble_eq_true rfl) rfl rfl (by decide) (by decide) (k_X5_sum hS28.1 ta26) ?_
    rintro v33 cn' K' N' I29 R30 L31 ⟨rfl, rfl, rfl, rfl, rfl, rfl, -⟩
    refine q_callVi hE (M' := mX10_answered) (as := [_]) dX10_total_15 lk10_109 inX10_answered seX10_answered myX10_answered (by decide) ⟨by decide, by decide⟩ rfl (kR1 hS28.1 ta0) (Nat.le_of_ble_eq_true rfl) rfl rfl (by decide) (by decide) (fk_X10_answered hS28.1  ta0) ?_
    rintro v39 cn' K' N' I34 R35 L36 ⟨rfl, rfl, rfl, rfl, rfl, g37, p40, p41, -⟩
    have hS42 := hS28.tr g37 (by decide +kernel) (by decide +kernel)
    obtain ⟨v43, c44⟩ : ∃ v, I34 a0 17 = v := ⟨_, rfl⟩
    rw [c44] at p41
    refine tr_goto 26 dX10_total_18 (by decide) ?_
    exact tr_iret hZ dX10_total_26 rfl (by decide) (by decide) ⟨v39, rfl, rfl, rfl, rfl, rfl, hS42, (SkQ.st rp27 hW0 ta0 g37 (by decide +kernel) (by decide +kernel)), trivial⟩
