def wik_X10_without : List Nat := [73, 75, 81, 768, 769, 778, 834, 2303, 2367, 2431, 2495, 2559, 2623, 2687, 2751, 2815, 2879, 2943, 3007, 3071, 3135, 3199, 3263, 3327, 3391]
def wrk_X10_without : List Nat := [832, 833]
set_option maxHeartbeats 4000000 in
theorem fk_X10_without {l : Launch} {T : Nat → Nat} {cn : Nat} {K N : Nat → Nat} {I0 : cz_I} {R0 : cz_R} {L0 : cz_L} {d : Int} (hW0 : Wf T cn K N I0 R0 d) (gX : Nat → Nat → Int) {a0 : Nat} (ta0 : T a0 = 1) {x1 : Int32} (hX : EvQ I0 R0 a0 gX) (hK : SkQ I0 R0 a0 gX) (hD : DjS R0 a0) : ConE l mX10_without [.ref a0, .int x1] cn K N I0 R0 L0 (ca_i (fun v cn' K' N' I' R' L' => cn = cn' ∧ K = K' ∧ N = N' ∧ L0 = L' ∧ St T cn K N d wik_X10_without wrk_X10_without I0 R0 I' R' ∧ (SkQ I' R0 a0 gX) ∧ True)) := by
  refine ConE.of (by decide +kernel) rfl (Nat.le_of_ble_eq_true rfl) rfl (fun X hX hZ hE => ?_)
  subst hX
  have hS0 : St T cn K N d wik_X10_without wrk_X10_without I0 R0 I0 R0 := St.rf0 hW0
  obtain ⟨a1, d2, ta1⟩ := rf1_2 hW0 ta0
  obtain ⟨a3, d4, ta3⟩ := rf1_6 hW0 ta0
  obtain ⟨a5, d6, ta5⟩ := rf1_8 hW0 ta0
  obtain ⟨a7, d8, ta7⟩ := rf1_13 hW0 ta0
  refine tr_aload_n dX10_without_0 rfl ?_
  refine tr_iload_n dX10_without_1 rfl ?_
  obtain ⟨v9, c10⟩ : ∃ v, I0 a1 3 = v := ⟨_, rfl⟩
  have b11 := iv2_3 hW0 ta1 c10
  obtain ⟨v12, c13⟩ : ∃ v, I0 a3 2 = v := ⟨_, rfl⟩
  have b14 := iv8_2 hW0 ta3 c13
  refine q_callVi hE (M' := mX10_isEvent) (as := [_]) dX10_without_2 lk10_234 inX10_isEvent seX10_isEvent myX10_isEvent (by decide) ⟨by decide, by decide⟩ rfl (kR1 hS0.1 ta0) (Nat.le_of_ble_eq_true rfl) rfl rfl (by decide) (by decide) (k_X10_isEvent hS0.1 ta0) ?_
  rintro v19 cn' K' N' I15 R16 L17 ⟨rfl, rfl, rfl, rfl, rfl, rfl, h20, p21, -⟩
  have p22 := p21 _ d2 _ d4
  clear p21
  rw [c10] at p22
  rw [c13] at p22
  refine q_if_ne 14 dX10_without_5 (by decide) (fun h23 => ?_) (fun h23 => ?_)
  · skip
    refine tr_aload_n dX10_without_14 rfl ?_
    refine tr_getR dX10_without_15 fl10_65 (kR1 hS0.1 ta0) d8 ?_
    refine tr_aload_n dX10_without_18 rfl ?_
    refine tr_getR dX10_without_19 fl10_16 (kR1 hS0.1 ta0) d2 ?_
    refine tr_aload_n dX10_without_22 rfl ?_
    refine tr_getR dX10_without_23 fl10_35 (kR1 hS0.1 ta0) d4 ?_
    refine tr_iload_n dX10_without_26 rfl ?_
    refine q_callVv hE (M' := mX8_build) (as := [_, _, _]) dX10_without_27 lk10_237 inX8_build seX8_build myX8_build (by decide) ⟨by decide, by decide⟩ rfl (kR12 hS0.1 ta7) (Nat.le_of_ble_eq_true rfl) rfl rfl (by decide) (by decide) (fk_X8_build hS0.1 (gX) ta7 ta1 ta3 (hX _ _ d2 d4)) ?_
    rintro cn' K' N' I24 R25 L26 ⟨rfl, rfl, rfl, rfl, rfl, g27, rp30, rp31, -⟩
    have hS32 := hS0.tr g27 (by decide +kernel) (by decide +kernel)
    refine tr_aload_n dX10_without_30 rfl ?_
    obtain ⟨a33, d34, ta33⟩ := rf1_14 hW0 ta0
    refine tr_getR dX10_without_31 fl10_68 (kR1 hS32.1 ta0) d34 ?_
    refine tr_aload_n dX10_without_34 rfl ?_
    refine tr_getR dX10_without_35 fl10_16 (kR1 hS32.1 ta0) d2 ?_
    refine tr_aload_n dX10_without_38 rfl ?_
    refine tr_getR dX10_without_39 fl10_65 (kR1 hS32.1 ta0) d8 ?_
    refine tr_aload_n dX10_without_42 rfl ?_
    refine tr_getR dX10_without_43 fl10_35 (kR1 hS32.1 ta0) d4 ?_
    obtain ⟨v35, c36⟩ : ∃ v, I0 a3 0 = v := ⟨_, rfl⟩
    refine q_getI dX10_without_46 fl10_181 (kR8 hS32.1 ta3) ((hS32.cell ta3 (by decide +kernel)).trans c36) ?_
    refine tr_aload_n dX10_without_49 rfl ?_
    refine q_callVi hE (M' := mX10_allTurners) (as := []) dX10_without_50 lk10_184 inX10_allTurners seX10_allTurners myX10_allTurners (by decide) ⟨by decide, by decide⟩ rfl (kR1 hS32.1 ta0) (Nat.le_of_ble_eq_true rfl) rfl rfl (by decide) (by decide) (k_X10_allTurners hS32.1 ta0) ?_
    rintro v41 cn' K' N' I37 R38 L39 ⟨rfl, rfl, rfl, rfl, rfl, rfl, h42, -⟩
    refine q_callVv hE (M' := mX5_play) (as := [_, _, _, _]) dX10_without_53 lk10_188 inX5_play seX5_play myX5_play (by decide) ⟨by decide, by decide⟩ rfl (kR13 hS32.1 ta33) (Nat.le_of_ble_eq_true rfl) rfl rfl (by decide) (by decide) (k_X5_play hS32.1 ta33 ta1 ta7) ?_
    rintro cn' K' N' I43 R44 L45 ⟨rfl, rfl, rfl, rfl, g46, -⟩
    have hS48 := hS32.tr g46 (by decide +kernel) (by decide +kernel)
    refine tr_aload_n dX10_without_56 rfl ?_
    refine tr_aload_n dX10_without_57 rfl ?_
    refine tr_getR dX10_without_58 fl10_68 (kR1 hS48.1 ta0) ((hS48.rcell ta0 (by decide +kernel)).trans d34) ?_
    refine q_callVi hE (M' := mX5_sum) (as := []) dX10_without_61 lk10_192 inX5_sum seX5_sum myX5_sum (by decide) ⟨by decide, by decide⟩ rfl (kR13 hS48.1 ta33) (Nat.le_of_ble_eq_true rfl) rfl rfl (by decide) (by decide) (k_X5_sum hS48.1 ta33) ?_
    rintro v53 cn' K' N' I49 R50 L51 ⟨rfl, rfl, rfl, rfl, rfl, rfl, -⟩
    refine tr_aload_n dX10_without_64 rfl ?_
    refine q_callVr hE (M' := mX10_presentNight) (as := []) dX10_without_65 lk10_155 inX10_presentNight seX10_presentNight myX10_presentNight (by decide) ⟨by decide, by decide⟩ rfl (kR1 hS48.1 ta0) (Nat.le_of_ble_eq_true rfl) rfl rfl (by decide) (by decide) (fk_X10_presentNight hS48.1 (gX) ta0 (EvQ.rc (EvQ.st hX hW0 ta0 hS48 (by decide +kernel)) hW0 ta0 (R13 hS48 (by decide +kernel))) (SkQ.rc (SkQ.st (SkQ.fs hK hW0 ta0 g27 hD d8 rp31 (by decide +kernel) (by decide +kernel)) hW0 ta0 g46 (by decide +kernel) (by decide +kernel)) hW0 ta0 (R13 hS48 (by decide +kernel))) (DjS.rc hD hW0 ta0 (R13 hS48 (by decide +kernel)))) ?_
    rintro a59 cn' K' N' I54 R55 L56 ⟨rfl, rfl, rfl, rfl, g57, ta59, rp60, -⟩
    have hS61 := hS48.tr g57 (by decide +kernel) (by decide +kernel)
    refine q_callVi hE (M' := mX5_sum) (as := []) dX10_without_68 lk10_192 inX5_sum seX5_sum myX5_sum (by decide) ⟨by decide, by decide⟩ rfl (kR13 hS61.1 ta59) (Nat.le_of_ble_eq_true rfl) rfl rfl (by decide) (by decide) (k_X5_sum hS61.1 ta59) ?_
    rintro v66 cn' K' N' I62 R63 L64 ⟨rfl, rfl, rfl, rfl, rfl, rfl, -⟩
    refine q_isub dX10_without_71 ?_
    intro v67
    refine q_callVi hE (M' := mX10_answered) (as := [_]) dX10_without_72 lk10_109 inX10_answered seX10_answered myX10_answered (by decide) ⟨by decide, by decide⟩ rfl (kR1 hS61.1 ta0) (Nat.le_of_ble_eq_true rfl) rfl rfl (by decide) (by decide) (fk_X10_answered hS61.1  ta0) ?_
    rintro v73 cn' K' N' I68 R69 L70 ⟨rfl, rfl, rfl, rfl, rfl, g71, p74, p75, -⟩
    have hS76 := hS61.tr g71 (by decide +kernel) (by decide +kernel)
    obtain ⟨v77, c78⟩ : ∃ v, I68 a0 17 = v := ⟨_, rfl⟩
    rw [c78] at p75
    exact tr_iret hZ dX10_without_75 rfl (by decide) (by decide) ⟨v73, rfl, rfl, rfl, rfl, rfl, hS76, (SkQ.st (SkQ.rc rp60 hS48.1 ta0 (fun a j q => (R13 hS48 (by decide +kernel) a j q).symm)) hW0 ta0 g71 (by decide +kernel) (by decide +kernel)), trivial⟩
  · skip
    refine tr_aload_n dX10_without_8 rfl ?_
    refine q_iconst dX10_without_9 (by decide) ?_
    intro v79 h80
    refine q_callVi hE (M' := mX10_refusedTotal) (as := [_]) dX10_without_10 lk10_178 inX10_refusedTotal seX10_refusedTotal myX10_refusedTotal (by decide) ⟨by decide, by decide⟩ rfl (kR1 hS0.1 ta0) (Nat.le_of_ble_eq_true rfl) rfl rfl (by decide) (by decide) (k_X10_refusedTotal hS0.1 ta0) ?_
    rintro v85 cn' K' N' I81 R82 L83 ⟨rfl, rfl, rfl, rfl, rfl, g84, -⟩
    have hS86 := hS0.tr g84 (by decide +kernel) (by decide +kernel)
    exact tr_iret hZ dX10_without_13 rfl (by decide) (by decide) ⟨v85, rfl, rfl, rfl, rfl, rfl, hS86, (SkQ.st hK hW0 ta0 g84 (by decide +kernel) (by decide +kernel)), trivial⟩
def wik_X10_wake : List Nat := [73, 81, 768, 769, 778, 834, 2303, 2367, 2431, 2495, 2559, 2623, 2687, 2751, 2815, 2879, 2943, 3007, 3071, 3135, 3199, 3263, 3327, 3391]
def wrk_X10_wake : List Nat := [832, 833]
set_option maxHeartbeats 4000000 in
theorem fk_X10_wake {l : Launch} {T : Nat → Nat} {cn : Nat} {K N : Nat → Nat} {I0 : cz_I} {R0 : cz_R} {L0 : cz_L} {d : Int} (hW0 : Wf T cn K N I0 R0 d) (gX : Nat → Nat → Int) {a0 : Nat} (ta0 : T a0 = 1) (hX : EvQ I0 R0 a0 gX) (hK : SkQ I0 R0 a0 gX) (hD : DjS R0 a0) : ConE l mX10_wake [.ref a0] cn K N I0 R0 L0 (ca_i (fun v cn' K' N' I' R' L' => cn = cn' ∧ K = K' ∧ N = N' ∧ L0 = L' ∧ St T cn K N d wik_X10_wake wrk_X10_wake I0 R0 I' R' ∧ (SkQ I' R0 a0 gX) ∧ True)) := by
  refine ConE.of (by decide +kernel) rfl (Nat.le_of_ble_eq_true rfl) rfl (fun X hX hZ hE => ?_)
  subst hX
  have hS0 : St T cn K N d wik_X10_wake wrk_X10_wake I0 R0 I0 R0 := St.rf0 hW0
  obtain ⟨a1, d2, ta1⟩ := rf1_2 hW0 ta0
  obtain ⟨a3, d4, ta3⟩ := rf1_6 hW0 ta0
  obtain ⟨a5, d6, ta5⟩ := rf1_8 hW0 ta0
  obtain ⟨a7, d8, ta7⟩ := rf1_13 hW0 ta0
  refine tr_aload_n dX10_wake_0 rfl ?_
  obtain ⟨v9, c10⟩ : ∃ v, I0 a0 5 = v := ⟨_, rfl⟩
  have b11 := iv1_5 hW0 ta0 c10
  refine q_getZ dX10_wake_1 fl10_95 (kR1 hS0.1 ta0) c10 ?_
  refine q_if_eq 18 dX10_wake_4 (by decide) (fun h12 => ?_) (fun h12 => ?_)
  · skip
    refine tr_aload_n dX10_wake_18 rfl ?_
    refine q_iconst dX10_wake_19 (by decide) ?_
    intro v13 h14
    refine q_callVi hE (M' := mX10_refused) (as := [_]) dX10_wake_20 lk10_79 inX10_refused seX10_refused myX10_refused (by decide) ⟨by decide, by decide⟩ rfl (kR1 hS0.1 ta0) (Nat.le_of_ble_eq_true rfl) rfl rfl (by decide) (by decide) (fk_X10_refused hS0.1  ta0) ?_
    rintro v20 cn' K' N' I15 R16 L17 ⟨rfl, rfl, rfl, rfl, rfl, g18, p21, p22, -⟩
    have hS23 := hS0.tr g18 (by decide +kernel) (by decide +kernel)
    obtain ⟨v24, c25⟩ : ∃ v, I15 a0 17 = v := ⟨_, rfl⟩
    rw [c25] at p22
    exact tr_iret hZ dX10_wake_23 rfl (by decide) (by decide) ⟨v20, rfl, rfl, rfl, rfl, rfl, hS23, (SkQ.st hK hW0 ta0 g18 (by decide +kernel) (by decide +kernel)), trivial⟩
  · skip
    refine tr_aload_n dX10_wake_7 rfl ?_
    refine tr_aload_n dX10_wake_8 rfl ?_
    refine q_callVi hE (M' := mX10_bestCalls) (as := []) dX10_wake_9 lk10_241 inX10_bestCalls seX10_bestCalls myX10_bestCalls (by decide) ⟨by decide, by decide⟩ rfl (kR1 hS0.1 ta0) (Nat.le_of_ble_eq_true rfl) rfl rfl (by decide) (by decide) (fk_X10_bestCalls hS0.1 (gX) ta0 hX hK hD) ?_
    rintro v31 cn' K' N' I26 R27 L28 ⟨rfl, rfl, rfl, rfl, g29, rp32, -⟩
    have hS33 := hS0.tr g29 (by decide +kernel) (by decide +kernel)
    refine q_callVi hE (M' := mX10_answered) (as := [_]) dX10_wake_12 lk10_109 inX10_answered seX10_answered myX10_answered (by decide) ⟨by decide, by decide⟩ rfl (kR1 hS33.1 ta0) (Nat.le_of_ble_eq_true rfl) rfl rfl (by decide) (by decide) (fk_X10_answered hS33.1  ta0) ?_
    rintro v39 cn' K' N' I34 R35 L36 ⟨rfl, rfl, rfl, rfl, rfl, g37, p40, p41, -⟩
    have hS42 := hS33.tr g37 (by decide +kernel) (by decide +kernel)
    obtain ⟨v43, c44⟩ : ∃ v, I34 a0 17 = v := ⟨_, rfl⟩
    rw [c44] at p41
    refine tr_goto 23 dX10_wake_15 (by decide) ?_
    exact tr_iret hZ dX10_wake_23 rfl (by decide) (by decide) ⟨v39, rfl, rfl, rfl, rfl, rfl, hS42, (SkQ.st rp32 hW0 ta0 g37 (by decide +kernel) (by decide +kernel)), trivial⟩
def wik_X10_wakeTotal : List Nat := [73, 81, 768, 769, 778, 834, 2303, 2367, 2431, 2495, 2559, 2623, 2687, 2751, 2815, 2879, 2943, 3007, 3071, 3135, 3199, 3263, 3327, 3391]
def wrk_X10_wakeTotal : List Nat := [832, 833]
set_option maxHeartbeats 4000000 in
theorem fk_X10_wakeTotal {l : Launch} {T : Nat → Nat} {cn : Nat} {K N : Nat → Nat} {I0 : cz_I} {R0 : cz_R} {L0 : cz_L} {d : Int} (hW0 : Wf T cn K N I0 R0 d) (gX : Nat → Nat → Int) {a0 : Nat} (ta0 : T a0 = 1) (hX : EvQ I0 R0 a0 gX) (hK : SkQ I0 R0 a0 gX) (hD : DjS R0 a0) : ConE l mX10_wakeTotal [.ref a0] cn K N I0 R0 L0 (ca_i (fun v cn' K' N' I' R' L' => cn = cn' ∧ K = K' ∧ N = N' ∧ L0 = L' ∧ St T cn K N d wik_X10_wakeTotal wrk_X10_wakeTotal I0 R0 I' R' ∧ (SkQ I' R0 a0 gX) ∧ True)) := by
  refine ConE.of (by decide +kernel) rfl (Nat.le_of_ble_eq_true rfl) rfl (fun X hX hZ hE => ?_)
  subst hX
  have hS0 : St T cn K N d wik_X10_wakeTotal wrk_X10_wakeTotal I0 R0 I0 R0 := St.rf0 hW0
  obtain ⟨a1, d2, ta1⟩ := rf1_2 hW0 ta0
  obtain ⟨a3, d4, ta3⟩ := rf1_6 hW0 ta0
  obtain ⟨a5, d6, ta5⟩ := rf1_8 hW0 ta0
  obtain ⟨a7, d8, ta7⟩ := rf1_13 hW0 ta0
  refine tr_aload_n dX10_wakeTotal_0 rfl ?_
  obtain ⟨v9, c10⟩ : ∃ v, I0 a0 5 = v := ⟨_, rfl⟩
  have b11 := iv1_5 hW0 ta0 c10
  refine q_getZ dX10_wakeTotal_1 fl10_95 (kR1 hS0.1 ta0) c10 ?_
  refine q_if_ne 13 dX10_wakeTotal_4 (by decide) (fun h12 => ?_) (fun h12 => ?_)
  · skip
    refine tr_aload_n dX10_wakeTotal_13 rfl ?_
    obtain ⟨a13, d14, ta13⟩ := rf1_14 hW0 ta0
    refine tr_getR dX10_wakeTotal_14 fl10_68 (kR1 hS0.1 ta0) d14 ?_
    refine tr_aload_n dX10_wakeTotal_17 rfl ?_
    refine tr_getR dX10_wakeTotal_18 fl10_16 (kR1 hS0.1 ta0) d2 ?_
    refine tr_aload_n dX10_wakeTotal_21 rfl ?_
    refine q_callVr hE (M' := mX10_presentSky) (as := []) dX10_wakeTotal_22 lk10_119 inX10_presentSky seX10_presentSky myX10_presentSky (by decide) ⟨by decide, by decide⟩ rfl (kR1 hS0.1 ta0) (Nat.le_of_ble_eq_true rfl) rfl rfl (by decide) (by decide) (fk_X10_presentSky hS0.1 (gX) ta0 hX hK hD) ?_
    rintro a20 cn' K' N' I15 R16 L17 ⟨rfl, rfl, rfl, rfl, rfl, g18, ta20, p21, rp22, rp23, rp24, -⟩
    have hS25 := hS0.tr g18 (by decide +kernel) (by decide +kernel)
    obtain ⟨v26, c27⟩ : ∃ v, I15 a0 9 = v := ⟨_, rfl⟩
    have b28 := iv1_9 hS25.1 ta0 c27
    rw [c27] at p21
    refine tr_aload_n dX10_wakeTotal_25 rfl ?_
    refine q_callVi hE (M' := mX10_bestCalls) (as := []) dX10_wakeTotal_26 lk10_241 inX10_bestCalls seX10_bestCalls myX10_bestCalls (by decide) ⟨by decide, by decide⟩ rfl (kR1 hS25.1 ta0) (Nat.le_of_ble_eq_true rfl) rfl rfl (by decide) (by decide) (fk_X10_bestCalls hS25.1 (gX) ta0 (EvQ.st hX hW0 ta0 hS25 (by decide +kernel)) (SkQ.of rp23) hD) ?_
    rintro v34 cn' K' N' I29 R30 L31 ⟨rfl, rfl, rfl, rfl, g32, rp35, -⟩
    have hS36 := hS25.tr g32 (by decide +kernel) (by decide +kernel)
    refine tr_aload_n dX10_wakeTotal_29 rfl ?_
    refine q_callVi hE (M' := mX10_allTurners) (as := []) dX10_wakeTotal_30 lk10_184 inX10_allTurners seX10_allTurners myX10_allTurners (by decide) ⟨by decide, by decide⟩ rfl (kR1 hS36.1 ta0) (Nat.le_of_ble_eq_true rfl) rfl rfl (by decide) (by decide) (k_X10_allTurners hS36.1 ta0) ?_
    rintro v41 cn' K' N' I37 R38 L39 ⟨rfl, rfl, rfl, rfl, rfl, rfl, h42, -⟩
    refine q_callVv hE (M' := mX5_play) (as := [_, _, _, _]) dX10_wakeTotal_33 lk10_188 inX5_play seX5_play myX5_play (by decide) ⟨by decide, by decide⟩ rfl (kR13 hS36.1 ta13) (Nat.le_of_ble_eq_true rfl) rfl rfl (by decide) (by decide) (k_X5_play hS36.1 ta13 ta1 ta20) ?_
    rintro cn' K' N' I43 R44 L45 ⟨rfl, rfl, rfl, rfl, g46, -⟩
    have hS48 := hS36.tr g46 (by decide +kernel) (by decide +kernel)
    refine tr_aload_n dX10_wakeTotal_36 rfl ?_
    refine tr_aload_n dX10_wakeTotal_37 rfl ?_
    refine tr_getR dX10_wakeTotal_38 fl10_68 (kR1 hS48.1 ta0) ((hS48.rcell ta0 (by decide +kernel)).trans d14) ?_
    refine q_callVi hE (M' := mX5_sum) (as := []) dX10_wakeTotal_41 lk10_192 inX5_sum seX5_sum myX5_sum (by decide) ⟨by decide, by decide⟩ rfl (kR13 hS48.1 ta13) (Nat.le_of_ble_eq_true rfl) rfl rfl (by decide) (by decide) (k_X5_sum hS48.1 ta13) ?_
    rintro v53 cn' K' N' I49 R50 L51 ⟨rfl, rfl, rfl, rfl, rfl, rfl, -⟩
    refine q_callVi hE (M' := mX10_answered) (as := [_]) dX10_wakeTotal_44 lk10_109 inX10_answered seX10_answered myX10_answered (by decide) ⟨by decide, by decide⟩ rfl (kR1 hS48.1 ta0) (Nat.le_of_ble_eq_true rfl) rfl rfl (by decide) (by decide) (fk_X10_answered hS48.1  ta0) ?_
    rintro v59 cn' K' N' I54 R55 L56 ⟨rfl, rfl, rfl, rfl, rfl, g57, p60, p61, -⟩
    have hS62 := hS48.tr g57 (by decide +kernel) (by decide +kernel)
    obtain ⟨v63, c64⟩ : ∃ v, I54 a0 17 = v := ⟨_, rfl⟩
    rw [c64] at p61
    exact tr_iret hZ dX10_wakeTotal_47 rfl (by decide) (by decide) ⟨v59, rfl, rfl, rfl, rfl, rfl, hS62, (SkQ.st (SkQ.st rp35 hW0 ta0 g46 (by decide +kernel) (by decide +kernel)) hW0 ta0 g57 (by decide +kernel) (by decide +kernel)), trivial⟩
  · skip
    refine tr_aload_n dX10_wakeTotal_7 rfl ?_
    refine q_iconst dX10_wakeTotal_8 (by decide) ?_
    intro v65 h66
    refine q_callVi hE (M' := mX10_refusedTotal) (as := [_]) dX10_wakeTotal_9 lk10_178 inX10_refusedTotal seX10_refusedTotal myX10_refusedTotal (by decide) ⟨by decide, by decide⟩ rfl (kR1 hS0.1 ta0) (Nat.le_of_ble_eq_true rfl) rfl rfl (by decide) (by decide) (k_X10_refusedTotal hS0.1 ta0) ?_
    rintro v71 cn' K' N' I67 R68 L69 ⟨rfl, rfl, rfl, rfl, rfl, g70, -⟩
    have hS72 := hS0.tr g70 (by decide +kernel) (by decide +kernel)
    exact tr_iret hZ dX10_wakeTotal_12 rfl (by decide) (by decide) ⟨v71, rfl, rfl, rfl, rfl, rfl, hS72, (SkQ.st hK hW0 ta0 g70 (by decide +kernel) (by decide +kernel)), trivial⟩
def wik_X10_fewest : List Nat := [73, 75, 81, 768, 769, 778, 834, 2303, 2367, 2431, 2495, 2559, 2623, 2687, 2751, 2815, 2879, 2943, 3007, 3071, 3135, 3199, 3263, 3327, 3391]
def wrk_X10_fewest : List Nat := [832, 833]
set_option maxHeartbeats 4000000 in
theorem fk_X10_fewest {l : Launch} {T : Nat → Nat} {cn : Nat} {K N : Nat → Nat} {I0 : cz_I} {R0 : cz_R} {L0 : cz_L} {d : Int} (hW0 : Wf T cn K N I0 R0 d) (gX : Nat → Nat → Int) {a0 : Nat} (ta0 : T a0 = 1) (hX : EvQ I0 R0 a0 gX) (hK : SkQ I0 R0 a0 gX) (hD : DjS R0 a0) : ConE l mX10_fewest [.ref a0] cn K N I0 R0 L0 (ca_i (fun v cn' K' N' I' R' L' => cn = cn' ∧ K = K' ∧ N = N' ∧ L0 = L' ∧ St T cn K N d wik_X10_fewest wrk_X10_fewest I0 R0 I' R' ∧ (SkQ I' R0 a0 gX) ∧ True)) := by
  refine ConE.of (by decide +kernel) rfl (Nat.le_of_ble_eq_true rfl) rfl (fun X hX hZ hE => ?_)
  subst hX
  have hS0 : St T cn K N d wik_X10_fewest wrk_X10_fewest I0 R0 I0 R0 := St.rf0 hW0
  obtain ⟨a1, d2, ta1⟩ := rf1_2 hW0 ta0
  obtain ⟨a3, d4, ta3⟩ := rf1_6 hW0 ta0
  obtain ⟨a5, d6, ta5⟩ := rf1_8 hW0 ta0
  obtain ⟨a7, d8, ta7⟩ := rf1_13 hW0 ta0
  refine tr_aload_n dX10_fewest_0 rfl ?_
  obtain ⟨v9, c10⟩ : ∃ v, I0 a0 5 = v := ⟨_, rfl⟩
  have b11 := iv1_5 hW0 ta0 c10
  refine q_getZ dX10_fewest_1 fl10_95 (kR1 hS0.1 ta0) c10 ?_
  refine q_if_ne 13 dX10_fewest_4 (by decide) (fun h12 => ?_) (fun h12 => ?_)
  · skip
    refine tr_aload_n dX10_fewest_13 rfl ?_
    refine q_callVi hE (M' := mX10_fewestTurners) (as := []) dX10_fewest_14 lk10_244 inX10_fewestTurners seX10_fewestTurners myX10_fewestTurners (by decide) ⟨by decide, by decide⟩ rfl (kR1 hS0.1 ta0) (Nat.le_of_ble_eq_true rfl) rfl rfl (by decide) (by decide) (fk_X10_fewestTurners hS0.1 (gX) ta0 hX hK hD) ?_
    rintro v18 cn' K' N' I13 R14 L15 ⟨rfl, rfl, rfl, rfl, g16, rp19, -⟩
    have hS20 := hS0.tr g16 (by decide +kernel) (by decide +kernel)
    refine tr_istore_n dX10_fewest_17 (by decide) (by decide) ?_
    refine tr_aload_n dX10_fewest_18 rfl ?_
    refine tr_iload_n dX10_fewest_19 rfl ?_
    refine q_bipush dX10_fewest_20 (by decide +kernel) ?_
    intro v21 h22
    refine q_icmp_ne 30 dX10_fewest_22 (by decide) (fun h23 => ?_) (fun h23 => ?_)
    · skip
      refine tr_iload_n dX10_fewest_30 rfl ?_
      refine q_callSi hE (M' := mJ6_bitCount_0f7a4) (as := [_]) dX10_fewest_31 lk10_247 inJ6_bitCount_0f7a4 myJ6_bitCount_0f7a4 ⟨by decide, by decide⟩ rfl (Nat.le_of_ble_eq_true rfl) rfl rfl (by decide) (by decide) (k_J6_bitCount_0f7a4 hS20.1 ) ?_
      rintro v28 cn' K' N' I24 R25 L26 ⟨rfl, rfl, rfl, rfl, rfl, rfl, -⟩
      refine q_callVi hE (M' := mX10_answered) (as := [_]) dX10_fewest_34 lk10_109 inX10_answered seX10_answered myX10_answered (by decide) ⟨by decide, by decide⟩ rfl (kR1 hS20.1 ta0) (Nat.le_of_ble_eq_true rfl) rfl rfl (by decide) (by decide) (fk_X10_answered hS20.1  ta0) ?_
      rintro v34 cn' K' N' I29 R30 L31 ⟨rfl, rfl, rfl, rfl, rfl, g32, p35, p36, -⟩
      have hS37 := hS20.tr g32 (by decide +kernel) (by decide +kernel)
      obtain ⟨v38, c39⟩ : ∃ v, I29 a0 17 = v := ⟨_, rfl⟩
      rw [c39] at p36
      exact tr_iret hZ dX10_fewest_37 rfl (by decide) (by decide) ⟨v34, rfl, rfl, rfl, rfl, rfl, hS37, (SkQ.st rp19 hW0 ta0 g32 (by decide +kernel) (by decide +kernel)), trivial⟩
    · skip
      refine q_bipush dX10_fewest_25 (by decide +kernel) ?_
      intro v40 h41
      refine tr_goto 34 dX10_fewest_27 (by decide) ?_
      refine q_callVi hE (M' := mX10_answered) (as := [_]) dX10_fewest_34 lk10_109 inX10_answered seX10_answered myX10_answered (by decide) ⟨by decide, by decide⟩ rfl (kR1 hS20.1 ta0) (Nat.le_of_ble_eq_true rfl) rfl rfl (by decide) (by decide) (fk_X10_answered hS20.1  ta0) ?_
      rintro v47 cn' K' N' I42 R43 L44 ⟨rfl, rfl, rfl, rfl, rfl, g45, p48, p49, -⟩
      have hS50 := hS20.tr g45 (by decide +kernel) (by decide +kernel)
      obtain ⟨v51, c52⟩ : ∃ v, I42 a0 17 = v := ⟨_, rfl⟩
      rw [c52] at p49
      exact tr_iret hZ dX10_fewest_37 rfl (by decide) (by decide) ⟨v47, rfl, rfl, rfl, rfl, rfl, hS50, (SkQ.st rp19 hW0 ta0 g45 (by decide +kernel) (by decide +kernel)), trivial⟩
  · skip
    refine tr_aload_n dX10_fewest_7 rfl ?_
    refine q_iconst dX10_fewest_8 (by decide) ?_
    intro v53 h54
    refine q_callVi hE (M' := mX10_refused) (as := [_]) dX10_fewest_9 lk10_79 inX10_refused seX10_refused myX10_refused (by decide) ⟨by decide, by decide⟩ rfl (kR1 hS0.1 ta0) (Nat.le_of_ble_eq_true rfl) rfl rfl (by decide) (by decide) (fk_X10_refused hS0.1  ta0) ?_
    rintro v60 cn' K' N' I55 R56 L57 ⟨rfl, rfl, rfl, rfl, rfl, g58, p61, p62, -⟩
    have hS63 := hS0.tr g58 (by decide +kernel) (by decide +kernel)
    obtain ⟨v64, c65⟩ : ∃ v, I55 a0 17 = v := ⟨_, rfl⟩
    rw [c65] at p62
    exact tr_iret hZ dX10_fewest_12 rfl (by decide) (by decide) ⟨v60, rfl, rfl, rfl, rfl, rfl, hS63, (SkQ.st hK hW0 ta0 g58 (by decide +kernel) (by decide +kernel)), trivial⟩
def wik_X10_fewestBy : List Nat := [73, 75, 81, 768, 769, 778, 834, 2303, 2367, 2431, 2495, 2559, 2623, 2687, 2751, 2815, 2879, 2943, 3007, 3071, 3135, 3199, 3263, 3327, 3391]
def wrk_X10_fewestBy : List Nat := [832, 833]
set_option maxHeartbeats 4000000 in
theorem fk_X10_fewestBy {l : Launch} {T : Nat → Nat} {cn : Nat} {K N : Nat → Nat} {I0 : cz_I} {R0 : cz_R} {L0 : cz_L} {d : Int} (hW0 : Wf T cn K N I0 R0 d) (gX : Nat → Nat → Int) {a0 : Nat} (ta0 : T a0 = 1) (hX : EvQ I0 R0 a0 gX) (hK : SkQ I0 R0 a0 gX) (hD : DjS R0 a0) : ConE l mX10_fewestBy [.ref a0] cn K N I0 R0 L0 (ca_i (fun v cn' K' N' I' R' L' => cn = cn' ∧ K = K' ∧ N = N' ∧ L0 = L' ∧ St T cn K N d wik_X10_fewestBy wrk_X10_fewestBy I0 R0 I' R' ∧ (SkQ I' R0 a0 gX) ∧ True)) := by
  refine ConE.of (by decide +kernel) rfl (Nat.le_of_ble_eq_true rfl) rfl (fun X hX hZ hE => ?_)
  subst hX
  have hS0 : St T cn K N d wik_X10_fewestBy wrk_X10_fewestBy I0 R0 I0 R0 := St.rf0 hW0
  obtain ⟨a1, d2, ta1⟩ := rf1_2 hW0 ta0
  obtain ⟨a3, d4, ta3⟩ := rf1_6 hW0 ta0
  obtain ⟨a5, d6, ta5⟩ := rf1_8 hW0 ta0
  obtain ⟨a7, d8, ta7⟩ := rf1_13 hW0 ta0
  refine tr_aload_n dX10_fewestBy_0 rfl ?_
  obtain ⟨v9, c10⟩ : ∃ v, I0 a0 5 = v := ⟨_, rfl⟩
  have b11 := iv1_5 hW0 ta0 c10
  refine q_getZ dX10_fewestBy_1 fl10_95 (kR1 hS0.1 ta0) c10 ?_
  refine q_if_eq 18 dX10_fewestBy_4 (by decide) (fun h12 => ?_) (fun h12 => ?_)
  · skip
    refine tr_aload_n dX10_fewestBy_18 rfl ?_
    refine q_iconst dX10_fewestBy_19 (by decide) ?_
    intro v13 h14
    refine q_callVi hE (M' := mX10_refused) (as := [_]) dX10_fewestBy_20 lk10_79 inX10_refused seX10_refused myX10_refused (by decide) ⟨by decide, by decide⟩ rfl (kR1 hS0.1 ta0) (Nat.le_of_ble_eq_true rfl) rfl rfl (by decide) (by decide) (fk_X10_refused hS0.1  ta0) ?_
    rintro v20 cn' K' N' I15 R16 L17 ⟨rfl, rfl, rfl, rfl, rfl, g18, p21, p22, -⟩
    have hS23 := hS0.tr g18 (by decide +kernel) (by decide +kernel)
    obtain ⟨v24, c25⟩ : ∃ v, I15 a0 17 = v := ⟨_, rfl⟩
    rw [c25] at p22
    exact tr_iret hZ dX10_fewestBy_23 rfl (by decide) (by decide) ⟨v20, rfl, rfl, rfl, rfl, rfl, hS23, (SkQ.st hK hW0 ta0 g18 (by decide +kernel) (by decide +kernel)), trivial⟩
  · skip
    refine tr_aload_n dX10_fewestBy_7 rfl ?_
    refine tr_aload_n dX10_fewestBy_8 rfl ?_
    refine q_callVi hE (M' := mX10_fewestTurners) (as := []) dX10_fewestBy_9 lk10_244 inX10_fewestTurners seX10_fewestTurners myX10_fewestTurners (by decide) ⟨by decide, by decide⟩ rfl (kR1 hS0.1 ta0) (Nat.le_of_ble_eq_true rfl) rfl rfl (by decide) (by decide) (fk_X10_fewestTurners hS0.1 (gX) ta0 hX hK hD) ?_
    rintro v31 cn' K' N' I26 R27 L28 ⟨rfl, rfl, rfl, rfl, g29, rp32, -⟩
    have hS33 := hS0.tr g29 (by decide +kernel) (by decide +kernel)
    refine q_callVi hE (M' := mX10_answered) (as := [_]) dX10_fewestBy_12 lk10_109 inX10_answered seX10_answered myX10_answered (by decide) ⟨by decide, by decide⟩ rfl (kR1 hS33.1 ta0) (Nat.le_of_ble_eq_true rfl) rfl rfl (by decide) (by decide) (fk_X10_answered hS33.1  ta0) ?_
    rintro v39 cn' K' N' I34 R35 L36 ⟨rfl, rfl, rfl, rfl, rfl, g37, p40, p41, -⟩
    have hS42 := hS33.tr g37 (by decide +kernel) (by decide +kernel)
    obtain ⟨v43, c44⟩ : ∃ v, I34 a0 17 = v := ⟨_, rfl⟩
    rw [c44] at p41
    refine tr_goto 23 dX10_fewestBy_15 (by decide) ?_
    exact tr_iret hZ dX10_fewestBy_23 rfl (by decide) (by decide) ⟨v39, rfl, rfl, rfl, rfl, rfl, hS42, (SkQ.st rp32 hW0 ta0 g37 (by decide +kernel) (by decide +kernel)), trivial⟩
def wik_X10_fits : List Nat := [73, 75, 81, 768, 769, 778, 834, 2303, 2367, 2431, 2495, 2559, 2623, 2687, 2751, 2815, 2879, 2943, 3007, 3071, 3135, 3199, 3263, 3327, 3391]
def wrk_X10_fits : List Nat := [832, 833]
set_option maxHeartbeats 4000000 in
theorem fk_X10_fits {l : Launch} {T : Nat → Nat} {cn : Nat} {K N : Nat → Nat} {I0 : cz_I} {R0 : cz_R} {L0 : cz_L} {d : Int} (hW0 : Wf T cn K N I0 R0 d) (gX : Nat → Nat → Int) {a0 : Nat} (ta0 : T a0 = 1) {x1 : Int32} (hX : EvQ I0 R0 a0 gX) (hK : SkQ I0 R0 a0 gX) (hD : DjS R0 a0) : ConE l mX10_fits [.ref a0, .int x1] cn K N I0 R0 L0 (ca_i (fun v cn' K' N' I' R' L' => cn = cn' ∧ K = K' ∧ N = N' ∧ L0 = L' ∧ St T cn K N d wik_X10_fits wrk_X10_fits I0 R0 I' R' ∧ (SkQ I' R0 a0 gX) ∧ True)) := by
  refine ConE.of (by decide +kernel) rfl (Nat.le_of_ble_eq_true rfl) rfl (fun X hX hZ hE => ?_)
  subst hX
  have hS0 : St T cn K N d wik_X10_fits wrk_X10_fits I0 R0 I0 R0 := St.rf0 hW0
  obtain ⟨a1, d2, ta1⟩ := rf1_2 hW0 ta0
  obtain ⟨a3, d4, ta3⟩ := rf1_6 hW0 ta0
  obtain ⟨a5, d6, ta5⟩ := rf1_8 hW0 ta0
  obtain ⟨a7, d8, ta7⟩ := rf1_13 hW0 ta0
  refine tr_aload_n dX10_fits_0 rfl ?_
  refine tr_iload_n dX10_fits_1 rfl ?_
  refine q_callVi hE (M' := mX10_isSlice) (as := [_]) dX10_fits_2 lk10_252 inX10_isSlice seX10_isSlice myX10_isSlice (by decide) ⟨by decide, by decide⟩ rfl (kR1 hS0.1 ta0) (Nat.le_of_ble_eq_true rfl) rfl rfl (by decide) (by decide) (k_X10_isSlice hS0.1 ta0) ?_
  rintro v13 cn' K' N' I9 R10 L11 ⟨rfl, rfl, rfl, rfl, rfl, rfl, h14, p15, -⟩
  refine q_if_ne 14 dX10_fits_5 (by decide) (fun h16 => ?_) (fun h16 => ?_)
  · skip
    refine tr_aload_n dX10_fits_14 rfl ?_
    refine tr_aload_n dX10_fits_15 rfl ?_
    refine q_callVr hE (M' := mX10_presentNight) (as := []) dX10_fits_16 lk10_155 inX10_presentNight seX10_presentNight myX10_presentNight (by decide) ⟨by decide, by decide⟩ rfl (kR1 hS0.1 ta0) (Nat.le_of_ble_eq_true rfl) rfl rfl (by decide) (by decide) (fk_X10_presentNight hS0.1 (gX) ta0 hX hK hD) ?_
    rintro a22 cn' K' N' I17 R18 L19 ⟨rfl, rfl, rfl, rfl, g20, ta22, rp23, -⟩
    have hS24 := hS0.tr g20 (by decide +kernel) (by decide +kernel)
    refine tr_aload_n dX10_fits_19 rfl ?_
    refine tr_getR dX10_fits_20 fl10_16 (kR1 hS24.1 ta0) ((hS24.rcell ta0 (by decide +kernel)).trans d2) ?_
    obtain ⟨a25, d26, ta25⟩ := rf2_14 hW0 ta1
    refine tr_getR dX10_fits_23 fl10_255 (kR2 hS24.1 ta1) ((hS24.rcell ta1 (by decide +kernel)).trans d26) ?_
    refine tr_iload_n dX10_fits_26 rfl ?_
    obtain ⟨a27, d28, ta27⟩ := rf23 hS24.1 ta25 (j := x1.toNatClampNeg) (ti_lt (by omega) (by omega))
    refine tr_aald dX10_fits_27 (kR23 hS24.1 ta25) (by decide) (by decide) (ti_in (nR23 hS24.1 ta25) (by omega) (by omega)) d28 ?_
    refine q_callVi hE (M' := mX5_cheesesWithVeins) (as := [_]) dX10_fits_28 lk10_259 inX5_cheesesWithVeins seX5_cheesesWithVeins myX5_cheesesWithVeins (by decide) ⟨by decide, by decide⟩ rfl (kR13 hS24.1 ta22) (Nat.le_of_ble_eq_true rfl) rfl rfl (by decide) (by decide) (k_X5_cheesesWithVeins hS24.1 ta22 ta27) ?_
    rintro v33 cn' K' N' I29 R30 L31 ⟨rfl, rfl, rfl, rfl, rfl, rfl, -⟩
    refine q_callVi hE (M' := mX10_answered) (as := [_]) dX10_fits_31 lk10_109 inX10_answered seX10_answered myX10_answered (by decide) ⟨by decide, by decide⟩ rfl (kR1 hS24.1 ta0) (Nat.le_of_ble_eq_true rfl) rfl rfl (by decide) (by decide) (fk_X10_answered hS24.1  ta0) ?_
    rintro v39 cn' K' N' I34 R35 L36 ⟨rfl, rfl, rfl, rfl, rfl, g37, p40, p41, -⟩
    have hS42 := hS24.tr g37 (by decide +kernel) (by decide +kernel)
    obtain ⟨v43, c44⟩ : ∃ v, I34 a0 17 = v := ⟨_, rfl⟩
    rw [c44] at p41
    exact tr_iret hZ dX10_fits_34 rfl (by decide) (by decide) ⟨v39, rfl, rfl, rfl, rfl, rfl, hS42, (SkQ.st rp23 hW0 ta0 g37 (by decide +kernel) (by decide +kernel)), trivial⟩
  · skip
    refine tr_aload_n dX10_fits_8 rfl ?_
    refine q_iconst dX10_fits_9 (by decide) ?_
    intro v45 h46
    refine q_callVi hE (M' := mX10_refused) (as := [_]) dX10_fits_10 lk10_79 inX10_refused seX10_refused myX10_refused (by decide) ⟨by decide, by decide⟩ rfl (kR1 hS0.1 ta0) (Nat.le_of_ble_eq_true rfl) rfl rfl (by decide) (by decide) (fk_X10_refused hS0.1  ta0) ?_
    rintro v52 cn' K' N' I47 R48 L49 ⟨rfl, rfl, rfl, rfl, rfl, g50, p53, p54, -⟩
    have hS55 := hS0.tr g50 (by decide +kernel) (by decide +kernel)
    obtain ⟨v56, c57⟩ : ∃ v, I47 a0 17 = v := ⟨_, rfl⟩
    rw [c57] at p54
    exact tr_iret hZ dX10_fits_13 rfl (by decide) (by decide) ⟨v52, rfl, rfl, rfl, rfl, rfl, hS55, (SkQ.st hK hW0 ta0 g50 (by decide +kernel) (by decide +kernel)), trivial⟩
def wik_X10_by : List Nat := [73, 81, 768, 769, 778, 834, 2303, 2367, 2431, 2495, 2559, 2623, 2687, 2751, 2815, 2879, 2943, 3007, 3071, 3135, 3199, 3263, 3327, 3391]
def wrk_X10_by : List Nat := [832, 833]
set_option maxHeartbeats 4000000 in
theorem fk_X10_by {l : Launch} {T : Nat → Nat} {cn : Nat} {K N : Nat → Nat} {I0 : cz_I} {R0 : cz_R} {L0 : cz_L} {d : Int} (hW0 : Wf T cn K N I0 R0 d) (gX : Nat → Nat → Int) {a0 : Nat} (ta0 : T a0 = 1) {x1 : Int32} (hX : EvQ I0 R0 a0 gX) (hK : SkQ I0 R0 a0 gX) (hD : DjS R0 a0) : ConE l mX10_by [.ref a0, .int x1] cn K N I0 R0 L0 (ca_i (fun v cn' K' N' I' R' L' => cn = cn' ∧ K = K' ∧ N = N' ∧ L0 = L' ∧ St T cn K N d wik_X10_by wrk_X10_by I0 R0 I' R' ∧ (SkQ I' R0 a0 gX) ∧ True)) := by
  refine ConE.of (by decide +kernel) rfl (Nat.le_of_ble_eq_true rfl) rfl (fun X hX hZ hE => ?_)
  subst hX
  have hS0 : St T cn K N d wik_X10_by wrk_X10_by I0 R0 I0 R0 := St.rf0 hW0
  obtain ⟨a1, d2, ta1⟩ := rf1_2 hW0 ta0
  obtain ⟨a3, d4, ta3⟩ := rf1_6 hW0 ta0
  obtain ⟨a5, d6, ta5⟩ := rf1_8 hW0 ta0
  obtain ⟨a7, d8, ta7⟩ := rf1_13 hW0 ta0
  refine tr_aload_n dX10_by_0 rfl ?_
  refine tr_iload_n dX10_by_1 rfl ?_
  refine q_callVi hE (M' := mX10_isSlice) (as := [_]) dX10_by_2 lk10_252 inX10_isSlice seX10_isSlice myX10_isSlice (by decide) ⟨by decide, by decide⟩ rfl (kR1 hS0.1 ta0) (Nat.le_of_ble_eq_true rfl) rfl rfl (by decide) (by decide) (k_X10_isSlice hS0.1 ta0) ?_
  rintro v13 cn' K' N' I9 R10 L11 ⟨rfl, rfl, rfl, rfl, rfl, rfl, h14, p15, -⟩
  refine q_if_ne 14 dX10_by_5 (by decide) (fun h16 => ?_) (fun h16 => ?_)
  · skip
    refine q_bipush dX10_by_14 (by decide +kernel) ?_
    intro v17 h18
    refine tr_istore_n dX10_by_16 (by decide) (by decide) ?_
    refine q_iconst dX10_by_17 (by decide) ?_
    intro v19 h20
    refine tr_istore_n dX10_by_18 (by decide) (by decide) ?_
    have lp32 : ∀ (fu : Nat) (ls : Nat → Option Value) (v21 : Int32) (v22 : Int32) (I27 : cz_I) (R28 : cz_R), ls 0 = some (.ref a0) → ls 1 = some (.int x1) → ls 2 = some (.int v21) → ls 3 = some (.int v22) → St T cn K N d wik_X10_by wrk_X10_by I0 R0 I27 R28 → 0 ≤ v22.toInt → (SkQ I27 R0 a0 gX) → (-v22.toInt + 2147483647).toNat < fu → Tr X mX10_by 19 ls [] cn K N I27 R28 L0 0 0 := by
      intro fu
      induction fu with
      | zero => intros; rename_i hz; exact absurd hz (Nat.not_lt_zero _)
      | succ fu ih32 =>
        intro ls v21 v22 I27 R28 hl23 hl24 hl25 hl26 hS29 g30 rw31 hm32
        refine tr_iload_n dX10_by_19 hl26 ?_
        refine tr_aload_n dX10_by_20 hl23 ?_
        refine q_callVi hE (M' := mX10_allCalls) (as := []) dX10_by_21 lk10_263 inX10_allCalls seX10_allCalls myX10_allCalls (by decide) ⟨by decide, by decide⟩ rfl (kR1 hS29.1 ta0) (Nat.le_of_ble_eq_true rfl) rfl rfl (by decide) (by decide) (k_X10_allCalls hS29.1 ta0) ?_
        rintro v38 cn' K' N' I34 R35 L36 ⟨rfl, rfl, rfl, rfl, rfl, rfl, h39, -⟩
        refine q_icmp_gt 91 dX10_by_24 (by decide) (fun h40 => ?_) (fun h40 => ?_)
        · skip
          refine tr_aload_n dX10_by_91 hl23 ?_
          refine tr_iload_n dX10_by_92 hl25 ?_
          refine q_callVi hE (M' := mX10_answered) (as := [_]) dX10_by_93 lk10_109 inX10_answered seX10_answered myX10_answered (by decide) ⟨by decide, by decide⟩ rfl (kR1 hS29.1 ta0) (Nat.le_of_ble_eq_true rfl) rfl rfl (by decide) (by decide) (fk_X10_answered hS29.1  ta0) ?_
          rintro v46 cn' K' N' I41 R42 L43 ⟨rfl, rfl, rfl, rfl, rfl, g44, p47, p48, -⟩
          have hS49 := hS29.tr g44 (by decide +kernel) (by decide +kernel)
          obtain ⟨v50, c51⟩ : ∃ v, I41 a0 17 = v := ⟨_, rfl⟩
          rw [c51] at p48
          exact tr_iret hZ dX10_by_96 rfl (by decide) (by decide) ⟨v46, rfl, rfl, rfl, rfl, rfl, hS49, (SkQ.st rw31 hW0 ta0 g44 (by decide +kernel) (by decide +kernel)), trivial⟩
        · skip
          refine tr_iload_n dX10_by_27 hl25 ?_
          refine q_bipush dX10_by_28 (by decide +kernel) ?_
          intro v52 h53
          refine q_icmp_eq 44 dX10_by_30 (by decide) (fun h54 => ?_) (fun h54 => ?_)
          · skip
            refine tr_aload_n dX10_by_44 hl23 ?_
            obtain ⟨a55, d56, ta55⟩ := rf1_14 hW0 ta0
            refine tr_getR dX10_by_45 fl10_68 (kR1 hS29.1 ta0) ((hS29.rcell ta0 (by decide +kernel)).trans d56) ?_
            refine tr_aload_n dX10_by_48 hl23 ?_
            refine tr_getR dX10_by_49 fl10_16 (kR1 hS29.1 ta0) ((hS29.rcell ta0 (by decide +kernel)).trans d2) ?_
            refine tr_aload_n dX10_by_52 hl23 ?_
            refine q_callVr hE (M' := mX10_presentSky) (as := []) dX10_by_53 lk10_119 inX10_presentSky seX10_presentSky myX10_presentSky (by decide) ⟨by decide, by decide⟩ rfl (kR1 hS29.1 ta0) (Nat.le_of_ble_eq_true rfl) rfl rfl (by decide) (by decide) (fk_X10_presentSky hS29.1 (gX) ta0 (EvQ.rc (EvQ.st hX hW0 ta0 hS29 (by decide +kernel)) hW0 ta0 (R13 hS29 (by decide +kernel))) (SkQ.rc rw31 hW0 ta0 (R13 hS29 (by decide +kernel))) (DjS.rc hD hW0 ta0 (R13 hS29 (by decide +kernel)))) ?_
            rintro a62 cn' K' N' I57 R58 L59 ⟨rfl, rfl, rfl, rfl, rfl, g60, ta62, p63, rp64, rp65, rp66, -⟩
            have hS67 := hS29.tr g60 (by decide +kernel) (by decide +kernel)
            obtain ⟨v68, c69⟩ : ∃ v, I57 a0 9 = v := ⟨_, rfl⟩
            have b70 := iv1_9 hS67.1 ta0 c69
            rw [c69] at p63
            refine tr_iload_n dX10_by_56 hl26 ?_
            refine tr_aload_n dX10_by_57 hl23 ?_
            refine q_callVi hE (M' := mX10_allTurners) (as := []) dX10_by_58 lk10_184 inX10_allTurners seX10_allTurners myX10_allTurners (by decide) ⟨by decide, by decide⟩ rfl (kR1 hS67.1 ta0) (Nat.le_of_ble_eq_true rfl) rfl rfl (by decide) (by decide) (k_X10_allTurners hS67.1 ta0) ?_
            rintro v75 cn' K' N' I71 R72 L73 ⟨rfl, rfl, rfl, rfl, rfl, rfl, h76, -⟩
            refine q_callVv hE (M' := mX5_play) (as := [_, _, _, _]) dX10_by_61 lk10_188 inX5_play seX5_play myX5_play (by decide) ⟨by decide, by decide⟩ rfl (kR13 hS67.1 ta55) (Nat.le_of_ble_eq_true rfl) rfl rfl (by decide) (by decide) (k_X5_play hS67.1 ta55 ta1 ta62) ?_
            rintro cn' K' N' I77 R78 L79 ⟨rfl, rfl, rfl, rfl, g80, -⟩
            have hS82 := hS67.tr g80 (by decide +kernel) (by decide +kernel)
            have c83 : I77 a0 9 = v68 := (g80.cell ta0 (by decide +kernel)).trans c69
            refine tr_aload_n dX10_by_64 hl23 ?_
            refine tr_getR dX10_by_65 fl10_68 (kR1 hS82.1 ta0) ((hS82.rcell ta0 (by decide +kernel)).trans d56) ?_
            refine tr_aload_n dX10_by_68 hl23 ?_
            refine tr_getR dX10_by_69 fl10_16 (kR1 hS82.1 ta0) ((hS82.rcell ta0 (by decide +kernel)).trans d2) ?_
            obtain ⟨a84, d85, ta84⟩ := rf2_14 hW0 ta1
            refine tr_getR dX10_by_72 fl10_255 (kR2 hS82.1 ta1) ((hS82.rcell ta1 (by decide +kernel)).trans d85) ?_
            refine tr_iload_n dX10_by_75 hl24 ?_
            obtain ⟨a86, d87, ta86⟩ := rf23 hS82.1 ta84 (j := x1.toNatClampNeg) (ti_lt (by omega) (by omega))
            refine tr_aald dX10_by_76 (kR23 hS82.1 ta84) (by decide) (by decide) (ti_in (nR23 hS82.1 ta84) (by omega) (by omega)) d87 ?_
            refine q_callVi hE (M' := mX5_cheesesWithVeins) (as := [_]) dX10_by_77 lk10_259 inX5_cheesesWithVeins seX5_cheesesWithVeins myX5_cheesesWithVeins (by decide) ⟨by decide, by decide⟩ rfl (kR13 hS82.1 ta55) (Nat.le_of_ble_eq_true rfl) rfl rfl (by decide) (by decide) (k_X5_cheesesWithVeins hS82.1 ta55 ta86) ?_
            rintro v92 cn' K' N' I88 R89 L90 ⟨rfl, rfl, rfl, rfl, rfl, rfl, -⟩
            refine q_if_eq 85 dX10_by_80 (by decide) (fun h93 => ?_) (fun h93 => ?_)
            · skip
              refine q_iincE dX10_by_85 hl26 (by decide) (by decide) (by intros; omega) ?_
              intro v94 h95
              refine tr_goto 19 dX10_by_88 (by decide) ?_
              exact ih32 _ v21 v94 I77 R78 hl23 hl24 hl25 rfl hS82 (by omega) (SkQ.st (SkQ.of (SkW.rc rp65 hS29.1 ta0 (fun a j q => (R13 hS29 (by decide +kernel) a j q).symm))) hW0 ta0 g80 (by decide +kernel) (by decide +kernel)) (by omega)
            · skip
              refine tr_iload_n dX10_by_83 hl26 ?_
              refine tr_istore_n dX10_by_84 (by decide) (by decide) ?_
              refine q_iincE dX10_by_85 hl26 (by decide) (by decide) (by intros; omega) ?_
              intro v96 h97
              refine tr_goto 19 dX10_by_88 (by decide) ?_
              exact ih32 _ v22 v96 I77 R78 hl23 hl24 rfl rfl hS82 (by omega) (SkQ.st (SkQ.of (SkW.rc rp65 hS29.1 ta0 (fun a j q => (R13 hS29 (by decide +kernel) a j q).symm))) hW0 ta0 g80 (by decide +kernel) (by decide +kernel)) (by omega)
          · skip
            refine tr_iload_n dX10_by_33 hl26 ?_
            refine q_callSi hE (M' := mJ6_bitCount_0f7a4) (as := [_]) dX10_by_34 lk10_247 inJ6_bitCount_0f7a4 myJ6_bitCount_0f7a4 ⟨by decide, by decide⟩ rfl (Nat.le_of_ble_eq_true rfl) rfl rfl (by decide) (by decide) (k_J6_bitCount_0f7a4 hS29.1 ) ?_
            rintro v102 cn' K' N' I98 R99 L100 ⟨rfl, rfl, rfl, rfl, rfl, rfl, -⟩
            refine tr_iload_n dX10_by_37 hl25 ?_
            refine q_callSi hE (M' := mJ6_bitCount_0f7a4) (as := [_]) dX10_by_38 lk10_247 inJ6_bitCount_0f7a4 myJ6_bitCount_0f7a4 ⟨by decide, by decide⟩ rfl (Nat.le_of_ble_eq_true rfl) rfl rfl (by decide) (by decide) (k_J6_bitCount_0f7a4 hS29.1 ) ?_
            rintro v107 cn' K' N' I103 R104 L105 ⟨rfl, rfl, rfl, rfl, rfl, rfl, -⟩
            refine q_icmp_ge 85 dX10_by_41 (by decide) (fun h108 => ?_) (fun h108 => ?_)
            · skip
              refine q_iincE dX10_by_85 hl26 (by decide) (by decide) (by intros; omega) ?_
              intro v109 h110
              refine tr_goto 19 dX10_by_88 (by decide) ?_
              exact ih32 _ v21 v109 I27 R28 hl23 hl24 hl25 rfl hS29 (by omega) rw31 (by omega)
            · skip
              refine tr_aload_n dX10_by_44 hl23 ?_
              obtain ⟨a111, d112, ta111⟩ := rf1_14 hW0 ta0
              refine tr_getR dX10_by_45 fl10_68 (kR1 hS29.1 ta0) ((hS29.rcell ta0 (by decide +kernel)).trans d112) ?_
              refine tr_aload_n dX10_by_48 hl23 ?_
              refine tr_getR dX10_by_49 fl10_16 (kR1 hS29.1 ta0) ((hS29.rcell ta0 (by decide +kernel)).trans d2) ?_
              refine tr_aload_n dX10_by_52 hl23 ?_
              refine q_callVr hE (M' := mX10_presentSky) (as := []) dX10_by_53 lk10_119 inX10_presentSky seX10_presentSky myX10_presentSky (by decide) ⟨by decide, by decide⟩ rfl (kR1 hS29.1 ta0) (Nat.le_of_ble_eq_true rfl) rfl rfl (by decide) (by decide) (fk_X10_presentSky hS29.1 (gX) ta0 (EvQ.rc (EvQ.st hX hW0 ta0 hS29 (by decide +kernel)) hW0 ta0 (R13 hS29 (by decide +kernel))) (SkQ.rc rw31 hW0 ta0 (R13 hS29 (by decide +kernel))) (DjS.rc hD hW0 ta0 (R13 hS29 (by decide +kernel)))) ?_
              rintro a118 cn' K' N' I113 R114 L115 ⟨rfl, rfl, rfl, rfl, rfl, g116, ta118, p119, rp120, rp121, rp122, -⟩
              have hS123 := hS29.tr g116 (by decide +kernel) (by decide +kernel)
              obtain ⟨v124, c125⟩ : ∃ v, I113 a0 9 = v := ⟨_, rfl⟩
              have b126 := iv1_9 hS123.1 ta0 c125
              rw [c125] at p119
              refine tr_iload_n dX10_by_56 hl26 ?_
              refine tr_aload_n dX10_by_57 hl23 ?_
              refine q_callVi hE (M' := mX10_allTurners) (as := []) dX10_by_58 lk10_184 inX10_allTurners seX10_allTurners myX10_allTurners (by decide) ⟨by decide, by decide⟩ rfl (kR1 hS123.1 ta0) (Nat.le_of_ble_eq_true rfl) rfl rfl (by decide) (by decide) (k_X10_allTurners hS123.1 ta0) ?_
              rintro v131 cn' K' N' I127 R128 L129 ⟨rfl, rfl, rfl, rfl, rfl, rfl, h132, -⟩
              refine q_callVv hE (M' := mX5_play) (as := [_, _, _, _]) dX10_by_61 lk10_188 inX5_play seX5_play myX5_play (by decide) ⟨by decide, by decide⟩ rfl (kR13 hS123.1 ta111) (Nat.le_of_ble_eq_true rfl) rfl rfl (by decide) (by decide) (k_X5_play hS123.1 ta111 ta1 ta118) ?_
              rintro cn' K' N' I133 R134 L135 ⟨rfl, rfl, rfl, rfl, g136, -⟩
              have hS138 := hS123.tr g136 (by decide +kernel) (by decide +kernel)
              have c139 : I133 a0 9 = v124 := (g136.cell ta0 (by decide +kernel)).trans c125
              refine tr_aload_n dX10_by_64 hl23 ?_
              refine tr_getR dX10_by_65 fl10_68 (kR1 hS138.1 ta0) ((hS138.rcell ta0 (by decide +kernel)).trans d112) ?_
              refine tr_aload_n dX10_by_68 hl23 ?_
              refine tr_getR dX10_by_69 fl10_16 (kR1 hS138.1 ta0) ((hS138.rcell ta0 (by decide +kernel)).trans d2) ?_
              obtain ⟨a140, d141, ta140⟩ := rf2_14 hW0 ta1
              refine tr_getR dX10_by_72 fl10_255 (kR2 hS138.1 ta1) ((hS138.rcell ta1 (by decide +kernel)).trans d141) ?_
              refine tr_iload_n dX10_by_75 hl24 ?_
              obtain ⟨a142, d143, ta142⟩ := rf23 hS138.1 ta140 (j := x1.toNatClampNeg) (ti_lt (by omega) (by omega))
              refine tr_aald dX10_by_76 (kR23 hS138.1 ta140) (by decide) (by decide) (ti_in (nR23 hS138.1 ta140) (by omega) (by omega)) d143 ?_
              refine q_callVi hE (M' := mX5_cheesesWithVeins) (as := [_]) dX10_by_77 lk10_259 inX5_cheesesWithVeins seX5_cheesesWithVeins myX5_cheesesWithVeins (by decide) ⟨by decide, by decide⟩ rfl (kR13 hS138.1 ta111) (Nat.le_of_ble_eq_true rfl) rfl rfl (by decide) (by decide) (k_X5_cheesesWithVeins hS138.1 ta111 ta142) ?_
              rintro v148 cn' K' N' I144 R145 L146 ⟨rfl, rfl, rfl, rfl, rfl, rfl, -⟩
              refine q_if_eq 85 dX10_by_80 (by decide) (fun h149 => ?_) (fun h149 => ?_)
              · skip
                refine q_iincE dX10_by_85 hl26 (by decide) (by decide) (by intros; omega) ?_
                intro v150 h151
                refine tr_goto 19 dX10_by_88 (by decide) ?_
                exact ih32 _ v21 v150 I133 R134 hl23 hl24 hl25 rfl hS138 (by omega) (SkQ.st (SkQ.of (SkW.rc rp121 hS29.1 ta0 (fun a j q => (R13 hS29 (by decide +kernel) a j q).symm))) hW0 ta0 g136 (by decide +kernel) (by decide +kernel)) (by omega)
              · skip
                refine tr_iload_n dX10_by_83 hl26 ?_
                refine tr_istore_n dX10_by_84 (by decide) (by decide) ?_
                refine q_iincE dX10_by_85 hl26 (by decide) (by decide) (by intros; omega) ?_
                intro v152 h153
                refine tr_goto 19 dX10_by_88 (by decide) ?_
                exact ih32 _ v22 v152 I133 R134 hl23 hl24 rfl rfl hS138 (by omega) (SkQ.st (SkQ.of (SkW.rc rp121 hS29.1 ta0 (fun a j q => (R13 hS29 (by decide +kernel) a j q).symm))) hW0 ta0 g136 (by decide +kernel) (by decide +kernel)) (by omega)
    exact lp32 _ _ v17 v19 I0 R0 rfl rfl rfl rfl hS0 (by omega) hK (Nat.lt_succ_self _)
  · skip
    refine tr_aload_n dX10_by_8 rfl ?_
    refine q_iconst dX10_by_9 (by decide) ?_
    intro v154 h155
    refine q_callVi hE (M' := mX10_refused) (as := [_]) dX10_by_10 lk10_79 inX10_refused seX10_refused myX10_refused (by decide) ⟨by decide, by decide⟩ rfl (kR1 hS0.1 ta0) (Nat.le_of_ble_eq_true rfl) rfl rfl (by decide) (by decide) (fk_X10_refused hS0.1  ta0) ?_
    rintro v161 cn' K' N' I156 R157 L158 ⟨rfl, rfl, rfl, rfl, rfl, g159, p162, p163, -⟩
    have hS164 := hS0.tr g159 (by decide +kernel) (by decide +kernel)
    obtain ⟨v165, c166⟩ : ∃ v, I156 a0 17 = v := ⟨_, rfl⟩
    rw [c166] at p163
    exact tr_iret hZ dX10_by_13 rfl (by decide) (by decide) ⟨v161, rfl, rfl, rfl, rfl, rfl, hS164, (SkQ.st hK hW0 ta0 g159 (by decide +kernel) (by decide +kernel)), trivial⟩
