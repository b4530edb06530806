def wik_X10_due : List Nat := [73, 81, 768, 769, 778, 2303, 2367, 2431, 2495, 2559, 2623, 2687, 2751, 2815]
def wrk_X10_due : List Nat := []
def Cs_X10_due (T : Nat → Nat) (I0 : cz_I) (R0 : cz_R) (a0 : Nat) (gX : Nat → Nat → Int) (gH : Nat → Int) (x1 : Int32) (v : Int32) (I' : cz_I) (R' : cz_R) : Prop :=
  (((I0 a0 5).toInt = 0) ∧ (v.toInt = -1) ∧ True) ∨
  (((I0 a0 5).toInt = 1) ∧ (∀ b1, R0 a0 2 = some b1 → (x1.toInt < 0 ∨ x1.toInt ≥ (I0 b1 0).toInt)) ∧ (v.toInt = -1) ∧ True) ∨
  (((I0 a0 5).toInt = 1) ∧ (0 ≤ x1.toInt) ∧ (∀ b1, R0 a0 2 = some b1 → x1.toInt < (I0 b1 0).toInt) ∧ (∀ al nw, R0 a0 2 = some al → R0 a0 6 = some nw → v.toInt = skD gX (-1) ((I0 al 3).toInt.toNat + (I0 nw 2).toInt.toNat) (I0 al 1).toInt gH (I0 al 5).toInt.toNat x1.toInt) ∧ True)
set_option maxHeartbeats 4000000 in
theorem fk_X10_due {l : Launch} {T : Nat → Nat} {cn : Nat} {K N : Nat → Nat} {I0 : cz_I} {R0 : cz_R} {L0 : cz_L} {d : Int} (hW0 : Wf T cn K N I0 R0 d) (gX : Nat → Nat → Int) (gH : Nat → Int) {a0 : Nat} (ta0 : T a0 = 1) {x1 : Int32} (hX : EvQ I0 R0 a0 gX) (hK : SkQ I0 R0 a0 gX) (hD : DjS R0 a0) (hH : ∀ al r, R0 a0 2 = some al → R0 al 6 = some r → ∀ c : Nat, (c : Int) < (I0 al 5).toInt → (I0 r c).toInt = gH c ∧ 0 ≤ gH c ∧ gH c ≤ 3) : ConE l mX10_due [.ref a0, .int x1] cn K N I0 R0 L0 (ca_i (fun v cn' K' N' I' R' L' => cn = cn' ∧ K = K' ∧ N = N' ∧ R0 = R' ∧ L0 = L' ∧ St T cn K N d wik_X10_due wrk_X10_due I0 R0 I' R0 ∧ (SkQ I' R0 a0 gX) ∧ Cs_X10_due T I0 R0 a0 gX gH x1 v I' R0 ∧ True)) := by
  refine ConE.of (by decide +kernel) rfl (Nat.le_of_ble_eq_true rfl) rfl (fun X hX hZ hE => ?_)
  subst hX
  have hS0 : St T cn K N d wik_X10_due wrk_X10_due I0 R0 I0 R0 := St.rf0 hW0
  obtain ⟨v1, c2⟩ : ∃ v, I0 a0 5 = v := ⟨_, rfl⟩
  have b3 := iv1_5 hW0 ta0 c2
  obtain ⟨a4, d5, ta4⟩ := rf1_2 hW0 ta0
  obtain ⟨v6, c7⟩ : ∃ v, I0 a4 0 = v := ⟨_, rfl⟩
  have b8 := iv2_0 hW0 ta4 c7
  obtain ⟨a9, d10, ta9⟩ := rf1_6 hW0 ta0
  obtain ⟨a11, d12, ta11⟩ := rf1_8 hW0 ta0
  obtain ⟨a13, d14, ta13⟩ := rf1_13 hW0 ta0
  obtain ⟨v15, c16⟩ : ∃ v, I0 a4 1 = v := ⟨_, rfl⟩
  have b17 := iv2_1 hW0 ta4 c16
  obtain ⟨v18, c19⟩ : ∃ v, I0 a4 3 = v := ⟨_, rfl⟩
  have b20 := iv2_3 hW0 ta4 c19
  obtain ⟨a21, d22, ta21⟩ := rf2_6 hW0 ta4
  obtain ⟨v23, c24⟩ : ∃ v, I0 a4 5 = v := ⟨_, rfl⟩
  have b25 := iv2_5 hW0 ta4 c24
  refine tr_aload_n dX10_due_0 rfl ?_
  refine q_getZ dX10_due_1 fl10_95 (kR1 hS0.1 ta0) c2 ?_
  refine q_if_ne 13 dX10_due_4 (by decide) (fun h26 => ?_) (fun h26 => ?_)
  · skip
    refine tr_aload_n dX10_due_13 rfl ?_
    refine tr_iload_n dX10_due_14 rfl ?_
    refine q_callVi hE (M' := mX10_isMinute) (as := [_]) dX10_due_15 lk10_115 inX10_isMinute seX10_isMinute myX10_isMinute (by decide) ⟨by decide, by decide⟩ rfl (kR1 hS0.1 ta0) (Nat.le_of_ble_eq_true rfl) rfl rfl (by decide) (by decide) (fk_X10_isMinute hS0.1  ta0) ?_
    rintro v32 cn' K' N' I27 R28 L29 ⟨rfl, rfl, rfl, rfl, rfl, rfl, h33, p34, p35, -⟩
    have p36 := p34 _ d5
    clear p34
    rw [c7] at p36
    have p37 := p35 _ d5
    clear p35
    rw [c7] at p37
    refine q_if_ne 27 dX10_due_18 (by decide) (fun h38 => ?_) (fun h38 => ?_)
    · skip
      refine tr_aload_n dX10_due_27 rfl ?_
      refine tr_aload_n dX10_due_28 rfl ?_
      refine tr_getR dX10_due_29 fl10_16 (kR1 hS0.1 ta0) d5 ?_
      refine tr_aload_n dX10_due_32 rfl ?_
      refine q_callVr hE (M' := mX10_presentSky) (as := []) dX10_due_33 lk10_119 inX10_presentSky seX10_presentSky myX10_presentSky (by decide) ⟨by decide, by decide⟩ rfl (kR1 hS0.1 ta0) (Nat.le_of_ble_eq_true rfl) rfl rfl (by decide) (by decide) (fk_X10_presentSky hS0.1 (gX) ta0 hX hK hD) ?_
      rintro a44 cn' K' N' I39 R40 L41 ⟨rfl, rfl, rfl, rfl, rfl, g42, ta44, p45, rp46, rp47, rp48, -⟩
      have hS49 := hS0.tr g42 (by decide +kernel) (by decide +kernel)
      obtain ⟨v50, c51⟩ : ∃ v, I39 a0 9 = v := ⟨_, rfl⟩
      have b52 := iv1_9 hS49.1 ta0 c51
      rw [c51] at p45
      have hz53 := rp48 _ _ _ rp46 d5 d10
      obtain ⟨a54, d55, ta54⟩ := rf12_8 hW0 ta44
      refine tr_getR dX10_due_36 fl10_143 (kR12 hS49.1 ta44) d55 ?_
      refine tr_iload_n dX10_due_39 rfl ?_
      refine q_iald dX10_due_40 (kR41 hS49.1 ta54) (ti_in (nR41 hS49.1 ta54) (by omega) (by omega)) ?_
      intro v56 c57
      have hb58 := hz53.2.2.2.2.2.2.1 _ d55 x1.toInt.toNat (by rw [c7]; omega)
      rw [show I39 a54 x1.toInt.toNat = v56 from c57] at hb58
      have hb58r := And.intro hb58.1 hb58.2.1
      refine q_callVi hE (M' := mX0_cheesesIn) (as := [_]) dX10_due_41 lk10_149 inX0_cheesesIn seX0_cheesesIn myX0_cheesesIn (by decide) ⟨by decide, by decide⟩ rfl (kR2 hS49.1 ta4) (Nat.le_of_ble_eq_true rfl) rfl rfl (by decide) (by decide) (fk_X0_cheesesIn hS49.1 (gH) ta4 (by omega) (fun r hr c hc => by rw [hS49.cell ta4 (by decide +kernel)] at hc; obtain rfl := Option.some.inj (d22.symm.trans hr); rw [hS49.cell ta21 (wm_no (by decide +kernel))]; exact hH _ _ d5 d22 c hc)) ?_
      rintro v64 cn' K' N' I59 R60 L61 ⟨rfl, rfl, rfl, rfl, rfl, rfl, h65, rp66, -⟩
      have hd67 := rp66 _ d22
      rw [show cnM (fun c => bt v56.toInt (I39 a21 c).toInt) (I39 a4 5).toInt.toNat = skD gX (-1) ((I0 a4 3).toInt.toNat + (I0 a9 2).toInt.toNat) (I0 a4 1).toInt gH (I0 a4 5).toInt.toNat ((x1.toInt.toNat : Nat) : Int) by rw [hS49.cell ta4 (by decide +kernel)]; exact skD.of hb58 (fun c hc => by rw [hS49.cell ta21 (wm_no (by decide +kernel))]; exact hH _ _ d5 d22 c (by omega))] at hd67
      refine q_callVi hE (M' := mX10_answered) (as := [_]) dX10_due_44 lk10_109 inX10_answered seX10_answered myX10_answered (by decide) ⟨by decide, by decide⟩ rfl (kR1 hS49.1 ta0) (Nat.le_of_ble_eq_true rfl) rfl rfl (by decide) (by decide) (fk_X10_answered hS49.1  ta0) ?_
      rintro v73 cn' K' N' I68 R69 L70 ⟨rfl, rfl, rfl, rfl, rfl, g71, p74, p75, -⟩
      have hS76 := hS49.tr g71 (by decide +kernel) (by decide +kernel)
      have c77 : I68 a0 9 = v50 := (g71.cell ta0 (by decide +kernel)).trans c51
      obtain ⟨v78, c79⟩ : ∃ v, I68 a0 17 = v := ⟨_, rfl⟩
      rw [c79] at p75
      exact tr_iret hZ dX10_due_47 rfl (by decide) (by decide) ⟨v73, rfl, rfl, rfl, rfl, rfl, rfl, hS76, (SkQ.st (SkQ.of rp47) hW0 ta0 g71 (by decide +kernel) (by decide +kernel)), (Or.inr (Or.inr (⟨(by (try rw [c2]); first | done | with_reducible assumption | omega), (by first | done | with_reducible assumption | omega), (fun q0 z0 => by obtain rfl := Option.some.inj ((d5).symm.trans z0); (try rw [c7]); first | done | with_reducible assumption | omega), (fun al nw h2 h6 => by obtain rfl := Option.some.inj (d5.symm.trans h2); obtain rfl := Option.some.inj (d10.symm.trans h6); have e := hd67; rw [show ((x1.toInt.toNat : Nat) : Int) = x1.toInt by omega] at e; omega), trivial⟩))), trivial⟩
    · skip
      refine tr_aload_n dX10_due_21 rfl ?_
      refine q_iconst dX10_due_22 (by decide) ?_
      intro v80 h81
      refine q_callVi hE (M' := mX10_refused) (as := [_]) dX10_due_23 lk10_79 inX10_refused seX10_refused myX10_refused (by decide) ⟨by decide, by decide⟩ rfl (kR1 hS0.1 ta0) (Nat.le_of_ble_eq_true rfl) rfl rfl (by decide) (by decide) (fk_X10_refused hS0.1  ta0) ?_
      rintro v87 cn' K' N' I82 R83 L84 ⟨rfl, rfl, rfl, rfl, rfl, g85, p88, p89, -⟩
      have hS90 := hS0.tr g85 (by decide +kernel) (by decide +kernel)
      obtain ⟨v91, c92⟩ : ∃ v, I82 a0 17 = v := ⟨_, rfl⟩
      rw [c92] at p89
      exact tr_iret hZ dX10_due_26 rfl (by decide) (by decide) ⟨v87, rfl, rfl, rfl, rfl, rfl, rfl, hS90, (SkQ.st hK hW0 ta0 g85 (by decide +kernel) (by decide +kernel)), (by first | exact Or.inr (Or.inl ⟨(by (try rw [c2]); first | done | with_reducible assumption | omega), (fun q0 z0 => by obtain rfl := Option.some.inj ((d5).symm.trans z0); (try rw [c7]); first | done | with_reducible assumption | omega), (by first | done | with_reducible assumption | omega), trivial⟩) | exact Or.inr (Or.inr (⟨(by (try rw [c2]); first | done | with_reducible assumption | omega), (by first | done | with_reducible assumption | omega), (fun q0 z0 => by obtain rfl := Option.some.inj ((d5).symm.trans z0); (try rw [c7]); first | done | with_reducible assumption | omega), (by exfalso; omega), trivial⟩))), trivial⟩
  · skip
    refine tr_aload_n dX10_due_7 rfl ?_
    refine q_iconst dX10_due_8 (by decide) ?_
    intro v93 h94
    refine q_callVi hE (M' := mX10_refused) (as := [_]) dX10_due_9 lk10_79 inX10_refused seX10_refused myX10_refused (by decide) ⟨by decide, by decide⟩ rfl (kR1 hS0.1 ta0) (Nat.le_of_ble_eq_true rfl) rfl rfl (by decide) (by decide) (fk_X10_refused hS0.1  ta0) ?_
    rintro v100 cn' K' N' I95 R96 L97 ⟨rfl, rfl, rfl, rfl, rfl, g98, p101, p102, -⟩
    have hS103 := hS0.tr g98 (by decide +kernel) (by decide +kernel)
    obtain ⟨v104, c105⟩ : ∃ v, I95 a0 17 = v := ⟨_, rfl⟩
    rw [c105] at p102
    exact tr_iret hZ dX10_due_12 rfl (by decide) (by decide) ⟨v100, rfl, rfl, rfl, rfl, rfl, rfl, hS103, (SkQ.st hK hW0 ta0 g98 (by decide +kernel) (by decide +kernel)), (Or.inl ⟨(by (try rw [c2]); first | done | with_reducible assumption | omega), (by first | done | with_reducible assumption | omega), trivial⟩), trivial⟩
def wik_X10_awake : List Nat := [73, 75, 81, 768, 769, 778, 834, 2303, 2367, 2431, 2495, 2559, 2623, 2687, 2751, 2815, 2879, 2943, 3007, 3071, 3135, 3199, 3263, 3327, 3391]
def wrk_X10_awake : List Nat := [832, 833]
set_option maxHeartbeats 4000000 in
theorem fk_X10_awake {l : Launch} {T : Nat → Nat} {cn : Nat} {K N : Nat → Nat} {I0 : cz_I} {R0 : cz_R} {L0 : cz_L} {d : Int} (hW0 : Wf T cn K N I0 R0 d) (gX : Nat → Nat → Int) {a0 : Nat} (ta0 : T a0 = 1) {x1 : Int32} {x2 : Int32} (hX : EvQ I0 R0 a0 gX) (hK : SkQ I0 R0 a0 gX) (hD : DjS R0 a0) : ConE l mX10_awake [.ref a0, .int x1, .int x2] cn K N I0 R0 L0 (ca_i (fun v cn' K' N' I' R' L' => cn = cn' ∧ K = K' ∧ N = N' ∧ L0 = L' ∧ St T cn K N d wik_X10_awake wrk_X10_awake I0 R0 I' R' ∧ (SkQ I' R0 a0 gX) ∧ True)) := by
  refine ConE.of (by decide +kernel) rfl (Nat.le_of_ble_eq_true rfl) rfl (fun X hX hZ hE => ?_)
  subst hX
  have hS0 : St T cn K N d wik_X10_awake wrk_X10_awake I0 R0 I0 R0 := St.rf0 hW0
  obtain ⟨a1, d2, ta1⟩ := rf1_2 hW0 ta0
  obtain ⟨a3, d4, ta3⟩ := rf1_6 hW0 ta0
  obtain ⟨a5, d6, ta5⟩ := rf1_8 hW0 ta0
  obtain ⟨a7, d8, ta7⟩ := rf1_13 hW0 ta0
  refine tr_aload_n dX10_awake_0 rfl ?_
  refine tr_iload_n dX10_awake_1 rfl ?_
  refine q_callVi hE (M' := mX10_isTurner) (as := [_]) dX10_awake_2 lk10_152 inX10_isTurner seX10_isTurner myX10_isTurner (by decide) ⟨by decide, by decide⟩ rfl (kR1 hS0.1 ta0) (Nat.le_of_ble_eq_true rfl) rfl rfl (by decide) (by decide) (k_X10_isTurner hS0.1 ta0) ?_
  rintro v13 cn' K' N' I9 R10 L11 ⟨rfl, rfl, rfl, rfl, rfl, rfl, h14, p15, -⟩
  refine q_if_ne 14 dX10_awake_5 (by decide) (fun h16 => ?_) (fun h16 => ?_)
  · skip
    refine tr_aload_n dX10_awake_14 rfl ?_
    refine tr_iload_n dX10_awake_15 rfl ?_
    obtain ⟨v17, c18⟩ : ∃ v, I0 a1 0 = v := ⟨_, rfl⟩
    have b19 := iv2_0 hW0 ta1 c18
    refine q_callVi hE (M' := mX10_isMinute) (as := [_]) dX10_awake_16 lk10_115 inX10_isMinute seX10_isMinute myX10_isMinute (by decide) ⟨by decide, by decide⟩ rfl (kR1 hS0.1 ta0) (Nat.le_of_ble_eq_true rfl) rfl rfl (by decide) (by decide) (fk_X10_isMinute hS0.1  ta0) ?_
    rintro v25 cn' K' N' I20 R21 L22 ⟨rfl, rfl, rfl, rfl, rfl, rfl, h26, p27, p28, -⟩
    have p29 := p27 _ d2
    clear p27
    rw [c18] at p29
    have p30 := p28 _ d2
    clear p28
    rw [c18] at p30
    refine q_if_ne 28 dX10_awake_19 (by decide) (fun h31 => ?_) (fun h31 => ?_)
    · skip
      refine tr_aload_n dX10_awake_28 rfl ?_
      refine tr_aload_n dX10_awake_29 rfl ?_
      refine q_callVr hE (M' := mX10_presentNight) (as := []) dX10_awake_30 lk10_155 inX10_presentNight seX10_presentNight myX10_presentNight (by decide) ⟨by decide, by decide⟩ rfl (kR1 hS0.1 ta0) (Nat.le_of_ble_eq_true rfl) rfl rfl (by decide) (by decide) (fk_X10_presentNight hS0.1 (gX) ta0 hX hK hD) ?_
      rintro a37 cn' K' N' I32 R33 L34 ⟨rfl, rfl, rfl, rfl, g35, ta37, rp38, -⟩
      have hS39 := hS0.tr g35 (by decide +kernel) (by decide +kernel)
      refine tr_iload_n dX10_awake_33 rfl ?_
      refine tr_iload_n dX10_awake_34 rfl ?_
      refine q_callVi hE (M' := mX5_isAwake) (as := [_, _]) dX10_awake_35 lk10_159 inX5_isAwake seX5_isAwake myX5_isAwake (by decide) ⟨by decide, by decide⟩ rfl (kR13 hS39.1 ta37) (Nat.le_of_ble_eq_true rfl) rfl rfl (by decide) (by decide) (k_X5_isAwake hS39.1 ta37 (by omega) (by omega)) ?_
      rintro v44 cn' K' N' I40 R41 L42 ⟨rfl, rfl, rfl, rfl, rfl, rfl, h45, -⟩
      refine q_if_eq 45 dX10_awake_38 (by decide) (fun h46 => ?_) (fun h46 => ?_)
      · skip
        refine q_iconst dX10_awake_45 (by decide) ?_
        intro v47 h48
        refine q_callVi hE (M' := mX10_answered) (as := [_]) dX10_awake_46 lk10_109 inX10_answered seX10_answered myX10_answered (by decide) ⟨by decide, by decide⟩ rfl (kR1 hS39.1 ta0) (Nat.le_of_ble_eq_true rfl) rfl rfl (by decide) (by decide) (fk_X10_answered hS39.1  ta0) ?_
        rintro v54 cn' K' N' I49 R50 L51 ⟨rfl, rfl, rfl, rfl, rfl, g52, p55, p56, -⟩
        have hS57 := hS39.tr g52 (by decide +kernel) (by decide +kernel)
        obtain ⟨v58, c59⟩ : ∃ v, I49 a0 17 = v := ⟨_, rfl⟩
        rw [c59] at p56
        exact tr_iret hZ dX10_awake_49 rfl (by decide) (by decide) ⟨v54, rfl, rfl, rfl, rfl, rfl, hS57, (SkQ.st rp38 hW0 ta0 g52 (by decide +kernel) (by decide +kernel)), trivial⟩
      · skip
        refine q_iconst dX10_awake_41 (by decide) ?_
        intro v60 h61
        refine tr_goto 46 dX10_awake_42 (by decide) ?_
        refine q_callVi hE (M' := mX10_answered) (as := [_]) dX10_awake_46 lk10_109 inX10_answered seX10_answered myX10_answered (by decide) ⟨by decide, by decide⟩ rfl (kR1 hS39.1 ta0) (Nat.le_of_ble_eq_true rfl) rfl rfl (by decide) (by decide) (fk_X10_answered hS39.1  ta0) ?_
        rintro v67 cn' K' N' I62 R63 L64 ⟨rfl, rfl, rfl, rfl, rfl, g65, p68, p69, -⟩
        have hS70 := hS39.tr g65 (by decide +kernel) (by decide +kernel)
        obtain ⟨v71, c72⟩ : ∃ v, I62 a0 17 = v := ⟨_, rfl⟩
        rw [c72] at p69
        exact tr_iret hZ dX10_awake_49 rfl (by decide) (by decide) ⟨v67, rfl, rfl, rfl, rfl, rfl, hS70, (SkQ.st rp38 hW0 ta0 g65 (by decide +kernel) (by decide +kernel)), trivial⟩
    · skip
      refine tr_aload_n dX10_awake_22 rfl ?_
      refine q_iconst dX10_awake_23 (by decide) ?_
      intro v73 h74
      refine q_callVi hE (M' := mX10_refused) (as := [_]) dX10_awake_24 lk10_79 inX10_refused seX10_refused myX10_refused (by decide) ⟨by decide, by decide⟩ rfl (kR1 hS0.1 ta0) (Nat.le_of_ble_eq_true rfl) rfl rfl (by decide) (by decide) (fk_X10_refused hS0.1  ta0) ?_
      rintro v80 cn' K' N' I75 R76 L77 ⟨rfl, rfl, rfl, rfl, rfl, g78, p81, p82, -⟩
      have hS83 := hS0.tr g78 (by decide +kernel) (by decide +kernel)
      obtain ⟨v84, c85⟩ : ∃ v, I75 a0 17 = v := ⟨_, rfl⟩
      rw [c85] at p82
      exact tr_iret hZ dX10_awake_27 rfl (by decide) (by decide) ⟨v80, rfl, rfl, rfl, rfl, rfl, hS83, (SkQ.st hK hW0 ta0 g78 (by decide +kernel) (by decide +kernel)), trivial⟩
  · skip
    refine tr_aload_n dX10_awake_8 rfl ?_
    refine q_iconst dX10_awake_9 (by decide) ?_
    intro v86 h87
    refine q_callVi hE (M' := mX10_refused) (as := [_]) dX10_awake_10 lk10_79 inX10_refused seX10_refused myX10_refused (by decide) ⟨by decide, by decide⟩ rfl (kR1 hS0.1 ta0) (Nat.le_of_ble_eq_true rfl) rfl rfl (by decide) (by decide) (fk_X10_refused hS0.1  ta0) ?_
    rintro v93 cn' K' N' I88 R89 L90 ⟨rfl, rfl, rfl, rfl, rfl, g91, p94, p95, -⟩
    have hS96 := hS0.tr g91 (by decide +kernel) (by decide +kernel)
    obtain ⟨v97, c98⟩ : ∃ v, I88 a0 17 = v := ⟨_, rfl⟩
    rw [c98] at p95
    exact tr_iret hZ dX10_awake_13 rfl (by decide) (by decide) ⟨v93, rfl, rfl, rfl, rfl, rfl, hS96, (SkQ.st hK hW0 ta0 g91 (by decide +kernel) (by decide +kernel)), trivial⟩
def wik_X10_notices : List Nat := [73, 75, 81, 768, 769, 778, 834, 2303, 2367, 2431, 2495, 2559, 2623, 2687, 2751, 2815, 2879, 2943, 3007, 3071, 3135, 3199, 3263, 3327, 3391]
def wrk_X10_notices : List Nat := [832, 833]
set_option maxHeartbeats 4000000 in
theorem fk_X10_notices {l : Launch} {T : Nat → Nat} {cn : Nat} {K N : Nat → Nat} {I0 : cz_I} {R0 : cz_R} {L0 : cz_L} {d : Int} (hW0 : Wf T cn K N I0 R0 d) (gX : Nat → Nat → Int) {a0 : Nat} (ta0 : T a0 = 1) {x1 : Int32} {x2 : Int32} {x3 : Int32} (hX : EvQ I0 R0 a0 gX) (hK : SkQ I0 R0 a0 gX) (hD : DjS R0 a0) : ConE l mX10_notices [.ref a0, .int x1, .int x2, .int x3] cn K N I0 R0 L0 (ca_i (fun v cn' K' N' I' R' L' => cn = cn' ∧ K = K' ∧ N = N' ∧ L0 = L' ∧ St T cn K N d wik_X10_notices wrk_X10_notices I0 R0 I' R' ∧ (SkQ I' R0 a0 gX) ∧ True)) := by
  refine ConE.of (by decide +kernel) rfl (Nat.le_of_ble_eq_true rfl) rfl (fun X hX hZ hE => ?_)
  subst hX
  have hS0 : St T cn K N d wik_X10_notices wrk_X10_notices I0 R0 I0 R0 := St.rf0 hW0
  obtain ⟨a1, d2, ta1⟩ := rf1_2 hW0 ta0
  obtain ⟨a3, d4, ta3⟩ := rf1_6 hW0 ta0
  obtain ⟨a5, d6, ta5⟩ := rf1_8 hW0 ta0
  obtain ⟨a7, d8, ta7⟩ := rf1_13 hW0 ta0
  refine tr_aload_n dX10_notices_0 rfl ?_
  refine tr_iload_n dX10_notices_1 rfl ?_
  refine q_callVi hE (M' := mX10_isTurner) (as := [_]) dX10_notices_2 lk10_152 inX10_isTurner seX10_isTurner myX10_isTurner (by decide) ⟨by decide, by decide⟩ rfl (kR1 hS0.1 ta0) (Nat.le_of_ble_eq_true rfl) rfl rfl (by decide) (by decide) (k_X10_isTurner hS0.1 ta0) ?_
  rintro v13 cn' K' N' I9 R10 L11 ⟨rfl, rfl, rfl, rfl, rfl, rfl, h14, p15, -⟩
  refine q_if_eq 16 dX10_notices_5 (by decide) (fun h16 => ?_) (fun h16 => ?_)
  · skip
    refine tr_aload_n dX10_notices_16 rfl ?_
    refine q_iconst dX10_notices_17 (by decide) ?_
    intro v17 h18
    refine q_callVi hE (M' := mX10_refused) (as := [_]) dX10_notices_18 lk10_79 inX10_refused seX10_refused myX10_refused (by decide) ⟨by decide, by decide⟩ rfl (kR1 hS0.1 ta0) (Nat.le_of_ble_eq_true rfl) rfl rfl (by decide) (by decide) (fk_X10_refused hS0.1  ta0) ?_
    rintro v24 cn' K' N' I19 R20 L21 ⟨rfl, rfl, rfl, rfl, rfl, g22, p25, p26, -⟩
    have hS27 := hS0.tr g22 (by decide +kernel) (by decide +kernel)
    obtain ⟨v28, c29⟩ : ∃ v, I19 a0 17 = v := ⟨_, rfl⟩
    rw [c29] at p26
    exact tr_iret hZ dX10_notices_21 rfl (by decide) (by decide) ⟨v24, rfl, rfl, rfl, rfl, rfl, hS27, (SkQ.st hK hW0 ta0 g22 (by decide +kernel) (by decide +kernel)), trivial⟩
  · skip
    refine tr_aload_n dX10_notices_8 rfl ?_
    refine tr_iload_n dX10_notices_9 rfl ?_
    obtain ⟨v30, c31⟩ : ∃ v, I0 a1 1 = v := ⟨_, rfl⟩
    have b32 := iv2_1 hW0 ta1 c31
    refine q_callVi hE (M' := mX10_isHut) (as := [_]) dX10_notices_10 lk10_126 inX10_isHut seX10_isHut myX10_isHut (by decide) ⟨by decide, by decide⟩ rfl (kR1 hS0.1 ta0) (Nat.le_of_ble_eq_true rfl) rfl rfl (by decide) (by decide) (fk_X10_isHut hS0.1  ta0) ?_
    rintro v38 cn' K' N' I33 R34 L35 ⟨rfl, rfl, rfl, rfl, rfl, rfl, h39, p40, p41, -⟩
    have p42 := p40 _ d2
    clear p40
    rw [c31] at p42
    have p43 := p41 _ d2
    clear p41
    rw [c31] at p43
    refine q_if_ne 22 dX10_notices_13 (by decide) (fun h44 => ?_) (fun h44 => ?_)
    · skip
      refine tr_aload_n dX10_notices_22 rfl ?_
      refine tr_iload_n dX10_notices_23 rfl ?_
      obtain ⟨v45, c46⟩ : ∃ v, I0 a1 0 = v := ⟨_, rfl⟩
      have b47 := iv2_0 hW0 ta1 c46
      refine q_callVi hE (M' := mX10_isMinute) (as := [_]) dX10_notices_24 lk10_115 inX10_isMinute seX10_isMinute myX10_isMinute (by decide) ⟨by decide, by decide⟩ rfl (kR1 hS0.1 ta0) (Nat.le_of_ble_eq_true rfl) rfl rfl (by decide) (by decide) (fk_X10_isMinute hS0.1  ta0) ?_
      rintro v53 cn' K' N' I48 R49 L50 ⟨rfl, rfl, rfl, rfl, rfl, rfl, h54, p55, p56, -⟩
      have p57 := p55 _ d2
      clear p55
      rw [c46] at p57
      have p58 := p56 _ d2
      clear p56
      rw [c46] at p58
      refine q_if_ne 36 dX10_notices_27 (by decide) (fun h59 => ?_) (fun h59 => ?_)
      · skip
        refine tr_aload_n dX10_notices_36 rfl ?_
        refine tr_aload_n dX10_notices_37 rfl ?_
        refine q_callVr hE (M' := mX10_presentNight) (as := []) dX10_notices_38 lk10_155 inX10_presentNight seX10_presentNight myX10_presentNight (by decide) ⟨by decide, by decide⟩ rfl (kR1 hS0.1 ta0) (Nat.le_of_ble_eq_true rfl) rfl rfl (by decide) (by decide) (fk_X10_presentNight hS0.1 (gX) ta0 hX hK hD) ?_
        rintro a65 cn' K' N' I60 R61 L62 ⟨rfl, rfl, rfl, rfl, g63, ta65, rp66, -⟩
        have hS67 := hS0.tr g63 (by decide +kernel) (by decide +kernel)
        refine tr_iload_n dX10_notices_41 rfl ?_
        refine tr_iload_n dX10_notices_42 rfl ?_
        refine q_callVi hE (M' := mX5_noticedHuts) (as := [_, _]) dX10_notices_43 lk10_163 inX5_noticedHuts seX5_noticedHuts myX5_noticedHuts (by decide) ⟨by decide, by decide⟩ rfl (kR13 hS67.1 ta65) (Nat.le_of_ble_eq_true rfl) rfl rfl (by decide) (by decide) (k_X5_noticedHuts hS67.1 ta65 (by omega) (by omega)) ?_
        rintro v72 cn' K' N' I68 R69 L70 ⟨rfl, rfl, rfl, rfl, rfl, rfl, -⟩
        refine tr_iload_n dX10_notices_46 rfl ?_
        refine q_callSi hE (M' := mX10_bit) (as := [_, _]) dX10_notices_47 lk10_136 inX10_bit myX10_bit ⟨by decide, by decide⟩ rfl (Nat.le_of_ble_eq_true rfl) rfl rfl (by decide) (by decide) (k_X10_bit hS67.1 ) ?_
        rintro v77 cn' K' N' I73 R74 L75 ⟨rfl, rfl, rfl, rfl, rfl, rfl, -⟩
        refine q_callVi hE (M' := mX10_answered) (as := [_]) dX10_notices_50 lk10_109 inX10_answered seX10_answered myX10_answered (by decide) ⟨by decide, by decide⟩ rfl (kR1 hS67.1 ta0) (Nat.le_of_ble_eq_true rfl) rfl rfl (by decide) (by decide) (fk_X10_answered hS67.1  ta0) ?_
        rintro v83 cn' K' N' I78 R79 L80 ⟨rfl, rfl, rfl, rfl, rfl, g81, p84, p85, -⟩
        have hS86 := hS67.tr g81 (by decide +kernel) (by decide +kernel)
        obtain ⟨v87, c88⟩ : ∃ v, I78 a0 17 = v := ⟨_, rfl⟩
        rw [c88] at p85
        exact tr_iret hZ dX10_notices_53 rfl (by decide) (by decide) ⟨v83, rfl, rfl, rfl, rfl, rfl, hS86, (SkQ.st rp66 hW0 ta0 g81 (by decide +kernel) (by decide +kernel)), trivial⟩
      · skip
        refine tr_aload_n dX10_notices_30 rfl ?_
        refine q_iconst dX10_notices_31 (by decide) ?_
        intro v89 h90
        refine q_callVi hE (M' := mX10_refused) (as := [_]) dX10_notices_32 lk10_79 inX10_refused seX10_refused myX10_refused (by decide) ⟨by decide, by decide⟩ rfl (kR1 hS0.1 ta0) (Nat.le_of_ble_eq_true rfl) rfl rfl (by decide) (by decide) (fk_X10_refused hS0.1  ta0) ?_
        rintro v96 cn' K' N' I91 R92 L93 ⟨rfl, rfl, rfl, rfl, rfl, g94, p97, p98, -⟩
        have hS99 := hS0.tr g94 (by decide +kernel) (by decide +kernel)
        obtain ⟨v100, c101⟩ : ∃ v, I91 a0 17 = v := ⟨_, rfl⟩
        rw [c101] at p98
        exact tr_iret hZ dX10_notices_35 rfl (by decide) (by decide) ⟨v96, rfl, rfl, rfl, rfl, rfl, hS99, (SkQ.st hK hW0 ta0 g94 (by decide +kernel) (by decide +kernel)), trivial⟩
    · skip
      refine tr_aload_n dX10_notices_16 rfl ?_
      refine q_iconst dX10_notices_17 (by decide) ?_
      intro v102 h103
      refine q_callVi hE (M' := mX10_refused) (as := [_]) dX10_notices_18 lk10_79 inX10_refused seX10_refused myX10_refused (by decide) ⟨by decide, by decide⟩ rfl (kR1 hS0.1 ta0) (Nat.le_of_ble_eq_true rfl) rfl rfl (by decide) (by decide) (fk_X10_refused hS0.1  ta0) ?_
      rintro v109 cn' K' N' I104 R105 L106 ⟨rfl, rfl, rfl, rfl, rfl, g107, p110, p111, -⟩
      have hS112 := hS0.tr g107 (by decide +kernel) (by decide +kernel)
      obtain ⟨v113, c114⟩ : ∃ v, I104 a0 17 = v := ⟨_, rfl⟩
      rw [c114] at p111
      exact tr_iret hZ dX10_notices_21 rfl (by decide) (by decide) ⟨v109, rfl, rfl, rfl, rfl, rfl, hS112, (SkQ.st hK hW0 ta0 g107 (by decide +kernel) (by decide +kernel)), trivial⟩
def wik_X10_work : List Nat := [73, 75, 81, 768, 769, 778, 834, 2303, 2367, 2431, 2495, 2559, 2623, 2687, 2751, 2815, 2879, 2943, 3007, 3071, 3135, 3199, 3263, 3327, 3391]
def wrk_X10_work : List Nat := [832, 833]
set_option maxHeartbeats 4000000 in
theorem fk_X10_work {l : Launch} {T : Nat → Nat} {cn : Nat} {K N : Nat → Nat} {I0 : cz_I} {R0 : cz_R} {L0 : cz_L} {d : Int} (hW0 : Wf T cn K N I0 R0 d) (gX : Nat → Nat → Int) {a0 : Nat} (ta0 : T a0 = 1) {x1 : Int32} {x2 : Int32} (hX : EvQ I0 R0 a0 gX) (hK : SkQ I0 R0 a0 gX) (hD : DjS R0 a0) : ConE l mX10_work [.ref a0, .int x1, .int x2] cn K N I0 R0 L0 (ca_i (fun v cn' K' N' I' R' L' => cn = cn' ∧ K = K' ∧ N = N' ∧ L0 = L' ∧ St T cn K N d wik_X10_work wrk_X10_work I0 R0 I' R' ∧ (SkQ I' R0 a0 gX) ∧ True)) := by
  refine ConE.of (by decide +kernel) rfl (Nat.le_of_ble_eq_true rfl) rfl (fun X hX hZ hE => ?_)
  subst hX
  have hS0 : St T cn K N d wik_X10_work wrk_X10_work I0 R0 I0 R0 := St.rf0 hW0
  obtain ⟨a1, d2, ta1⟩ := rf1_2 hW0 ta0
  obtain ⟨a3, d4, ta3⟩ := rf1_6 hW0 ta0
  obtain ⟨a5, d6, ta5⟩ := rf1_8 hW0 ta0
  obtain ⟨a7, d8, ta7⟩ := rf1_13 hW0 ta0
  refine tr_aload_n dX10_work_0 rfl ?_
  refine tr_iload_n dX10_work_1 rfl ?_
  refine q_callVi hE (M' := mX10_isTurner) (as := [_]) dX10_work_2 lk10_152 inX10_isTurner seX10_isTurner myX10_isTurner (by decide) ⟨by decide, by decide⟩ rfl (kR1 hS0.1 ta0) (Nat.le_of_ble_eq_true rfl) rfl rfl (by decide) (by decide) (k_X10_isTurner hS0.1 ta0) ?_
  rintro v13 cn' K' N' I9 R10 L11 ⟨rfl, rfl, rfl, rfl, rfl, rfl, h14, p15, -⟩
  refine q_if_ne 14 dX10_work_5 (by decide) (fun h16 => ?_) (fun h16 => ?_)
  · skip
    refine tr_aload_n dX10_work_14 rfl ?_
    refine q_callVr hE (M' := mX10_presentNight) (as := []) dX10_work_15 lk10_155 inX10_presentNight seX10_presentNight myX10_presentNight (by decide) ⟨by decide, by decide⟩ rfl (kR1 hS0.1 ta0) (Nat.le_of_ble_eq_true rfl) rfl rfl (by decide) (by decide) (fk_X10_presentNight hS0.1 (gX) ta0 hX hK hD) ?_
    rintro a22 cn' K' N' I17 R18 L19 ⟨rfl, rfl, rfl, rfl, g20, ta22, rp23, -⟩
    have hS24 := hS0.tr g20 (by decide +kernel) (by decide +kernel)
    refine tr_astore_n dX10_work_18 (by decide) (by decide) ?_
    refine tr_iload_n dX10_work_19 rfl ?_
    by_cases h25 : x2.toInt = 0
    · skip
      refine tr_tabIn (off := 32) 52 dX10_work_20 (by omega) (by omega) (by rw [h25]; decide +kernel) (by decide) ?_
      refine tr_aload_n dX10_work_52 rfl ?_
      refine tr_aload_n dX10_work_53 rfl ?_
      obtain ⟨a26, d27, ta26⟩ := rf13_8 hW0 ta22
      refine tr_getR dX10_work_54 fl10_166 (kR13 hS24.1 ta22) ((hS24.rcell ta22 (by decide +kernel)).trans d27) ?_
      refine tr_iload_n dX10_work_57 rfl ?_
      refine q_iald dX10_work_58 (kR49 hS24.1 ta26) (ti_in (nR49 hS24.1 ta26) (by omega) (by omega)) ?_
      intro v28 c29
      refine q_callVi hE (M' := mX10_answered) (as := [_]) dX10_work_59 lk10_109 inX10_answered seX10_answered myX10_answered (by decide) ⟨by decide, by decide⟩ rfl (kR1 hS24.1 ta0) (Nat.le_of_ble_eq_true rfl) rfl rfl (by decide) (by decide) (fk_X10_answered hS24.1  ta0) ?_
      rintro v35 cn' K' N' I30 R31 L32 ⟨rfl, rfl, rfl, rfl, rfl, g33, p36, p37, -⟩
      have hS38 := hS24.tr g33 (by decide +kernel) (by decide +kernel)
      obtain ⟨v39, c40⟩ : ∃ v, I30 a0 17 = v := ⟨_, rfl⟩
      rw [c40] at p37
      exact tr_iret hZ dX10_work_62 rfl (by decide) (by decide) ⟨v35, rfl, rfl, rfl, rfl, rfl, hS38, (SkQ.st rp23 hW0 ta0 g33 (by decide +kernel) (by decide +kernel)), trivial⟩
    · skip
      by_cases h41 : x2.toInt = 1
      · skip
        refine tr_tabIn (off := 43) 63 dX10_work_20 (by omega) (by omega) (by rw [h41]; decide +kernel) (by decide) ?_
        refine tr_aload_n dX10_work_63 rfl ?_
        refine tr_aload_n dX10_work_64 rfl ?_
        obtain ⟨a42, d43, ta42⟩ := rf13_9 hW0 ta22
        refine tr_getR dX10_work_65 fl10_169 (kR13 hS24.1 ta22) ((hS24.rcell ta22 (by decide +kernel)).trans d43) ?_
        refine tr_iload_n dX10_work_68 rfl ?_
        refine q_iald dX10_work_69 (kR50 hS24.1 ta42) (ti_in (nR50 hS24.1 ta42) (by omega) (by omega)) ?_
        intro v44 c45
        refine q_callVi hE (M' := mX10_answered) (as := [_]) dX10_work_70 lk10_109 inX10_answered seX10_answered myX10_answered (by decide) ⟨by decide, by decide⟩ rfl (kR1 hS24.1 ta0) (Nat.le_of_ble_eq_true rfl) rfl rfl (by decide) (by decide) (fk_X10_answered hS24.1  ta0) ?_
        rintro v51 cn' K' N' I46 R47 L48 ⟨rfl, rfl, rfl, rfl, rfl, g49, p52, p53, -⟩
        have hS54 := hS24.tr g49 (by decide +kernel) (by decide +kernel)
        obtain ⟨v55, c56⟩ : ∃ v, I46 a0 17 = v := ⟨_, rfl⟩
        rw [c56] at p53
        exact tr_iret hZ dX10_work_73 rfl (by decide) (by decide) ⟨v51, rfl, rfl, rfl, rfl, rfl, hS54, (SkQ.st rp23 hW0 ta0 g49 (by decide +kernel) (by decide +kernel)), trivial⟩
      · skip
        by_cases h57 : x2.toInt = 2
        · skip
          refine tr_tabIn (off := 54) 74 dX10_work_20 (by omega) (by omega) (by rw [h57]; decide +kernel) (by decide) ?_
          refine tr_aload_n dX10_work_74 rfl ?_
          refine tr_aload_n dX10_work_75 rfl ?_
          obtain ⟨a58, d59, ta58⟩ := rf13_10 hW0 ta22
          refine tr_getR dX10_work_76 fl10_172 (kR13 hS24.1 ta22) ((hS24.rcell ta22 (by decide +kernel)).trans d59) ?_
          refine tr_iload_n dX10_work_79 rfl ?_
          refine q_iald dX10_work_80 (kR51 hS24.1 ta58) (ti_in (nR51 hS24.1 ta58) (by omega) (by omega)) ?_
          intro v60 c61
          refine q_callVi hE (M' := mX10_answered) (as := [_]) dX10_work_81 lk10_109 inX10_answered seX10_answered myX10_answered (by decide) ⟨by decide, by decide⟩ rfl (kR1 hS24.1 ta0) (Nat.le_of_ble_eq_true rfl) rfl rfl (by decide) (by decide) (fk_X10_answered hS24.1  ta0) ?_
          rintro v67 cn' K' N' I62 R63 L64 ⟨rfl, rfl, rfl, rfl, rfl, g65, p68, p69, -⟩
          have hS70 := hS24.tr g65 (by decide +kernel) (by decide +kernel)
          obtain ⟨v71, c72⟩ : ∃ v, I62 a0 17 = v := ⟨_, rfl⟩
          rw [c72] at p69
          exact tr_iret hZ dX10_work_84 rfl (by decide) (by decide) ⟨v67, rfl, rfl, rfl, rfl, rfl, hS70, (SkQ.st rp23 hW0 ta0 g65 (by decide +kernel) (by decide +kernel)), trivial⟩
        · skip
          by_cases h73 : x2.toInt = 3
          · skip
            refine tr_tabIn (off := 65) 85 dX10_work_20 (by omega) (by omega) (by rw [h73]; decide +kernel) (by decide) ?_
            refine tr_aload_n dX10_work_85 rfl ?_
            refine tr_aload_n dX10_work_86 rfl ?_
            refine tr_iload_n dX10_work_87 rfl ?_
            refine q_callVi hE (M' := mX5_minutesAwake) (as := [_]) dX10_work_88 lk10_175 inX5_minutesAwake seX5_minutesAwake myX5_minutesAwake (by decide) ⟨by decide, by decide⟩ rfl (kR13 hS24.1 ta22) (Nat.le_of_ble_eq_true rfl) rfl rfl (by decide) (by decide) (k_X5_minutesAwake hS24.1 ta22 (by omega)) ?_
            rintro v78 cn' K' N' I74 R75 L76 ⟨rfl, rfl, rfl, rfl, rfl, rfl, -⟩
            refine q_callVi hE (M' := mX10_answered) (as := [_]) dX10_work_91 lk10_109 inX10_answered seX10_answered myX10_answered (by decide) ⟨by decide, by decide⟩ rfl (kR1 hS24.1 ta0) (Nat.le_of_ble_eq_true rfl) rfl rfl (by decide) (by decide) (fk_X10_answered hS24.1  ta0) ?_
            rintro v84 cn' K' N' I79 R80 L81 ⟨rfl, rfl, rfl, rfl, rfl, g82, p85, p86, -⟩
            have hS87 := hS24.tr g82 (by decide +kernel) (by decide +kernel)
            obtain ⟨v88, c89⟩ : ∃ v, I79 a0 17 = v := ⟨_, rfl⟩
            rw [c89] at p86
            exact tr_iret hZ dX10_work_94 rfl (by decide) (by decide) ⟨v84, rfl, rfl, rfl, rfl, rfl, hS87, (SkQ.st rp23 hW0 ta0 g82 (by decide +kernel) (by decide +kernel)), trivial⟩
          · skip
            refine tr_tabOut 95 dX10_work_20 (by omega) (by decide) ?_
            refine tr_aload_n dX10_work_95 rfl ?_
            refine q_iconst dX10_work_96 (by decide) ?_
            intro v90 h91
            refine q_callVi hE (M' := mX10_refused) (as := [_]) dX10_work_97 lk10_79 inX10_refused seX10_refused myX10_refused (by decide) ⟨by decide, by decide⟩ rfl (kR1 hS24.1 ta0) (Nat.le_of_ble_eq_true rfl) rfl rfl (by decide) (by decide) (fk_X10_refused hS24.1  ta0) ?_
            rintro v97 cn' K' N' I92 R93 L94 ⟨rfl, rfl, rfl, rfl, rfl, g95, p98, p99, -⟩
            have hS100 := hS24.tr g95 (by decide +kernel) (by decide +kernel)
            obtain ⟨v101, c102⟩ : ∃ v, I92 a0 17 = v := ⟨_, rfl⟩
            rw [c102] at p99
            exact tr_iret hZ dX10_work_100 rfl (by decide) (by decide) ⟨v97, rfl, rfl, rfl, rfl, rfl, hS100, (SkQ.st rp23 hW0 ta0 g95 (by decide +kernel) (by decide +kernel)), trivial⟩
  · skip
    refine tr_aload_n dX10_work_8 rfl ?_
    refine q_iconst dX10_work_9 (by decide) ?_
    intro v103 h104
    refine q_callVi hE (M' := mX10_refused) (as := [_]) dX10_work_10 lk10_79 inX10_refused seX10_refused myX10_refused (by decide) ⟨by decide, by decide⟩ rfl (kR1 hS0.1 ta0) (Nat.le_of_ble_eq_true rfl) rfl rfl (by decide) (by decide) (fk_X10_refused hS0.1  ta0) ?_
    rintro v110 cn' K' N' I105 R106 L107 ⟨rfl, rfl, rfl, rfl, rfl, g108, p111, p112, -⟩
    have hS113 := hS0.tr g108 (by decide +kernel) (by decide +kernel)
    obtain ⟨v114, c115⟩ : ∃ v, I105 a0 17 = v := ⟨_, rfl⟩
    rw [c115] at p112
    exact tr_iret hZ dX10_work_13 rfl (by decide) (by decide) ⟨v110, rfl, rfl, rfl, rfl, rfl, hS113, (SkQ.st hK hW0 ta0 g108 (by decide +kernel) (by decide +kernel)), trivial⟩
def wik_X10_worth : List Nat := [73, 75, 81, 768, 769, 778, 834, 2303, 2367, 2431, 2495, 2559, 2623, 2687, 2751, 2815, 2879, 2943, 3007, 3071, 3135, 3199, 3263, 3327, 3391]
def wrk_X10_worth : List Nat := [832, 833]
set_option maxHeartbeats 4000000 in
theorem fk_X10_worth {l : Launch} {T : Nat → Nat} {cn : Nat} {K N : Nat → Nat} {I0 : cz_I} {R0 : cz_R} {L0 : cz_L} {d : Int} (hW0 : Wf T cn K N I0 R0 d) (gX : Nat → Nat → Int) {a0 : Nat} (ta0 : T a0 = 1) {x1 : Int32} (hX : EvQ I0 R0 a0 gX) (hK : SkQ I0 R0 a0 gX) (hD : DjS R0 a0) : ConE l mX10_worth [.ref a0, .int x1] cn K N I0 R0 L0 (ca_i (fun v cn' K' N' I' R' L' => cn = cn' ∧ K = K' ∧ N = N' ∧ L0 = L' ∧ St T cn K N d wik_X10_worth wrk_X10_worth I0 R0 I' R' ∧ (SkQ I' R0 a0 gX) ∧ True)) := by
  refine ConE.of (by decide +kernel) rfl (Nat.le_of_ble_eq_true rfl) rfl (fun X hX hZ hE => ?_)
  subst hX
  have hS0 : St T cn K N d wik_X10_worth wrk_X10_worth I0 R0 I0 R0 := St.rf0 hW0
  obtain ⟨a1, d2, ta1⟩ := rf1_2 hW0 ta0
  obtain ⟨a3, d4, ta3⟩ := rf1_6 hW0 ta0
  obtain ⟨a5, d6, ta5⟩ := rf1_8 hW0 ta0
  obtain ⟨a7, d8, ta7⟩ := rf1_13 hW0 ta0
  refine tr_aload_n dX10_worth_0 rfl ?_
  refine tr_iload_n dX10_worth_1 rfl ?_
  refine q_callVi hE (M' := mX10_isTurner) (as := [_]) dX10_worth_2 lk10_152 inX10_isTurner seX10_isTurner myX10_isTurner (by decide) ⟨by decide, by decide⟩ rfl (kR1 hS0.1 ta0) (Nat.le_of_ble_eq_true rfl) rfl rfl (by decide) (by decide) (k_X10_isTurner hS0.1 ta0) ?_
  rintro v13 cn' K' N' I9 R10 L11 ⟨rfl, rfl, rfl, rfl, rfl, rfl, h14, p15, -⟩
  refine q_if_ne 14 dX10_worth_5 (by decide) (fun h16 => ?_) (fun h16 => ?_)
  · skip
    refine tr_aload_n dX10_worth_14 rfl ?_
    obtain ⟨a17, d18, ta17⟩ := rf1_14 hW0 ta0
    refine tr_getR dX10_worth_15 fl10_68 (kR1 hS0.1 ta0) d18 ?_
    refine tr_aload_n dX10_worth_18 rfl ?_
    refine tr_getR dX10_worth_19 fl10_16 (kR1 hS0.1 ta0) d2 ?_
    refine tr_aload_n dX10_worth_22 rfl ?_
    refine q_callVr hE (M' := mX10_presentSky) (as := []) dX10_worth_23 lk10_119 inX10_presentSky seX10_presentSky myX10_presentSky (by decide) ⟨by decide, by decide⟩ rfl (kR1 hS0.1 ta0) (Nat.le_of_ble_eq_true rfl) rfl rfl (by decide) (by decide) (fk_X10_presentSky hS0.1 (gX) ta0 hX hK hD) ?_
    rintro a24 cn' K' N' I19 R20 L21 ⟨rfl, rfl, rfl, rfl, rfl, g22, ta24, p25, rp26, rp27, rp28, -⟩
    have hS29 := hS0.tr g22 (by decide +kernel) (by decide +kernel)
    obtain ⟨v30, c31⟩ : ∃ v, I19 a0 9 = v := ⟨_, rfl⟩
    have b32 := iv1_9 hS29.1 ta0 c31
    rw [c31] at p25
    refine tr_aload_n dX10_worth_26 rfl ?_
    refine tr_getR dX10_worth_27 fl10_35 (kR1 hS29.1 ta0) d4 ?_
    obtain ⟨v33, c34⟩ : ∃ v, I0 a3 0 = v := ⟨_, rfl⟩
    refine q_getI dX10_worth_30 fl10_181 (kR8 hS29.1 ta3) ((hS29.cell ta3 (by decide +kernel)).trans c34) ?_
    refine tr_aload_n dX10_worth_33 rfl ?_
    refine q_callVi hE (M' := mX10_allTurners) (as := []) dX10_worth_34 lk10_184 inX10_allTurners seX10_allTurners myX10_allTurners (by decide) ⟨by decide, by decide⟩ rfl (kR1 hS29.1 ta0) (Nat.le_of_ble_eq_true rfl) rfl rfl (by decide) (by decide) (k_X10_allTurners hS29.1 ta0) ?_
    rintro v39 cn' K' N' I35 R36 L37 ⟨rfl, rfl, rfl, rfl, rfl, rfl, h40, -⟩
    refine q_iconst dX10_worth_37 (by decide) ?_
    intro v41 h42
    refine tr_iload_n dX10_worth_38 rfl ?_
    refine q_ishlE dX10_worth_39 (by omega) (by omega) ?_
    intro v43 h44
    refine q_iconst dX10_worth_40 (by decide) ?_
    intro v45 h46
    refine q_ixor dX10_worth_41 ?_
    intro v47
    refine q_iand dX10_worth_42 ?_
    intro v48
    refine q_callVv hE (M' := mX5_play) (as := [_, _, _, _]) dX10_worth_43 lk10_188 inX5_play seX5_play myX5_play (by decide) ⟨by decide, by decide⟩ rfl (kR13 hS29.1 ta17) (Nat.le_of_ble_eq_true rfl) rfl rfl (by decide) (by decide) (k_X5_play hS29.1 ta17 ta1 ta24) ?_
    rintro cn' K' N' I49 R50 L51 ⟨rfl, rfl, rfl, rfl, g52, -⟩
    have hS54 := hS29.tr g52 (by decide +kernel) (by decide +kernel)
    have c55 : I49 a0 9 = v30 := (g52.cell ta0 (by decide +kernel)).trans c31
    refine tr_aload_n dX10_worth_46 rfl ?_
    refine tr_aload_n dX10_worth_47 rfl ?_
    refine q_callVr hE (M' := mX10_presentNight) (as := []) dX10_worth_48 lk10_155 inX10_presentNight seX10_presentNight myX10_presentNight (by decide) ⟨by decide, by decide⟩ rfl (kR1 hS54.1 ta0) (Nat.le_of_ble_eq_true rfl) rfl rfl (by decide) (by decide) (fk_X10_presentNight hS54.1 (gX) ta0 (EvQ.rc (EvQ.st hX hW0 ta0 hS54 (by decide +kernel)) hW0 ta0 (R13 hS54 (by decide +kernel))) (SkQ.rc (SkQ.st (SkQ.of rp27) hW0 ta0 g52 (by decide +kernel) (by decide +kernel)) hW0 ta0 (R13 hS54 (by decide +kernel))) (DjS.rc hD hW0 ta0 (R13 hS54 (by decide +kernel)))) ?_
    rintro a61 cn' K' N' I56 R57 L58 ⟨rfl, rfl, rfl, rfl, g59, ta61, rp62, -⟩
    have hS63 := hS54.tr g59 (by decide +kernel) (by decide +kernel)
    refine q_callVi hE (M' := mX5_sum) (as := []) dX10_worth_51 lk10_192 inX5_sum seX5_sum myX5_sum (by decide) ⟨by decide, by decide⟩ rfl (kR13 hS63.1 ta61) (Nat.le_of_ble_eq_true rfl) rfl rfl (by decide) (by decide) (k_X5_sum hS63.1 ta61) ?_
    rintro v68 cn' K' N' I64 R65 L66 ⟨rfl, rfl, rfl, rfl, rfl, rfl, -⟩
    refine tr_aload_n dX10_worth_54 rfl ?_
    refine tr_getR dX10_worth_55 fl10_68 (kR1 hS63.1 ta0) ((hS63.rcell ta0 (by decide +kernel)).trans d18) ?_
    refine q_callVi hE (M' := mX5_sum) (as := []) dX10_worth_58 lk10_192 inX5_sum seX5_sum myX5_sum (by decide) ⟨by decide, by decide⟩ rfl (kR13 hS63.1 ta17) (Nat.le_of_ble_eq_true rfl) rfl rfl (by decide) (by decide) (k_X5_sum hS63.1 ta17) ?_
    rintro v73 cn' K' N' I69 R70 L71 ⟨rfl, rfl, rfl, rfl, rfl, rfl, -⟩
    refine q_isub dX10_worth_61 ?_
    intro v74
    refine q_callVi hE (M' := mX10_answered) (as := [_]) dX10_worth_62 lk10_109 inX10_answered seX10_answered myX10_answered (by decide) ⟨by decide, by decide⟩ rfl (kR1 hS63.1 ta0) (Nat.le_of_ble_eq_true rfl) rfl rfl (by decide) (by decide) (fk_X10_answered hS63.1  ta0) ?_
    rintro v80 cn' K' N' I75 R76 L77 ⟨rfl, rfl, rfl, rfl, rfl, g78, p81, p82, -⟩
    have hS83 := hS63.tr g78 (by decide +kernel) (by decide +kernel)
    obtain ⟨v84, c85⟩ : ∃ v, I75 a0 17 = v := ⟨_, rfl⟩
    rw [c85] at p82
    exact tr_iret hZ dX10_worth_65 rfl (by decide) (by decide) ⟨v80, rfl, rfl, rfl, rfl, rfl, hS83, (SkQ.st (SkQ.rc rp62 hS54.1 ta0 (fun a j q => (R13 hS54 (by decide +kernel) a j q).symm)) hW0 ta0 g78 (by decide +kernel) (by decide +kernel)), trivial⟩
  · skip
    refine tr_aload_n dX10_worth_8 rfl ?_
    refine q_iconst dX10_worth_9 (by decide) ?_
    intro v86 h87
    refine q_callVi hE (M' := mX10_refusedTotal) (as := [_]) dX10_worth_10 lk10_178 inX10_refusedTotal seX10_refusedTotal myX10_refusedTotal (by decide) ⟨by decide, by decide⟩ rfl (kR1 hS0.1 ta0) (Nat.le_of_ble_eq_true rfl) rfl rfl (by decide) (by decide) (k_X10_refusedTotal hS0.1 ta0) ?_
    rintro v92 cn' K' N' I88 R89 L90 ⟨rfl, rfl, rfl, rfl, rfl, g91, -⟩
    have hS93 := hS0.tr g91 (by decide +kernel) (by decide +kernel)
    exact tr_iret hZ dX10_worth_13 rfl (by decide) (by decide) ⟨v92, rfl, rfl, rfl, rfl, rfl, hS93, (SkQ.st hK hW0 ta0 g91 (by decide +kernel) (by decide +kernel)), trivial⟩
