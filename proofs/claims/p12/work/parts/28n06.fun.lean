def wik_X10_work : List Nat := [73, 75, 81, 768, 769, 778, 834, 2303, 2367, 2431, 2495, 2559, 2623, 2687, 2751, 2815, 2879, 2943, 3007, 3071, 3135, 3199, 3263, 3327, 3391]
def wrk_X10_work : List Nat := [832, 833]
def Cs_X10_work (T : Nat → Nat) (I0 : cz_I) (R0 : cz_R) (a0 : Nat) (gX : Nat → Nat → Int) (gE : Nat → Nat → Int) (gc : Nat → Int) (x1 : Int32) (x2 : Int32) (v : Int32) (I' : cz_I) (R' : cz_R) : Prop :=
  ((∀ b1, R0 a0 2 = some b1 → (x1.toInt < 0 ∨ x1.toInt ≥ (I0 b1 9).toInt)) ∧ (v.toInt = -1) ∧ True) ∨
  ((0 ≤ x1.toInt) ∧ (∀ b1, R0 a0 2 = some b1 → x1.toInt < (I0 b1 9).toInt) ∧ ((x2.toInt < 0 ∨ x2.toInt > 3)) ∧ (v.toInt = -1) ∧ True) ∨
  ((0 ≤ x1.toInt) ∧ (∀ b1, R0 a0 2 = some b1 → x1.toInt < (I0 b1 9).toInt) ∧ (0 ≤ x2.toInt) ∧ (x2.toInt ≤ 3) ∧ (∀ al nw, R0 a0 2 = some al → R0 a0 6 = some nw → v.toInt = wkZ (NgZ I0 al nw gX gE gc) x1.toInt.toNat x2.toInt) ∧ True)
set_option maxHeartbeats 4000000 in
theorem fk_X10_work {l : Launch} {T : Nat → Nat} {cn : Nat} {K N : Nat → Nat} {I0 : cz_I} {R0 : cz_R} {L0 : cz_L} {d : Int} (hW0 : Wf T cn K N I0 R0 d) (gX : Nat → Nat → Int) (gE : Nat → Nat → Int) (gc : Nat → Int) {a0 : Nat} (ta0 : T a0 = 1) {x1 : Int32} {x2 : Int32} (hX : EvQ I0 R0 a0 gX) (hK : SkQ I0 R0 a0 gX) (hD : DjS R0 a0) (hEa : ∀ al, R0 a0 2 = some al → CVa I0 R0 al gc gE) (hGd : GdE gc gE) (hMs : ∀ nw, R0 a0 6 = some nw → 0 ≤ (I0 nw 0).toInt ∧ (I0 nw 0).toInt ≤ 63) (hNg : NgQ I0 R0 a0 gX gE gc) (hDn : DjN R0 a0) (h1 : 1 ≤ gc 0 ∨ ∀ i, gc i = 0) : ConE l mX10_work [.ref a0, .int x1, .int x2] cn K N I0 R0 L0 (ca_i (fun v cn' K' N' I' R' L' => cn = cn' ∧ K = K' ∧ N = N' ∧ L0 = L' ∧ St T cn K N d wik_X10_work wrk_X10_work I0 R0 I' R' ∧ (SkQ I' R0 a0 gX) ∧ (NgQ I' R' a0 gX gE gc) ∧ Cs_X10_work T I0 R0 a0 gX gE gc x1 x2 v I' R' ∧ True)) := by
  refine ConE.of (by decide +kernel) rfl (Nat.le_of_ble_eq_true rfl) rfl (fun X hX hZ hE => ?_)
  subst hX
  have hS0 : St T cn K N d wik_X10_work wrk_X10_work I0 R0 I0 R0 := St.rf0 hW0
  obtain ⟨a1, d2, ta1⟩ := rf1_2 hW0 ta0
  obtain ⟨v3, c4⟩ : ∃ v, I0 a1 9 = v := ⟨_, rfl⟩
  have b5 := iv2_9 hW0 ta1 c4
  obtain ⟨a6, d7, ta6⟩ := rf1_6 hW0 ta0
  obtain ⟨a8, d9, ta8⟩ := rf1_8 hW0 ta0
  obtain ⟨a10, d11, ta10⟩ := rf1_10 hW0 ta0
  obtain ⟨a12, d13, ta12⟩ := rf1_13 hW0 ta0
  obtain ⟨a14, d15, ta14⟩ := rf1_14 hW0 ta0
  obtain ⟨v16, c17⟩ : ∃ v, I0 a1 0 = v := ⟨_, rfl⟩
  have b18 := iv2_0 hW0 ta1 c17
  obtain ⟨v19, c20⟩ : ∃ v, I0 a1 1 = v := ⟨_, rfl⟩
  have b21 := iv2_1 hW0 ta1 c20
  obtain ⟨v22, c23⟩ : ∃ v, I0 a1 3 = v := ⟨_, rfl⟩
  have b24 := iv2_3 hW0 ta1 c23
  obtain ⟨v25, c26⟩ : ∃ v, I0 a1 5 = v := ⟨_, rfl⟩
  have b27 := iv2_5 hW0 ta1 c26
  obtain ⟨v28, c29⟩ : ∃ v, I0 a1 11 = v := ⟨_, rfl⟩
  have b30 := iv2_11 hW0 ta1 c29
  obtain ⟨v31, c32⟩ : ∃ v, I0 a6 0 = v := ⟨_, rfl⟩
  obtain ⟨v33, c34⟩ : ∃ v, I0 a6 2 = v := ⟨_, rfl⟩
  have b35 := iv8_2 hW0 ta6 c34
  have hc36 := (hEa _ d2).ct
  rw [c17, c20, c26, c4, c29] at hc36
  have hc36m := hMs _ d7
  have hc36g := hGd.own hc36m gX (-1) ((I0 a1 3).toInt.toNat + (I0 a6 2).toInt.toNat)
  rw [c32] at hc36m
  have hc36z0 : nzc ((NgZ I0 a1 a6 gX gE gc)) 0 = gc 0 := rfl
  have hc36z1 : nzc ((NgZ I0 a1 a6 gX gE gc)) 1 = gc 1 := rfl
  have hc36z3 : nzc ((NgZ I0 a1 a6 gX gE gc)) 3 = gc 3 := rfl
  have hc36z4 : nzc ((NgZ I0 a1 a6 gX gE gc)) 4 = gc 4 := rfl
  have hc36z5 : nzc ((NgZ I0 a1 a6 gX gE gc)) 5 = gc 5 := rfl
  refine tr_aload_n dX10_work_0 rfl ?_
  refine tr_iload_n dX10_work_1 rfl ?_
  refine q_callVi hE (M' := mX10_isTurner) (as := [_]) dX10_work_2 lk10_152 inX10_isTurner seX10_isTurner myX10_isTurner (by decide) ⟨by decide, by decide⟩ rfl (kR1 hS0.1 ta0) (Nat.le_of_ble_eq_true rfl) rfl rfl (by decide) (by decide) (fk_X10_isTurner hS0.1  ta0) ?_
  rintro v42 cn' K' N' I37 R38 L39 ⟨rfl, rfl, rfl, rfl, rfl, rfl, h43, p44, p45, -⟩
  have p46 := p44 _ d2
  clear p44
  rw [c4] at p46
  have p47 := p45 _ d2
  clear p45
  rw [c4] at p47
  refine q_if_ne 14 dX10_work_5 (by decide) (fun h48 => ?_) (fun h48 => ?_)
  · skip
    refine tr_aload_n dX10_work_14 rfl ?_
    refine q_callVr hE (M' := mX10_presentNight) (as := []) dX10_work_15 lk10_155 inX10_presentNight seX10_presentNight myX10_presentNight (by decide) ⟨by decide, by decide⟩ rfl (kR1 hS0.1 ta0) (Nat.le_of_ble_eq_true rfl) rfl rfl (by decide) (by decide) (fk_X10_presentNight hS0.1 (gX) (gE) (gc) ta0 hX hK hD (fun al ha => hEa al ha) hGd hMs hNg hDn h1) ?_
    rintro a54 cn' K' N' I49 R50 L51 ⟨rfl, rfl, rfl, rfl, g52, ta54, p55, rp56, rp57, rp58, rp59, rp60, -⟩
    have hS61 := hS0.tr g52 (by decide +kernel) (by decide +kernel)
    obtain ⟨v62, c63⟩ : ∃ v, I49 a0 11 = v := ⟨_, rfl⟩
    have b64 := iv1_11 hS61.1 ta0 c63
    rw [c63] at p55
    have hq65 := NgP.own (n := a54) rp57 (SkQ.rc rp56 hW0 ta0 (R13 hS61 (by decide +kernel))) (by rw [c63]; omega) ((g52.rcell ta0 (by decide +kernel)).trans rp58) ((hS61.rcell ta0 (by decide +kernel)).trans d9) ((hS61.rcell ta0 (by decide +kernel)).trans d2) ((hS61.rcell ta0 (by decide +kernel)).trans d7) ((hEa _ d2).gs hW0 ta1 hS61 (by decide +kernel) (by decide +kernel)) hGd
    have hq65z : NgZ I49 a1 a6 gX gE gc = (NgZ I0 a1 a6 gX gE gc) := by unfold NgZ; rw [hS61.cell ta1 (by decide +kernel), hS61.cell ta6 (by decide +kernel), hS61.cell ta6 (by decide +kernel)]
    rw [hq65z] at hq65
    refine tr_astore_n dX10_work_18 (by decide) (by decide) ?_
    refine tr_iload_n dX10_work_19 rfl ?_
    by_cases h66 : x2.toInt = 0
    · skip
      refine tr_tabIn (off := 32) 52 dX10_work_20 (by omega) (by omega) (by rw [h66]; decide +kernel) (by decide) ?_
      refine tr_aload_n dX10_work_52 rfl ?_
      refine tr_aload_n dX10_work_53 rfl ?_
      obtain ⟨a67, d68, ta67⟩ := rf13_8 hW0 ta54
      refine tr_getR dX10_work_54 fl10_166 (kR13 hS61.1 ta54) ((hS61.rcell ta54 (by decide +kernel)).trans d68) ?_
      refine tr_iload_n dX10_work_57 rfl ?_
      refine q_iald dX10_work_58 (kR49 hS61.1 ta67) (ti_in (nR49 hS61.1 ta67) (by omega) (by omega)) ?_
      intro v69 c70
      refine q_callVi hE (M' := mX10_answered) (as := [_]) dX10_work_59 lk10_109 inX10_answered seX10_answered myX10_answered (by decide) ⟨by decide, by decide⟩ rfl (kR1 hS61.1 ta0) (Nat.le_of_ble_eq_true rfl) rfl rfl (by decide) (by decide) (fk_X10_answered hS61.1  ta0) ?_
      rintro v76 cn' K' N' I71 R72 L73 ⟨rfl, rfl, rfl, rfl, rfl, g74, p77, p78, -⟩
      have hS79 := hS61.tr g74 (by decide +kernel) (by decide +kernel)
      have c80 : I71 a0 11 = v62 := (g74.cell ta0 (by decide +kernel)).trans c63
      obtain ⟨v81, c82⟩ : ∃ v, I71 a0 17 = v := ⟨_, rfl⟩
      rw [c82] at p78
      exact tr_iret hZ dX10_work_62 rfl (by decide) (by decide) ⟨v76, rfl, rfl, rfl, rfl, rfl, hS79, (SkQ.st rp56 hW0 ta0 g74 (by decide +kernel) (by decide +kernel)), (NgQ.st rp57 hS79.1 ta0 g74 (by decide +kernel) (by decide +kernel) (by decide +kernel)), (by first | exact Or.inl ⟨(fun q0 z0 => by obtain rfl := Option.some.inj ((d2).symm.trans z0); (try rw [c4]); first | done | with_reducible assumption | omega), (by first | done | with_reducible assumption | omega), trivial⟩ | exact Or.inr (Or.inr (⟨(by first | done | with_reducible assumption | omega), (fun q0 z0 => by obtain rfl := Option.some.inj ((d2).symm.trans z0); (try rw [c4]); first | done | with_reducible assumption | omega), (by first | done | with_reducible assumption | omega), (by first | done | with_reducible assumption | omega), (fun al nw h2 h6 => by obtain rfl := Option.some.inj (d2.symm.trans h2); obtain rfl := Option.some.inj (d7.symm.trans h6); unfold wkZ; rw [if_pos (by omega)]; have yv69 : v69.toInt = qT _ x1.toInt.toNat (gc 0).toNat := (by have y := hq65.2.2.2.2.2.2.1 _ ((hS79.rcell ta54 (by decide +kernel)).trans d68) x1.toInt.toNat (by omega); rw [show I49 a67 x1.toInt.toNat = v69 from c70] at y; exact y); show _ = qT _ _ (gc 0).toNat; omega), trivial⟩))), trivial⟩
    · skip
      by_cases h83 : x2.toInt = 1
      · skip
        refine tr_tabIn (off := 43) 63 dX10_work_20 (by omega) (by omega) (by rw [h83]; decide +kernel) (by decide) ?_
        refine tr_aload_n dX10_work_63 rfl ?_
        refine tr_aload_n dX10_work_64 rfl ?_
        obtain ⟨a84, d85, ta84⟩ := rf13_9 hW0 ta54
        refine tr_getR dX10_work_65 fl10_169 (kR13 hS61.1 ta54) ((hS61.rcell ta54 (by decide +kernel)).trans d85) ?_
        refine tr_iload_n dX10_work_68 rfl ?_
        refine q_iald dX10_work_69 (kR50 hS61.1 ta84) (ti_in (nR50 hS61.1 ta84) (by omega) (by omega)) ?_
        intro v86 c87
        refine q_callVi hE (M' := mX10_answered) (as := [_]) dX10_work_70 lk10_109 inX10_answered seX10_answered myX10_answered (by decide) ⟨by decide, by decide⟩ rfl (kR1 hS61.1 ta0) (Nat.le_of_ble_eq_true rfl) rfl rfl (by decide) (by decide) (fk_X10_answered hS61.1  ta0) ?_
        rintro v93 cn' K' N' I88 R89 L90 ⟨rfl, rfl, rfl, rfl, rfl, g91, p94, p95, -⟩
        have hS96 := hS61.tr g91 (by decide +kernel) (by decide +kernel)
        have c97 : I88 a0 11 = v62 := (g91.cell ta0 (by decide +kernel)).trans c63
        obtain ⟨v98, c99⟩ : ∃ v, I88 a0 17 = v := ⟨_, rfl⟩
        rw [c99] at p95
        exact tr_iret hZ dX10_work_73 rfl (by decide) (by decide) ⟨v93, rfl, rfl, rfl, rfl, rfl, hS96, (SkQ.st rp56 hW0 ta0 g91 (by decide +kernel) (by decide +kernel)), (NgQ.st rp57 hS96.1 ta0 g91 (by decide +kernel) (by decide +kernel) (by decide +kernel)), (by first | exact Or.inl ⟨(fun q0 z0 => by obtain rfl := Option.some.inj ((d2).symm.trans z0); (try rw [c4]); first | done | with_reducible assumption | omega), (by first | done | with_reducible assumption | omega), trivial⟩ | exact Or.inr (Or.inr (⟨(by first | done | with_reducible assumption | omega), (fun q0 z0 => by obtain rfl := Option.some.inj ((d2).symm.trans z0); (try rw [c4]); first | done | with_reducible assumption | omega), (by first | done | with_reducible assumption | omega), (by first | done | with_reducible assumption | omega), (fun al nw h2 h6 => by obtain rfl := Option.some.inj (d2.symm.trans h2); obtain rfl := Option.some.inj (d7.symm.trans h6); unfold wkZ; rw [if_neg (by omega), if_pos (by omega)]; have yv86 : v86.toInt = qS _ x1.toInt.toNat (gc 0).toNat := (by have y := hq65.2.2.2.2.2.2.2.1 _ ((hS96.rcell ta54 (by decide +kernel)).trans d85) x1.toInt.toNat (by omega); rw [show I49 a84 x1.toInt.toNat = v86 from c87] at y; exact y); show _ = qS _ _ (gc 0).toNat; omega), trivial⟩))), trivial⟩
      · skip
        by_cases h100 : x2.toInt = 2
        · skip
          refine tr_tabIn (off := 54) 74 dX10_work_20 (by omega) (by omega) (by rw [h100]; decide +kernel) (by decide) ?_
          refine tr_aload_n dX10_work_74 rfl ?_
          refine tr_aload_n dX10_work_75 rfl ?_
          obtain ⟨a101, d102, ta101⟩ := rf13_10 hW0 ta54
          refine tr_getR dX10_work_76 fl10_172 (kR13 hS61.1 ta54) ((hS61.rcell ta54 (by decide +kernel)).trans d102) ?_
          refine tr_iload_n dX10_work_79 rfl ?_
          refine q_iald dX10_work_80 (kR51 hS61.1 ta101) (ti_in (nR51 hS61.1 ta101) (by omega) (by omega)) ?_
          intro v103 c104
          refine q_callVi hE (M' := mX10_answered) (as := [_]) dX10_work_81 lk10_109 inX10_answered seX10_answered myX10_answered (by decide) ⟨by decide, by decide⟩ rfl (kR1 hS61.1 ta0) (Nat.le_of_ble_eq_true rfl) rfl rfl (by decide) (by decide) (fk_X10_answered hS61.1  ta0) ?_
          rintro v110 cn' K' N' I105 R106 L107 ⟨rfl, rfl, rfl, rfl, rfl, g108, p111, p112, -⟩
          have hS113 := hS61.tr g108 (by decide +kernel) (by decide +kernel)
          have c114 : I105 a0 11 = v62 := (g108.cell ta0 (by decide +kernel)).trans c63
          obtain ⟨v115, c116⟩ : ∃ v, I105 a0 17 = v := ⟨_, rfl⟩
          rw [c116] at p112
          exact tr_iret hZ dX10_work_84 rfl (by decide) (by decide) ⟨v110, rfl, rfl, rfl, rfl, rfl, hS113, (SkQ.st rp56 hW0 ta0 g108 (by decide +kernel) (by decide +kernel)), (NgQ.st rp57 hS113.1 ta0 g108 (by decide +kernel) (by decide +kernel) (by decide +kernel)), (by first | exact Or.inl ⟨(fun q0 z0 => by obtain rfl := Option.some.inj ((d2).symm.trans z0); (try rw [c4]); first | done | with_reducible assumption | omega), (by first | done | with_reducible assumption | omega), trivial⟩ | exact Or.inr (Or.inr (⟨(by first | done | with_reducible assumption | omega), (fun q0 z0 => by obtain rfl := Option.some.inj ((d2).symm.trans z0); (try rw [c4]); first | done | with_reducible assumption | omega), (by first | done | with_reducible assumption | omega), (by first | done | with_reducible assumption | omega), (fun al nw h2 h6 => by obtain rfl := Option.some.inj (d2.symm.trans h2); obtain rfl := Option.some.inj (d7.symm.trans h6); unfold wkZ; rw [if_neg (by omega), if_neg (by omega), if_pos (by omega)]; have yv103 : v103.toInt = qN _ x1.toInt.toNat (gc 0).toNat := (by have y := hq65.2.2.2.2.2.2.2.2.1 _ ((hS113.rcell ta54 (by decide +kernel)).trans d102) x1.toInt.toNat (by omega); rw [show I49 a101 x1.toInt.toNat = v103 from c104] at y; exact y); show _ = qN _ _ (gc 0).toNat; omega), trivial⟩))), trivial⟩
        · skip
          by_cases h117 : x2.toInt = 3
          · skip
            refine tr_tabIn (off := 65) 85 dX10_work_20 (by omega) (by omega) (by rw [h117]; decide +kernel) (by decide) ?_
            refine tr_aload_n dX10_work_85 rfl ?_
            refine tr_aload_n dX10_work_86 rfl ?_
            refine tr_iload_n dX10_work_87 rfl ?_
            refine q_callVi hE (M' := mX5_minutesAwake) (as := [_]) dX10_work_88 lk10_175 inX5_minutesAwake seX5_minutesAwake myX5_minutesAwake (by decide) ⟨by decide, by decide⟩ rfl (kR13 hS61.1 ta54) (Nat.le_of_ble_eq_true rfl) rfl rfl (by decide) (by decide) (fk_X5_minutesAwake hS61.1 ((NgZ I0 a1 a6 gX gE gc)) ta54 (by omega) hq65.1 hc36g (by first | done | with_reducible assumption | omega)) ?_
            rintro v123 cn' K' N' I118 R119 L120 ⟨rfl, rfl, rfl, rfl, rfl, rfl, h124, rp125, -⟩
            refine q_callVi hE (M' := mX10_answered) (as := [_]) dX10_work_91 lk10_109 inX10_answered seX10_answered myX10_answered (by decide) ⟨by decide, by decide⟩ rfl (kR1 hS61.1 ta0) (Nat.le_of_ble_eq_true rfl) rfl rfl (by decide) (by decide) (fk_X10_answered hS61.1  ta0) ?_
            rintro v131 cn' K' N' I126 R127 L128 ⟨rfl, rfl, rfl, rfl, rfl, g129, p132, p133, -⟩
            have hS134 := hS61.tr g129 (by decide +kernel) (by decide +kernel)
            have c135 : I126 a0 11 = v62 := (g129.cell ta0 (by decide +kernel)).trans c63
            obtain ⟨v136, c137⟩ : ∃ v, I126 a0 17 = v := ⟨_, rfl⟩
            rw [c137] at p133
            exact tr_iret hZ dX10_work_94 rfl (by decide) (by decide) ⟨v131, rfl, rfl, rfl, rfl, rfl, hS134, (SkQ.st rp56 hW0 ta0 g129 (by decide +kernel) (by decide +kernel)), (NgQ.st rp57 hS134.1 ta0 g129 (by decide +kernel) (by decide +kernel) (by decide +kernel)), (Or.inr (Or.inr (⟨(by first | done | with_reducible assumption | omega), (fun q0 z0 => by obtain rfl := Option.some.inj ((d2).symm.trans z0); (try rw [c4]); first | done | with_reducible assumption | omega), (by first | done | with_reducible assumption | omega), (by first | done | with_reducible assumption | omega), (fun al nw h2 h6 => by obtain rfl := Option.some.inj (d2.symm.trans h2); obtain rfl := Option.some.inj (d7.symm.trans h6); unfold wkZ; rw [if_neg (by omega), if_neg (by omega), if_neg (by omega)]; have e := rp125; omega), trivial⟩))), trivial⟩
          · skip
            refine tr_tabOut 95 dX10_work_20 (by omega) (by decide) ?_
            refine tr_aload_n dX10_work_95 rfl ?_
            refine q_iconst dX10_work_96 (by decide) ?_
            intro v138 h139
            refine q_callVi hE (M' := mX10_refused) (as := [_]) dX10_work_97 lk10_79 inX10_refused seX10_refused myX10_refused (by decide) ⟨by decide, by decide⟩ rfl (kR1 hS61.1 ta0) (Nat.le_of_ble_eq_true rfl) rfl rfl (by decide) (by decide) (fk_X10_refused hS61.1  ta0) ?_
            rintro v145 cn' K' N' I140 R141 L142 ⟨rfl, rfl, rfl, rfl, rfl, g143, p146, p147, -⟩
            have hS148 := hS61.tr g143 (by decide +kernel) (by decide +kernel)
            have c149 : I140 a0 11 = v62 := (g143.cell ta0 (by decide +kernel)).trans c63
            obtain ⟨v150, c151⟩ : ∃ v, I140 a0 17 = v := ⟨_, rfl⟩
            rw [c151] at p147
            exact tr_iret hZ dX10_work_100 rfl (by decide) (by decide) ⟨v145, rfl, rfl, rfl, rfl, rfl, hS148, (SkQ.st rp56 hW0 ta0 g143 (by decide +kernel) (by decide +kernel)), (NgQ.st rp57 hS148.1 ta0 g143 (by decide +kernel) (by decide +kernel) (by decide +kernel)), (by first | exact Or.inl ⟨(fun q0 z0 => by obtain rfl := Option.some.inj ((d2).symm.trans z0); (try rw [c4]); first | done | with_reducible assumption | omega), (by first | done | with_reducible assumption | omega), trivial⟩ | exact Or.inr (Or.inl ⟨(by first | done | with_reducible assumption | omega), (fun q0 z0 => by obtain rfl := Option.some.inj ((d2).symm.trans z0); (try rw [c4]); first | done | with_reducible assumption | omega), (by first | done | with_reducible assumption | omega), (by first | done | with_reducible assumption | omega), trivial⟩) | exact Or.inr (Or.inr (⟨(by first | done | with_reducible assumption | omega), (fun q0 z0 => by obtain rfl := Option.some.inj ((d2).symm.trans z0); (try rw [c4]); first | done | with_reducible assumption | omega), (by first | done | with_reducible assumption | omega), (by first | done | with_reducible assumption | omega), (by exfalso; omega), trivial⟩))), trivial⟩
  · skip
    refine tr_aload_n dX10_work_8 rfl ?_
    refine q_iconst dX10_work_9 (by decide) ?_
    intro v152 h153
    refine q_callVi hE (M' := mX10_refused) (as := [_]) dX10_work_10 lk10_79 inX10_refused seX10_refused myX10_refused (by decide) ⟨by decide, by decide⟩ rfl (kR1 hS0.1 ta0) (Nat.le_of_ble_eq_true rfl) rfl rfl (by decide) (by decide) (fk_X10_refused hS0.1  ta0) ?_
    rintro v159 cn' K' N' I154 R155 L156 ⟨rfl, rfl, rfl, rfl, rfl, g157, p160, p161, -⟩
    have hS162 := hS0.tr g157 (by decide +kernel) (by decide +kernel)
    obtain ⟨v163, c164⟩ : ∃ v, I154 a0 17 = v := ⟨_, rfl⟩
    rw [c164] at p161
    exact tr_iret hZ dX10_work_13 rfl (by decide) (by decide) ⟨v159, rfl, rfl, rfl, rfl, rfl, hS162, (SkQ.st hK hW0 ta0 g157 (by decide +kernel) (by decide +kernel)), (NgQ.st hNg hW0 ta0 g157 (by decide +kernel) (by decide +kernel) (by decide +kernel)), (by first | exact Or.inl ⟨(fun q0 z0 => by obtain rfl := Option.some.inj ((d2).symm.trans z0); (try rw [c4]); first | done | with_reducible assumption | omega), (by first | done | with_reducible assumption | omega), trivial⟩ | exact Or.inr (Or.inl ⟨(by first | done | with_reducible assumption | omega), (fun q0 z0 => by obtain rfl := Option.some.inj ((d2).symm.trans z0); (try rw [c4]); first | done | with_reducible assumption | omega), (by first | done | with_reducible assumption | omega), (by first | done | with_reducible assumption | omega), trivial⟩) | exact Or.inr (Or.inr (⟨(by first | done | with_reducible assumption | omega), (fun q0 z0 => by obtain rfl := Option.some.inj ((d2).symm.trans z0); (try rw [c4]); first | done | with_reducible assumption | omega), (by first | done | with_reducible assumption | omega), (by first | done | with_reducible assumption | omega), (by exfalso; omega), trivial⟩))), trivial⟩
def wik_X10_refusedTotal : List Nat := [81]
def wrk_X10_refusedTotal : List Nat := []
set_option maxHeartbeats 4000000 in
theorem fk_X10_refusedTotal {l : Launch} {T : Nat → Nat} {cn : Nat} {K N : Nat → Nat} {I0 : cz_I} {R0 : cz_R} {L0 : cz_L} {d : Int} (hW0 : Wf T cn K N I0 R0 d)  {a0 : Nat} (ta0 : T a0 = 1) {x1 : Int32} : ConE l mX10_refusedTotal [.ref a0, .int x1] cn K N I0 R0 L0 (ca_i (fun v cn' K' N' I' R' L' => cn = cn' ∧ K = K' ∧ N = N' ∧ R0 = R' ∧ L0 = L' ∧ St T cn K N d wik_X10_refusedTotal wrk_X10_refusedTotal I0 R0 I' R0 ∧ (v.toInt = -100000) ∧ ((I' a0 17).toInt = x1.toInt) ∧ True)) := by
  refine ConE.of (by decide +kernel) rfl (Nat.le_of_ble_eq_true rfl) rfl (fun X hX hZ hE => ?_)
  subst hX
  have hS0 : St T cn K N d wik_X10_refusedTotal wrk_X10_refusedTotal I0 R0 I0 R0 := St.rf0 hW0
  refine tr_aload_n dX10_refusedTotal_0 rfl ?_
  refine tr_iload_n dX10_refusedTotal_1 rfl ?_
  refine q_putI dX10_refusedTotal_2 fl10_112 (kR1 hS0.1 ta0) (Or.inl rfl) hS0 ta0 (iokF rfl) rfl (by decide +kernel) ?_
  intro I1 hS2 e3 f4
  refine q_ldcw (-100000) dX10_refusedTotal_5 ld10_356 (by decide +kernel) ?_
  intro v5 h6
  exact tr_iret hZ dX10_refusedTotal_8 rfl (by decide) (by decide) ⟨v5, rfl, rfl, rfl, rfl, rfl, rfl, hS2, (by first | done | with_reducible assumption | omega), (by (try rw [e3]); first | done | with_reducible assumption | omega), trivial⟩
def wik_X10_worth : List Nat := [73, 75, 81, 768, 769, 778, 834, 2303, 2367, 2431, 2495, 2559, 2623, 2687, 2751, 2815, 2879, 2943, 3007, 3071, 3135, 3199, 3263, 3327, 3391]
def wrk_X10_worth : List Nat := [832, 833]
def Cs_X10_worth (T : Nat → Nat) (I0 : cz_I) (R0 : cz_R) (a0 : Nat) (gX : Nat → Nat → Int) (gE : Nat → Nat → Int) (gc : Nat → Int) (x1 : Int32) (v : Int32) (I' : cz_I) (R' : cz_R) : Prop :=
  ((∀ b1, R0 a0 2 = some b1 → (x1.toInt < 0 ∨ x1.toInt ≥ (I0 b1 9).toInt)) ∧ (v.toInt = -100000) ∧ True) ∨
  ((0 ≤ x1.toInt) ∧ (∀ b1, R0 a0 2 = some b1 → x1.toInt < (I0 b1 9).toInt) ∧ (∀ al nw, R0 a0 2 = some al → R0 a0 6 = some nw → v.toInt = toZ (NgZ I0 al nw gX gE gc) - toZ (mkZ gX (-1) ((I0 al 3).toInt.toNat + (I0 nw 2).toInt.toNat) gE gc (I0 nw 0).toInt (wOu (pw (gc 4) - 1) x1.toInt))) ∧ True)
set_option maxHeartbeats 4000000 in
theorem fk_X10_worth {l : Launch} {T : Nat → Nat} {cn : Nat} {K N : Nat → Nat} {I0 : cz_I} {R0 : cz_R} {L0 : cz_L} {d : Int} (hW0 : Wf T cn K N I0 R0 d) (gX : Nat → Nat → Int) (gE : Nat → Nat → Int) (gc : Nat → Int) {a0 : Nat} (ta0 : T a0 = 1) {x1 : Int32} (hX : EvQ I0 R0 a0 gX) (hK : SkQ I0 R0 a0 gX) (hD : DjS R0 a0) (hEa : ∀ al, R0 a0 2 = some al → CVa I0 R0 al gc gE) (hGd : GdE gc gE) (hMs : ∀ nw, R0 a0 6 = some nw → 0 ≤ (I0 nw 0).toInt ∧ (I0 nw 0).toInt ≤ 63) (hNg : NgQ I0 R0 a0 gX gE gc) (hDn : DjN R0 a0) (h1 : 1 ≤ gc 0 ∨ ∀ i, gc i = 0) : ConE l mX10_worth [.ref a0, .int x1] cn K N I0 R0 L0 (ca_i (fun v cn' K' N' I' R' L' => cn = cn' ∧ K = K' ∧ N = N' ∧ L0 = L' ∧ St T cn K N d wik_X10_worth wrk_X10_worth I0 R0 I' R' ∧ (SkQ I' R0 a0 gX) ∧ (NgQ I' R' a0 gX gE gc) ∧ Cs_X10_worth T I0 R0 a0 gX gE gc x1 v I' R' ∧ True)) := by
  refine ConE.of (by decide +kernel) rfl (Nat.le_of_ble_eq_true rfl) rfl (fun X hX hZ hE => ?_)
  subst hX
  have hS0 : St T cn K N d wik_X10_worth wrk_X10_worth I0 R0 I0 R0 := St.rf0 hW0
  obtain ⟨a1, d2, ta1⟩ := rf1_2 hW0 ta0
  obtain ⟨v3, c4⟩ : ∃ v, I0 a1 9 = v := ⟨_, rfl⟩
  have b5 := iv2_9 hW0 ta1 c4
  obtain ⟨a6, d7, ta6⟩ := rf1_6 hW0 ta0
  obtain ⟨a8, d9, ta8⟩ := rf1_8 hW0 ta0
  obtain ⟨a10, d11, ta10⟩ := rf1_10 hW0 ta0
  obtain ⟨a12, d13, ta12⟩ := rf1_13 hW0 ta0
  obtain ⟨a14, d15, ta14⟩ := rf1_14 hW0 ta0
  obtain ⟨v16, c17⟩ : ∃ v, I0 a1 0 = v := ⟨_, rfl⟩
  have b18 := iv2_0 hW0 ta1 c17
  obtain ⟨v19, c20⟩ : ∃ v, I0 a1 1 = v := ⟨_, rfl⟩
  have b21 := iv2_1 hW0 ta1 c20
  obtain ⟨v22, c23⟩ : ∃ v, I0 a1 3 = v := ⟨_, rfl⟩
  have b24 := iv2_3 hW0 ta1 c23
  obtain ⟨v25, c26⟩ : ∃ v, I0 a1 5 = v := ⟨_, rfl⟩
  have b27 := iv2_5 hW0 ta1 c26
  obtain ⟨v28, c29⟩ : ∃ v, I0 a1 11 = v := ⟨_, rfl⟩
  have b30 := iv2_11 hW0 ta1 c29
  obtain ⟨v31, c32⟩ : ∃ v, I0 a6 0 = v := ⟨_, rfl⟩
  obtain ⟨v33, c34⟩ : ∃ v, I0 a6 2 = v := ⟨_, rfl⟩
  have b35 := iv8_2 hW0 ta6 c34
  have hc36 := (hEa _ d2).ct
  rw [c17, c20, c26, c4, c29] at hc36
  have hc36m := hMs _ d7
  have hc36g := hGd.own hc36m gX (-1) ((I0 a1 3).toInt.toNat + (I0 a6 2).toInt.toNat)
  rw [c32] at hc36m
  have hc36z0 : nzc ((NgZ I0 a1 a6 gX gE gc)) 0 = gc 0 := rfl
  have hc36z1 : nzc ((NgZ I0 a1 a6 gX gE gc)) 1 = gc 1 := rfl
  have hc36z3 : nzc ((NgZ I0 a1 a6 gX gE gc)) 3 = gc 3 := rfl
  have hc36z4 : nzc ((NgZ I0 a1 a6 gX gE gc)) 4 = gc 4 := rfl
  have hc36z5 : nzc ((NgZ I0 a1 a6 gX gE gc)) 5 = gc 5 := rfl
  refine tr_aload_n dX10_worth_0 rfl ?_
  refine tr_iload_n dX10_worth_1 rfl ?_
  refine q_callVi hE (M' := mX10_isTurner) (as := [_]) dX10_worth_2 lk10_152 inX10_isTurner seX10_isTurner myX10_isTurner (by decide) ⟨by decide, by decide⟩ rfl (kR1 hS0.1 ta0) (Nat.le_of_ble_eq_true rfl) rfl rfl (by decide) (by decide) (fk_X10_isTurner hS0.1  ta0) ?_
  rintro v42 cn' K' N' I37 R38 L39 ⟨rfl, rfl, rfl, rfl, rfl, rfl, h43, p44, p45, -⟩
  have p46 := p44 _ d2
  clear p44
  rw [c4] at p46
  have p47 := p45 _ d2
  clear p45
  rw [c4] at p47
  refine q_if_ne 14 dX10_worth_5 (by decide) (fun h48 => ?_) (fun h48 => ?_)
  · skip
    refine tr_aload_n dX10_worth_14 rfl ?_
    refine tr_getR dX10_worth_15 fl10_68 (kR1 hS0.1 ta0) d15 ?_
    refine tr_aload_n dX10_worth_18 rfl ?_
    refine tr_getR dX10_worth_19 fl10_16 (kR1 hS0.1 ta0) d2 ?_
    refine tr_aload_n dX10_worth_22 rfl ?_
    refine q_callVr hE (M' := mX10_presentSky) (as := []) dX10_worth_23 lk10_119 inX10_presentSky seX10_presentSky myX10_presentSky (by decide) ⟨by decide, by decide⟩ rfl (kR1 hS0.1 ta0) (Nat.le_of_ble_eq_true rfl) rfl rfl (by decide) (by decide) (fk_X10_presentSky hS0.1 (gX) (gE) (gc) ta0 hX hK hD (fun al ha => hEa al ha) hGd hMs hNg hDn h1) ?_
    rintro a54 cn' K' N' I49 R50 L51 ⟨rfl, rfl, rfl, rfl, rfl, g52, ta54, p55, rp56, rp57, rp58, rp59, rp60, -⟩
    have hS61 := hS0.tr g52 (by decide +kernel) (by decide +kernel)
    obtain ⟨v62, c63⟩ : ∃ v, I49 a0 9 = v := ⟨_, rfl⟩
    have b64 := iv1_9 hS61.1 ta0 c63
    rw [c63] at p55
    refine tr_aload_n dX10_worth_26 rfl ?_
    refine tr_getR dX10_worth_27 fl10_35 (kR1 hS61.1 ta0) d7 ?_
    refine q_getI dX10_worth_30 fl10_181 (kR8 hS61.1 ta6) ((hS61.cell ta6 (by decide +kernel)).trans c32) ?_
    have hm65 : 0 ≤ (I49 a6 0).toInt ∧ (I49 a6 0).toInt ≤ 63 := by rw [hS61.cell ta6 (by decide +kernel)]; exact hMs _ d7
    rw [((hS61.cell ta6 (by decide +kernel)).trans c32)] at hm65
    refine tr_aload_n dX10_worth_33 rfl ?_
    refine q_callVi hE (M' := mX10_allTurners) (as := []) dX10_worth_34 lk10_184 inX10_allTurners seX10_allTurners myX10_allTurners (by decide) ⟨by decide, by decide⟩ rfl (kR1 hS61.1 ta0) (Nat.le_of_ble_eq_true rfl) rfl rfl (by decide) (by decide) (fk_X10_allTurners hS61.1  ta0) ?_
    rintro v71 cn' K' N' I66 R67 L68 ⟨rfl, rfl, rfl, rfl, rfl, rfl, rp72, -⟩
    have ht73 := rp72 _ d2
    rw [((hS61.cell ta1 (by decide +kernel)).trans c4)] at ht73
    have ht73b := pw_all (c := v3.toInt) (by omega) (by omega)
    refine q_iconst dX10_worth_37 (by decide) ?_
    intro v74 h75
    refine tr_iload_n dX10_worth_38 rfl ?_
    refine tr_ishl dX10_worth_39 ?_
    obtain ⟨v76, lx77⟩ : ∃ z, z = v74 <<< (x1 &&& 31) := ⟨_, rfl⟩
    rw [← lx77]
    refine q_iconst dX10_worth_40 (by decide) ?_
    intro v78 h79
    refine tr_ixor dX10_worth_41 ?_
    obtain ⟨v80, lx81⟩ : ∃ z, z = v76 ^^^ v78 := ⟨_, rfl⟩
    rw [← lx81]
    refine tr_iand dX10_worth_42 ?_
    obtain ⟨v82, lx83⟩ : ∃ z, z = v71 &&& v80 := ⟨_, rfl⟩
    rw [← lx83]
    have hw84a : v71.toInt = pw (gc 4) - 1 := by rw [← hc36.2.2.2.1]; exact ht73
    have hw84 : v82.toInt = wOu (pw (gc 4) - 1) x1.toInt := wOu_of hw84a (show v74.toInt = 1 by omega) lx81 (show v78.toInt = -1 by omega) lx77 lx83
    have hw84b := wOu_b (n := gc 4) (t := x1.toInt) (by omega) (by omega) (by omega) (by omega)
    rw [← hw84] at hw84b
    obtain rfl : a8 = a54 := Option.some.inj (d9.symm.trans rp56)
    have hz85m : nzM (mkZ gX (-1) ((I0 a1 3).toInt.toNat + (I0 a6 2).toInt.toNat) gE gc v31.toInt v82.toInt) = v31.toInt := rfl
    have hz85w : nzW (mkZ gX (-1) ((I0 a1 3).toInt.toNat + (I0 a6 2).toInt.toNat) gE gc v31.toInt v82.toInt) = v82.toInt := rfl
    have kw86k : SkW I49 R0 a0 gX := (SkQ.of rp57) (by rw [c63]; omega)
    have kw86t : StW I49 R0 a0 gX gE gc := rp60.1 (by rw [c63]; omega)
    have kw86 : SkZ I49 R0 a8 (mkZ gX (-1) ((I49 a1 3).toInt.toNat + (I49 a6 2).toInt.toNat) gE gc v31.toInt v82.toInt) := SkZ.cl (SkZ.own kw86k kw86t d9 d2 d7 ((hEa _ d2).gs hW0 ta1 hS61 (by decide +kernel) (by decide +kernel)) hGd)
    rw [hS61.cell ta1 (by decide +kernel), hS61.cell ta6 (by decide +kernel)] at kw86
    refine q_callVv hE (M' := mX5_play) (as := [_, _, _, _]) dX10_worth_43 lk10_188 inX5_play seX5_play myX5_play (by decide) ⟨by decide, by decide⟩ rfl (kR13 hS61.1 ta14) (Nat.le_of_ble_eq_true rfl) rfl rfl (by decide) (by decide) (fk_X5_play hS61.1 ((mkZ gX (-1) ((I0 a1 3).toInt.toNat + (I0 a6 2).toInt.toNat) gE gc v31.toInt v82.toInt)) ta14 ta1 ta8 (by omega) (by omega) ((hEa _ d2).gs hW0 ta1 hS61 (by decide +kernel) (by decide +kernel)) kw86 (hGd _ _ _ _ _ (by omega) (by omega)) (by first | done | with_reducible assumption | omega) (by first | done | with_reducible assumption | omega)) ?_
    rintro cn' K' N' I87 R88 L89 ⟨rfl, rfl, rfl, rfl, g90, rp93, rp94, rp95, rp96, rp97, rp98, -⟩
    have hS99 := hS61.tr g90 (by decide +kernel) (by decide +kernel)
    have c100 : I87 a0 9 = v62 := (g90.cell ta0 (by decide +kernel)).trans c63
    have hp101P : NgP I87 R88 a14 (mkZ gX (-1) ((I0 a1 3).toInt.toNat + (I0 a6 2).toInt.toNat) gE gc v31.toInt v82.toInt) := NgP.mk ((hEa _ d2).gs hW0 ta1 hS61 (by decide +kernel) (by decide +kernel)) kw86 g90 hS61.1 ta14 ta1 ta8 rp93 rp94 (congrArg Int32.toInt rp95) (by decide +kernel) (by decide +kernel)
    have hp101R : NgR I87 R88 a14 (mkZ gX (-1) ((I0 a1 3).toInt.toNat + (I0 a6 2).toInt.toNat) gE gc v31.toInt v82.toInt) (gc 0).toNat := rp96.rc (fun k k1 k2 => R13w g90 (by decide +kernel) ta14 k1 k2)
    have hp101G : GdN (mkZ gX (-1) ((I0 a1 3).toInt.toNat + (I0 a6 2).toInt.toNat) gE gc v31.toInt v82.toInt) := hGd _ _ _ _ _ (by omega) (by omega)
    refine tr_aload_n dX10_worth_46 rfl ?_
    refine tr_aload_n dX10_worth_47 rfl ?_
    refine q_callVr hE (M' := mX10_presentNight) (as := []) dX10_worth_48 lk10_155 inX10_presentNight seX10_presentNight myX10_presentNight (by decide) ⟨by decide, by decide⟩ rfl (kR1 hS99.1 ta0) (Nat.le_of_ble_eq_true rfl) rfl rfl (by decide) (by decide) (fk_X10_presentNight hS99.1 (gX) (gE) (gc) ta0 (EvQ.rc (EvQ.st hX hW0 ta0 hS99 (by decide +kernel)) hW0 ta0 (R13 hS99 (by decide +kernel))) (SkQ.rc (SkQ.st (SkQ.of rp57) hW0 ta0 g90 (by decide +kernel) (by decide +kernel)) hW0 ta0 (R13 hS99 (by decide +kernel))) (DjS.rc hD hW0 ta0 (R13 hS99 (by decide +kernel))) (fun al ha => by have h0 := (R13 hS99 (by decide +kernel) a0 2 (by rw [ta0]; decide)).symm.trans ha; exact (hEa al h0).gs hW0 (hW0.rs ta0 rfl rfl h0) hS99 (by decide +kernel) (by decide +kernel)) hGd (fun nw hn => by have h0 := (R13 hS99 (by decide +kernel) a0 6 (by rw [ta0]; decide)).symm.trans hn; rw [hS99.cell (hW0.rs ta0 rfl rfl h0 : T nw = 8) (by decide +kernel)]; exact hMs nw h0) (NgQ.fn rp60 hW0 ta0 g90 hDn d15 rp97 rp98 (by decide +kernel) (by decide +kernel) (by decide +kernel)) (DjN.st hDn hW0 ta0 hS99 (by decide +kernel) (by decide +kernel)) h1) ?_
    rintro a107 cn' K' N' I102 R103 L104 ⟨rfl, rfl, rfl, rfl, g105, ta107, p108, rp109, rp110, rp111, rp112, rp113, -⟩
    have hS114 := hS99.tr g105 (by decide +kernel) (by decide +kernel)
    obtain ⟨v115, c116⟩ : ∃ v, I102 a0 11 = v := ⟨_, rfl⟩
    have b117 := iv1_11 hS114.1 ta0 c116
    rw [c116] at p108
    have hq118 := NgP.own (n := a107) rp110 (SkQ.rc (SkQ.rc rp109 hS99.1 ta0 (fun a j q => (R13 hS99 (by decide +kernel) a j q).symm)) hW0 ta0 (R13 hS114 (by decide +kernel))) (by rw [c116]; omega) ((g105.rcell ta0 (by decide +kernel)).trans rp111) ((hS114.rcell ta0 (by decide +kernel)).trans d9) ((hS114.rcell ta0 (by decide +kernel)).trans d2) ((hS114.rcell ta0 (by decide +kernel)).trans d7) ((hEa _ d2).gs hW0 ta1 hS114 (by decide +kernel) (by decide +kernel)) hGd
    have hq118z : NgZ I102 a1 a6 gX gE gc = (NgZ I0 a1 a6 gX gE gc) := by unfold NgZ; rw [hS114.cell ta1 (by decide +kernel), hS114.cell ta6 (by decide +kernel), hS114.cell ta6 (by decide +kernel)]
    rw [hq118z] at hq118
    obtain ⟨v121, c122⟩ : ∃ v, I102 a0 9 = v := ⟨_, rfl⟩
    have b123 := iv1_9 hS114.1 ta0 c122
    have kw120k : SkW I102 R103 a0 gX := (SkQ.rc (SkQ.rc rp109 hS99.1 ta0 (fun a j q => (R13 hS99 (by decide +kernel) a j q).symm)) hW0 ta0 (R13 hS114 (by decide +kernel))) (rp110.2 (by rw [c116]; omega)).1
    have kw120t : StW I102 R103 a0 gX gE gc := rp110.1 (rp110.2 (by rw [c116]; omega)).1
    have kw120 : SkZ I102 R103 a8 (mkZ gX (-1) ((I102 a1 3).toInt.toNat + (I102 a6 2).toInt.toNat) gE gc v31.toInt v82.toInt) := SkZ.cl (SkZ.own kw120k kw120t ((hS114.rcell ta0 (by decide +kernel)).trans d9) ((hS114.rcell ta0 (by decide +kernel)).trans d2) ((hS114.rcell ta0 (by decide +kernel)).trans d7) ((hEa _ d2).gs hW0 ta1 hS114 (by decide +kernel) (by decide +kernel)) hGd)
    rw [hS114.cell ta1 (by decide +kernel), hS114.cell ta6 (by decide +kernel)] at kw120
    have ho119d : DjN R88 a0 := (DjN.st hDn hW0 ta0 hS99 (by decide +kernel) (by decide +kernel))
    have ho119t := (hS99.rcell ta0 (by decide +kernel) : R88 a0 10 = R0 a0 10).trans d11
    have ho119u := (hS99.rcell ta0 (by decide +kernel) : R88 a0 14 = R0 a0 14).trans d15
    have ho119 := NgP.oth hp101P hp101R ho119d ho119t ho119u hS99.1 ta0 (rp112 _ ho119t) (rp113 _ ho119t) (fun al' sk' g0 g1 => by obtain rfl := Option.some.inj (rp93.symm.trans g0); obtain rfl := Option.some.inj (rp94.symm.trans g1); exact ⟨((hEa _ d2).gs hW0 ta1 hS114 (by decide +kernel) (by decide +kernel)), kw120⟩)
    refine q_callVi hE (M' := mX5_sum) (as := []) dX10_worth_51 lk10_192 inX5_sum seX5_sum myX5_sum (by decide) ⟨by decide, by decide⟩ rfl (kR13 hS114.1 ta107) (Nat.le_of_ble_eq_true rfl) rfl rfl (by decide) (by decide) (fk_X5_sum hS114.1 ((NgZ I0 a1 a6 gX gE gc)) ta107 hq118.1 hc36g hq118.2 h1) ?_
    rintro v129 cn' K' N' I124 R125 L126 ⟨rfl, rfl, rfl, rfl, rfl, rfl, h130, rp131, -⟩
    refine tr_aload_n dX10_worth_54 rfl ?_
    refine tr_getR dX10_worth_55 fl10_68 (kR1 hS114.1 ta0) ((hS114.rcell ta0 (by decide +kernel)).trans d15) ?_
    refine q_callVi hE (M' := mX5_sum) (as := []) dX10_worth_58 lk10_192 inX5_sum seX5_sum myX5_sum (by decide) ⟨by decide, by decide⟩ rfl (kR13 hS114.1 ta14) (Nat.le_of_ble_eq_true rfl) rfl rfl (by decide) (by decide) (fk_X5_sum hS114.1 ((mkZ gX (-1) ((I0 a1 3).toInt.toNat + (I0 a6 2).toInt.toNat) gE gc v31.toInt v82.toInt)) ta14 ho119.1 hp101G ho119.2 h1) ?_
    rintro v137 cn' K' N' I132 R133 L134 ⟨rfl, rfl, rfl, rfl, rfl, rfl, h138, rp139, -⟩
    refine q_isubE dX10_worth_61 (by intros; omega) ?_
    intro v140 h141
    refine q_callVi hE (M' := mX10_answered) (as := [_]) dX10_worth_62 lk10_109 inX10_answered seX10_answered myX10_answered (by decide) ⟨by decide, by decide⟩ rfl (kR1 hS114.1 ta0) (Nat.le_of_ble_eq_true rfl) rfl rfl (by decide) (by decide) (fk_X10_answered hS114.1  ta0) ?_
    rintro v147 cn' K' N' I142 R143 L144 ⟨rfl, rfl, rfl, rfl, rfl, g145, p148, p149, -⟩
    have hS150 := hS114.tr g145 (by decide +kernel) (by decide +kernel)
    have c151 : I142 a0 11 = v115 := (g145.cell ta0 (by decide +kernel)).trans c116
    have c152 : I142 a0 9 = v121 := (g145.cell ta0 (by decide +kernel)).trans c122
    obtain ⟨v153, c154⟩ : ∃ v, I142 a0 17 = v := ⟨_, rfl⟩
    rw [c154] at p149
    exact tr_iret hZ dX10_worth_65 rfl (by decide) (by decide) ⟨v147, rfl, rfl, rfl, rfl, rfl, hS150, (SkQ.st (SkQ.rc rp109 hS99.1 ta0 (fun a j q => (R13 hS99 (by decide +kernel) a j q).symm)) hW0 ta0 g145 (by decide +kernel) (by decide +kernel)), (NgQ.st rp110 hS150.1 ta0 g145 (by decide +kernel) (by decide +kernel) (by decide +kernel)), (by first | exact Or.inl ⟨(fun q0 z0 => by obtain rfl := Option.some.inj ((d2).symm.trans z0); (try rw [c4]); first | done | with_reducible assumption | omega), (by first | done | with_reducible assumption | omega), trivial⟩ | exact Or.inr (⟨(by first | done | with_reducible assumption | omega), (fun q0 z0 => by obtain rfl := Option.some.inj ((d2).symm.trans z0); (try rw [c4]); first | done | with_reducible assumption | omega), (fun al nw h2 h6 => by obtain rfl := Option.some.inj (d2.symm.trans h2); obtain rfl := Option.some.inj (d7.symm.trans h6); have e1 := rp131; have e2 := rp139; rw [hw84, ← show (I0 a6 0).toInt = v31.toInt from congrArg Int32.toInt c32] at e2; omega), trivial⟩)), trivial⟩
  · skip
    refine tr_aload_n dX10_worth_8 rfl ?_
    refine q_iconst dX10_worth_9 (by decide) ?_
    intro v155 h156
    refine q_callVi hE (M' := mX10_refusedTotal) (as := [_]) dX10_worth_10 lk10_178 inX10_refusedTotal seX10_refusedTotal myX10_refusedTotal (by decide) ⟨by decide, by decide⟩ rfl (kR1 hS0.1 ta0) (Nat.le_of_ble_eq_true rfl) rfl rfl (by decide) (by decide) (fk_X10_refusedTotal hS0.1  ta0) ?_
    rintro v162 cn' K' N' I157 R158 L159 ⟨rfl, rfl, rfl, rfl, rfl, g160, p163, p164, -⟩
    have hS165 := hS0.tr g160 (by decide +kernel) (by decide +kernel)
    obtain ⟨v166, c167⟩ : ∃ v, I157 a0 17 = v := ⟨_, rfl⟩
    rw [c167] at p164
    exact tr_iret hZ dX10_worth_13 rfl (by decide) (by decide) ⟨v162, rfl, rfl, rfl, rfl, rfl, hS165, (SkQ.st hK hW0 ta0 g160 (by decide +kernel) (by decide +kernel)), (NgQ.st hNg hW0 ta0 g160 (by decide +kernel) (by decide +kernel) (by decide +kernel)), (by first | exact Or.inl ⟨(fun q0 z0 => by obtain rfl := Option.some.inj ((d2).symm.trans z0); (try rw [c4]); first | done | with_reducible assumption | omega), (by first | done | with_reducible assumption | omega), trivial⟩ | exact Or.inr (⟨(by first | done | with_reducible assumption | omega), (fun q0 z0 => by obtain rfl := Option.some.inj ((d2).symm.trans z0); (try rw [c4]); first | done | with_reducible assumption | omega), (by exfalso; omega), trivial⟩)), trivial⟩
def wik_X10_turned : List Nat := [73, 75, 81, 768, 769, 778, 834, 2303, 2367, 2431, 2495, 2559, 2623, 2687, 2751, 2815, 2879, 2943, 3007, 3071, 3135, 3199, 3263, 3327, 3391]
def wrk_X10_turned : List Nat := [832, 833]
def Cs_X10_turned (T : Nat → Nat) (I0 : cz_I) (R0 : cz_R) (a0 : Nat) (gX : Nat → Nat → Int) (gE : Nat → Nat → Int) (gc : Nat → Int) (x1 : Int32) (x2 : Int32) (v : Int32) (I' : cz_I) (R' : cz_R) : Prop :=
  ((∀ b1, R0 a0 2 = some b1 → (x1.toInt < 0 ∨ x1.toInt ≥ (I0 b1 5).toInt)) ∧ (v.toInt = -1) ∧ True) ∨
  ((0 ≤ x1.toInt) ∧ (∀ b1, R0 a0 2 = some b1 → x1.toInt < (I0 b1 5).toInt) ∧ (∀ b1, R0 a0 2 = some b1 → (x2.toInt < 0 ∨ x2.toInt ≥ (I0 b1 0).toInt)) ∧ (v.toInt = -1) ∧ True) ∨
  ((0 ≤ x1.toInt) ∧ (∀ b1, R0 a0 2 = some b1 → x1.toInt < (I0 b1 5).toInt) ∧ (0 ≤ x2.toInt) ∧ (∀ b1, R0 a0 2 = some b1 → x2.toInt < (I0 b1 0).toInt) ∧ (∀ al nw, R0 a0 2 = some al → R0 a0 6 = some nw → v.toInt = nB (NgZ I0 al nw gX gE gc) x2.toInt.toNat x1.toInt.toNat) ∧ True)
set_option maxHeartbeats 4000000 in
theorem fk_X10_turned {l : Launch} {T : Nat → Nat} {cn : Nat} {K N : Nat → Nat} {I0 : cz_I} {R0 : cz_R} {L0 : cz_L} {d : Int} (hW0 : Wf T cn K N I0 R0 d) (gX : Nat → Nat → Int) (gE : Nat → Nat → Int) (gc : Nat → Int) {a0 : Nat} (ta0 : T a0 = 1) {x1 : Int32} {x2 : Int32} (hX : EvQ I0 R0 a0 gX) (hK : SkQ I0 R0 a0 gX) (hD : DjS R0 a0) (hEa : ∀ al, R0 a0 2 = some al → CVa I0 R0 al gc gE) (hGd : GdE gc gE) (hMs : ∀ nw, R0 a0 6 = some nw → 0 ≤ (I0 nw 0).toInt ∧ (I0 nw 0).toInt ≤ 63) (hNg : NgQ I0 R0 a0 gX gE gc) (hDn : DjN R0 a0) (h1 : 1 ≤ gc 0 ∨ ∀ i, gc i = 0) : ConE l mX10_turned [.ref a0, .int x1, .int x2] cn K N I0 R0 L0 (ca_i (fun v cn' K' N' I' R' L' => cn = cn' ∧ K = K' ∧ N = N' ∧ L0 = L' ∧ St T cn K N d wik_X10_turned wrk_X10_turned I0 R0 I' R' ∧ (SkQ I' R0 a0 gX) ∧ (NgQ I' R' a0 gX gE gc) ∧ Cs_X10_turned T I0 R0 a0 gX gE gc x1 x2 v I' R' ∧ True)) := by
  refine ConE.of (by decide +kernel) rfl (Nat.le_of_ble_eq_true rfl) rfl (fun X hX hZ hE => ?_)
  subst hX
  have hS0 : St T cn K N d wik_X10_turned wrk_X10_turned I0 R0 I0 R0 := St.rf0 hW0
  obtain ⟨a1, d2, ta1⟩ := rf1_2 hW0 ta0
  obtain ⟨v3, c4⟩ : ∃ v, I0 a1 5 = v := ⟨_, rfl⟩
  have b5 := iv2_5 hW0 ta1 c4
  obtain ⟨v6, c7⟩ : ∃ v, I0 a1 0 = v := ⟨_, rfl⟩
  have b8 := iv2_0 hW0 ta1 c7
  obtain ⟨a9, d10, ta9⟩ := rf1_6 hW0 ta0
  obtain ⟨a11, d12, ta11⟩ := rf1_8 hW0 ta0
  obtain ⟨a13, d14, ta13⟩ := rf1_10 hW0 ta0
  obtain ⟨a15, d16, ta15⟩ := rf1_13 hW0 ta0
  obtain ⟨a17, d18, ta17⟩ := rf1_14 hW0 ta0
  obtain ⟨v19, c20⟩ : ∃ v, I0 a1 1 = v := ⟨_, rfl⟩
  have b21 := iv2_1 hW0 ta1 c20
  obtain ⟨v22, c23⟩ : ∃ v, I0 a1 3 = v := ⟨_, rfl⟩
  have b24 := iv2_3 hW0 ta1 c23
  obtain ⟨v25, c26⟩ : ∃ v, I0 a1 9 = v := ⟨_, rfl⟩
  have b27 := iv2_9 hW0 ta1 c26
  obtain ⟨v28, c29⟩ : ∃ v, I0 a1 11 = v := ⟨_, rfl⟩
  have b30 := iv2_11 hW0 ta1 c29
  obtain ⟨v31, c32⟩ : ∃ v, I0 a9 0 = v := ⟨_, rfl⟩
  obtain ⟨v33, c34⟩ : ∃ v, I0 a9 2 = v := ⟨_, rfl⟩
  have b35 := iv8_2 hW0 ta9 c34
  have hc36 := (hEa _ d2).ct
  rw [c7, c20, c4, c26, c29] at hc36
  have hc36m := hMs _ d10
  have hc36g := hGd.own hc36m gX (-1) ((I0 a1 3).toInt.toNat + (I0 a9 2).toInt.toNat)
  rw [c32] at hc36m
  have hc36z0 : nzc ((NgZ I0 a1 a9 gX gE gc)) 0 = gc 0 := rfl
  have hc36z1 : nzc ((NgZ I0 a1 a9 gX gE gc)) 1 = gc 1 := rfl
  have hc36z3 : nzc ((NgZ I0 a1 a9 gX gE gc)) 3 = gc 3 := rfl
  have hc36z4 : nzc ((NgZ I0 a1 a9 gX gE gc)) 4 = gc 4 := rfl
  have hc36z5 : nzc ((NgZ I0 a1 a9 gX gE gc)) 5 = gc 5 := rfl
  refine tr_aload_n dX10_turned_0 rfl ?_
  refine tr_iload_n dX10_turned_1 rfl ?_
  refine q_callVi hE (M' := mX10_isCheese) (as := [_]) dX10_turned_2 lk10_195 inX10_isCheese seX10_isCheese myX10_isCheese (by decide) ⟨by decide, by decide⟩ rfl (kR1 hS0.1 ta0) (Nat.le_of_ble_eq_true rfl) rfl rfl (by decide) (by decide) (fk_X10_isCheese hS0.1  ta0) ?_
  rintro v42 cn' K' N' I37 R38 L39 ⟨rfl, rfl, rfl, rfl, rfl, rfl, h43, p44, p45, -⟩
  have p46 := p44 _ d2
  clear p44
  rw [c4] at p46
  have p47 := p45 _ d2
  clear p45
  rw [c4] at p47
  refine q_if_ne 14 dX10_turned_5 (by decide) (fun h48 => ?_) (fun h48 => ?_)
  · skip
    refine tr_aload_n dX10_turned_14 rfl ?_
    refine tr_iload_n dX10_turned_15 rfl ?_
    refine q_callVi hE (M' := mX10_isMinute) (as := [_]) dX10_turned_16 lk10_115 inX10_isMinute seX10_isMinute myX10_isMinute (by decide) ⟨by decide, by decide⟩ rfl (kR1 hS0.1 ta0) (Nat.le_of_ble_eq_true rfl) rfl rfl (by decide) (by decide) (fk_X10_isMinute hS0.1  ta0) ?_
    rintro v54 cn' K' N' I49 R50 L51 ⟨rfl, rfl, rfl, rfl, rfl, rfl, h55, p56, p57, -⟩
    have p58 := p56 _ d2
    clear p56
    rw [c7] at p58
    have p59 := p57 _ d2
    clear p57
    rw [c7] at p59
    refine q_if_ne 28 dX10_turned_19 (by decide) (fun h60 => ?_) (fun h60 => ?_)
    · skip
      refine tr_aload_n dX10_turned_28 rfl ?_
      refine tr_aload_n dX10_turned_29 rfl ?_
      refine q_callVr hE (M' := mX10_presentNight) (as := []) dX10_turned_30 lk10_155 inX10_presentNight seX10_presentNight myX10_presentNight (by decide) ⟨by decide, by decide⟩ rfl (kR1 hS0.1 ta0) (Nat.le_of_ble_eq_true rfl) rfl rfl (by decide) (by decide) (fk_X10_presentNight hS0.1 (gX) (gE) (gc) ta0 hX hK hD (fun al ha => hEa al ha) hGd hMs hNg hDn h1) ?_
      rintro a66 cn' K' N' I61 R62 L63 ⟨rfl, rfl, rfl, rfl, g64, ta66, p67, rp68, rp69, rp70, rp71, rp72, -⟩
      have hS73 := hS0.tr g64 (by decide +kernel) (by decide +kernel)
      obtain ⟨v74, c75⟩ : ∃ v, I61 a0 11 = v := ⟨_, rfl⟩
      have b76 := iv1_11 hS73.1 ta0 c75
      rw [c75] at p67
      have hq77 := NgP.own (n := a66) rp69 (SkQ.rc rp68 hW0 ta0 (R13 hS73 (by decide +kernel))) (by rw [c75]; omega) ((g64.rcell ta0 (by decide +kernel)).trans rp70) ((hS73.rcell ta0 (by decide +kernel)).trans d12) ((hS73.rcell ta0 (by decide +kernel)).trans d2) ((hS73.rcell ta0 (by decide +kernel)).trans d10) ((hEa _ d2).gs hW0 ta1 hS73 (by decide +kernel) (by decide +kernel)) hGd
      have hq77z : NgZ I61 a1 a9 gX gE gc = (NgZ I0 a1 a9 gX gE gc) := by unfold NgZ; rw [hS73.cell ta1 (by decide +kernel), hS73.cell ta9 (by decide +kernel), hS73.cell ta9 (by decide +kernel)]
      rw [hq77z] at hq77
      refine tr_iload_n dX10_turned_33 rfl ?_
      refine tr_iload_n dX10_turned_34 rfl ?_
      refine q_callVi hE (M' := mX5_turnerOf) (as := [_, _]) dX10_turned_35 lk10_198 inX5_turnerOf seX5_turnerOf myX5_turnerOf (by decide) ⟨by decide, by decide⟩ rfl (kR13 hS73.1 ta66) (Nat.le_of_ble_eq_true rfl) rfl rfl (by decide) (by decide) (fk_X5_turnerOf hS73.1 ((NgZ I0 a1 a9 gX gE gc)) ta66 (by omega) (by omega) hq77.1 hc36g hq77.2 (by first | done | with_reducible assumption | omega) (by first | done | with_reducible assumption | omega)) ?_
      rintro v83 cn' K' N' I78 R79 L80 ⟨rfl, rfl, rfl, rfl, rfl, rfl, rp84, -⟩
      refine q_callVi hE (M' := mX10_answered) (as := [_]) dX10_turned_38 lk10_109 inX10_answered seX10_answered myX10_answered (by decide) ⟨by decide, by decide⟩ rfl (kR1 hS73.1 ta0) (Nat.le_of_ble_eq_true rfl) rfl rfl (by decide) (by decide) (fk_X10_answered hS73.1  ta0) ?_
      rintro v90 cn' K' N' I85 R86 L87 ⟨rfl, rfl, rfl, rfl, rfl, g88, p91, p92, -⟩
      have hS93 := hS73.tr g88 (by decide +kernel) (by decide +kernel)
      have c94 : I85 a0 11 = v74 := (g88.cell ta0 (by decide +kernel)).trans c75
      obtain ⟨v95, c96⟩ : ∃ v, I85 a0 17 = v := ⟨_, rfl⟩
      rw [c96] at p92
      exact tr_iret hZ dX10_turned_41 rfl (by decide) (by decide) ⟨v90, rfl, rfl, rfl, rfl, rfl, hS93, (SkQ.st rp68 hW0 ta0 g88 (by decide +kernel) (by decide +kernel)), (NgQ.st rp69 hS93.1 ta0 g88 (by decide +kernel) (by decide +kernel) (by decide +kernel)), (by first | exact Or.inl ⟨(fun q0 z0 => by obtain rfl := Option.some.inj ((d2).symm.trans z0); (try rw [c4]); first | done | with_reducible assumption | omega), (by first | done | with_reducible assumption | omega), trivial⟩ | exact Or.inr (Or.inl ⟨(by first | done | with_reducible assumption | omega), (fun q0 z0 => by obtain rfl := Option.some.inj ((d2).symm.trans z0); (try rw [c4]); first | done | with_reducible assumption | omega), (fun q0 z0 => by obtain rfl := Option.some.inj ((d2).symm.trans z0); (try rw [c7]); first | done | with_reducible assumption | omega), (by first | done | with_reducible assumption | omega), trivial⟩) | exact Or.inr (Or.inr (⟨(by first | done | with_reducible assumption | omega), (fun q0 z0 => by obtain rfl := Option.some.inj ((d2).symm.trans z0); (try rw [c4]); first | done | with_reducible assumption | omega), (by first | done | with_reducible assumption | omega), (fun q0 z0 => by obtain rfl := Option.some.inj ((d2).symm.trans z0); (try rw [c7]); first | done | with_reducible assumption | omega), (fun al nw h2 h6 => by obtain rfl := Option.some.inj (d2.symm.trans h2); obtain rfl := Option.some.inj (d10.symm.trans h6); have e := rp84; omega), trivial⟩))), trivial⟩
    · skip
      refine tr_aload_n dX10_turned_22 rfl ?_
      refine q_iconst dX10_turned_23 (by decide) ?_
      intro v97 h98
      refine q_callVi hE (M' := mX10_refused) (as := [_]) dX10_turned_24 lk10_79 inX10_refused seX10_refused myX10_refused (by decide) ⟨by decide, by decide⟩ rfl (kR1 hS0.1 ta0) (Nat.le_of_ble_eq_true rfl) rfl rfl (by decide) (by decide) (fk_X10_refused hS0.1  ta0) ?_
      rintro v104 cn' K' N' I99 R100 L101 ⟨rfl, rfl, rfl, rfl, rfl, g102, p105, p106, -⟩
      have hS107 := hS0.tr g102 (by decide +kernel) (by decide +kernel)
      obtain ⟨v108, c109⟩ : ∃ v, I99 a0 17 = v := ⟨_, rfl⟩
      rw [c109] at p106
      exact tr_iret hZ dX10_turned_27 rfl (by decide) (by decide) ⟨v104, rfl, rfl, rfl, rfl, rfl, hS107, (SkQ.st hK hW0 ta0 g102 (by decide +kernel) (by decide +kernel)), (NgQ.st hNg hW0 ta0 g102 (by decide +kernel) (by decide +kernel) (by decide +kernel)), (by first | exact Or.inl ⟨(fun q0 z0 => by obtain rfl := Option.some.inj ((d2).symm.trans z0); (try rw [c4]); first | done | with_reducible assumption | omega), (by first | done | with_reducible assumption | omega), trivial⟩ | exact Or.inr (Or.inl ⟨(by first | done | with_reducible assumption | omega), (fun q0 z0 => by obtain rfl := Option.some.inj ((d2).symm.trans z0); (try rw [c4]); first | done | with_reducible assumption | omega), (fun q0 z0 => by obtain rfl := Option.some.inj ((d2).symm.trans z0); (try rw [c7]); first | done | with_reducible assumption | omega), (by first | done | with_reducible assumption | omega), trivial⟩) | exact Or.inr (Or.inr (⟨(by first | done | with_reducible assumption | omega), (fun q0 z0 => by obtain rfl := Option.some.inj ((d2).symm.trans z0); (try rw [c4]); first | done | with_reducible assumption | omega), (by first | done | with_reducible assumption | omega), (fun q0 z0 => by obtain rfl := Option.some.inj ((d2).symm.trans z0); (try rw [c7]); first | done | with_reducible assumption | omega), (by exfalso; omega), trivial⟩))), trivial⟩
  · skip
    refine tr_aload_n dX10_turned_8 rfl ?_
    refine q_iconst dX10_turned_9 (by decide) ?_
    intro v110 h111
    refine q_callVi hE (M' := mX10_refused) (as := [_]) dX10_turned_10 lk10_79 inX10_refused seX10_refused myX10_refused (by decide) ⟨by decide, by decide⟩ rfl (kR1 hS0.1 ta0) (Nat.le_of_ble_eq_true rfl) rfl rfl (by decide) (by decide) (fk_X10_refused hS0.1  ta0) ?_
    rintro v117 cn' K' N' I112 R113 L114 ⟨rfl, rfl, rfl, rfl, rfl, g115, p118, p119, -⟩
    have hS120 := hS0.tr g115 (by decide +kernel) (by decide +kernel)
    obtain ⟨v121, c122⟩ : ∃ v, I112 a0 17 = v := ⟨_, rfl⟩
    rw [c122] at p119
    exact tr_iret hZ dX10_turned_13 rfl (by decide) (by decide) ⟨v117, rfl, rfl, rfl, rfl, rfl, hS120, (SkQ.st hK hW0 ta0 g115 (by decide +kernel) (by decide +kernel)), (NgQ.st hNg hW0 ta0 g115 (by decide +kernel) (by decide +kernel) (by decide +kernel)), (by first | exact Or.inl ⟨(fun q0 z0 => by obtain rfl := Option.some.inj ((d2).symm.trans z0); (try rw [c4]); first | done | with_reducible assumption | omega), (by first | done | with_reducible assumption | omega), trivial⟩ | exact Or.inr (Or.inl ⟨(by first | done | with_reducible assumption | omega), (fun q0 z0 => by obtain rfl := Option.some.inj ((d2).symm.trans z0); (try rw [c4]); first | done | with_reducible assumption | omega), (fun q0 z0 => by obtain rfl := Option.some.inj ((d2).symm.trans z0); (try rw [c7]); first | done | with_reducible assumption | omega), (by first | done | with_reducible assumption | omega), trivial⟩) | exact Or.inr (Or.inr (⟨(by first | done | with_reducible assumption | omega), (fun q0 z0 => by obtain rfl := Option.some.inj ((d2).symm.trans z0); (try rw [c4]); first | done | with_reducible assumption | omega), (by first | done | with_reducible assumption | omega), (fun q0 z0 => by obtain rfl := Option.some.inj ((d2).symm.trans z0); (try rw [c7]); first | done | with_reducible assumption | omega), (by exfalso; omega), trivial⟩))), trivial⟩
set_option maxHeartbeats 4000000 in
theorem fk_X5_liesUp {l : Launch} {T : Nat → Nat} {cn : Nat} {K N : Nat → Nat} {I0 : cz_I} {R0 : cz_R} {L0 : cz_L} {d : Int} (hW0 : Wf T cn K N I0 R0 d) (gZ : cz_N) {a0 : Nat} (ta0 : T a0 = 13) {x1 : Int32} (hx1 : 0 ≤ x1.toInt ∧ x1.toInt ≤ 7) {x2 : Int32} (hx2 : 0 ≤ x2.toInt ∧ x2.toInt ≤ 239) (hP : NgP I0 R0 a0 gZ) (hG : GdN gZ) (hR : NgR I0 R0 a0 gZ (nzc gZ 0).toNat) (pre0 : x1.toInt < (nzc gZ 3)) (pre1 : x2.toInt < (nzc gZ 0)) : ConE l mX5_liesUp [.ref a0, .int x1, .int x2] cn K N I0 R0 L0 (ca_i (fun v cn' K' N' I' R' L' => cn = cn' ∧ K = K' ∧ N = N' ∧ I0 = I' ∧ R0 = R' ∧ L0 = L' ∧ (0 ≤ v.toInt ∧ v.toInt ≤ 1) ∧ (v.toInt = nV gZ x1.toInt.toNat (x2.toInt.toNat + 1)) ∧ True)) := by
  refine ConE.of (by decide +kernel) rfl (Nat.le_of_ble_eq_true rfl) rfl (fun X hX hZ hE => ?_)
  subst hX
  have p1 := pre0
  have p2 := pre1
  obtain ⟨a3, d4, ta3⟩ := rf13_0 hW0 ta0
  obtain ⟨a5, d6, ta5⟩ := rf13_1 hW0 ta0
  obtain ⟨a7, d8, ta7⟩ := rf2_2 hW0 ta3
  obtain ⟨a9, d10, ta9⟩ := rf2_6 hW0 ta3
  obtain ⟨a11, d12, ta11⟩ := rf2_8 hW0 ta3
  obtain ⟨a13, d14, ta13⟩ := rf2_10 hW0 ta3
  obtain ⟨a15, d16, ta15⟩ := rf2_12 hW0 ta3
  obtain ⟨a17, d18, ta17⟩ := rf12_2 hW0 ta5
  obtain ⟨a19, d20, ta19⟩ := rf12_3 hW0 ta5
  obtain ⟨a21, d22, ta21⟩ := rf12_5 hW0 ta5
  obtain ⟨a23, d24, ta23⟩ := rf12_8 hW0 ta5
  obtain ⟨a25, d26, ta25⟩ := rf12_9 hW0 ta5
  obtain ⟨a27, d28, ta27⟩ := rf12_11 hW0 ta5
  obtain ⟨a29, d30, ta29⟩ := rf13_3 hW0 ta0
  obtain ⟨a31, d32, ta31⟩ := rf13_4 hW0 ta0
  obtain ⟨a33, d34, ta33⟩ := rf13_5 hW0 ta0
  obtain ⟨a35, d36, ta35⟩ := rf13_6 hW0 ta0
  obtain ⟨a37, d38, ta37⟩ := rf13_7 hW0 ta0
  obtain ⟨a39, d40, ta39⟩ := rf13_8 hW0 ta0
  obtain ⟨a41, d42, ta41⟩ := rf13_9 hW0 ta0
  obtain ⟨a43, d44, ta43⟩ := rf13_10 hW0 ta0
  obtain ⟨a45, d46, ta45⟩ := rf13_11 hW0 ta0
  obtain ⟨v47, c48⟩ : ∃ v, I0 a3 0 = v := ⟨_, rfl⟩
  have b49 := iv2_0 hW0 ta3 c48
  obtain ⟨v50, c51⟩ : ∃ v, I0 a3 1 = v := ⟨_, rfl⟩
  have b52 := iv2_1 hW0 ta3 c51
  obtain ⟨v53, c54⟩ : ∃ v, I0 a3 5 = v := ⟨_, rfl⟩
  have b55 := iv2_5 hW0 ta3 c54
  obtain ⟨v56, c57⟩ : ∃ v, I0 a3 7 = v := ⟨_, rfl⟩
  obtain ⟨v58, c59⟩ : ∃ v, I0 a3 9 = v := ⟨_, rfl⟩
  have b60 := iv2_9 hW0 ta3 c59
  obtain ⟨v61, c62⟩ : ∃ v, I0 a3 11 = v := ⟨_, rfl⟩
  have b63 := iv2_11 hW0 ta3 c62
  obtain ⟨v64, c65⟩ : ∃ v, I0 a0 2 = v := ⟨_, rfl⟩
  have hA66 := hP _ _ d4 d6
  have hc67 := hA66.1.ct
  rw [c48, c51, c54, c59, c62, c57] at hc67
  have hc67g := hG.cs
  have hc67m := hA66.2.2
  rw [c65] at hc67m
  have hc67n := hG.ms
  have hup := hG.up
  refine tr_aload_n dX5_liesUp_0 rfl ?_
  refine tr_getR dX5_liesUp_1 fl5_39 (kR13 hW0 ta0) d4 ?_
  refine q_getI dX5_liesUp_4 fl5_54 (kR2 hW0 ta3) c57 ?_
  refine tr_iload_n dX5_liesUp_7 rfl ?_
  refine q_callSNi hE (M' := mX10_bit) (as := [_, _]) dX5_liesUp_8 lk5_84 inX10_bit myX10_bit ⟨by decide, by decide⟩ rfl (Nat.le_of_ble_eq_true rfl) rfl rfl (by decide) (by decide) (f_X10_bitX   (by omega) (by omega)) ?_
  rintro v73 cn' K' N' I68 R69 L70 ⟨rfl, rfl, rfl, rfl, rfl, rfl, p74, -⟩
  have btv73 := bt_01 v56.toInt x1.toInt
  refine q_iconst dX5_liesUp_11 (by decide) ?_
  intro v75 h76
  refine q_icmp_ne 19 dX5_liesUp_12 (by decide) (fun h77 => ?_) (fun h77 => ?_)
  · skip
    refine q_iconst dX5_liesUp_19 (by decide) ?_
    intro v78 h79
    refine tr_istore_n dX5_liesUp_20 (by decide) (by decide) ?_
    refine q_iconst dX5_liesUp_21 (by decide) ?_
    intro v80 h81
    refine tr_istore dX5_liesUp_22 (by decide) (by decide) ?_
    have lp94 : ∀ (fu : Nat) (ls : Nat → Option Value) (v82 : Int32) (v83 : Int32), ls 0 = some (.ref a0) → ls 1 = some (.int x1) → ls 2 = some (.int x2) → ls 3 = some (.int v82) → ls 4 = some (.int v83) → 0 ≤ v83.toInt → v83.toInt ≤ x2.toInt + 1 → 0 ≤ v82.toInt → v82.toInt ≤ 1 → (v82.toInt = nV gZ x1.toInt.toNat v83.toInt.toNat) → (-v83.toInt + 2147483647).toNat < fu → Tr X mX5_liesUp 24 ls [] cn K N I0 R0 L0 0 0 := by
      intro fu
      induction fu with
      | zero => intros; rename_i hz; exact absurd hz (Nat.not_lt_zero _)
      | succ fu ih94 =>
        intro ls v82 v83 hl84 hl85 hl86 hl87 hl88 g89 g90 g91 g92 rw93 hm94
        refine tr_iload dX5_liesUp_24 hl88 ?_
        refine tr_iload_n dX5_liesUp_26 hl86 ?_
        refine q_icmp_gt 46 dX5_liesUp_27 (by decide) (fun h96 => ?_) (fun h96 => ?_)
        · skip
          refine tr_iload_n dX5_liesUp_46 hl87 ?_
          exact tr_zret hZ dX5_liesUp_47 rfl (ti_b01 (by omega) (by omega)) (by decide) (by decide) ⟨v82, rfl, rfl, rfl, rfl, rfl, rfl, rfl, (by omega), (by rw [show x2.toInt.toNat + 1 = v83.toInt.toNat by omega]; have z := rw93; omega), trivial⟩
        · skip
          refine tr_iload_n dX5_liesUp_30 hl87 ?_
          refine tr_aload_n dX5_liesUp_31 hl84 ?_
          refine tr_iload_n dX5_liesUp_32 hl85 ?_
          refine tr_iload dX5_liesUp_33 hl88 ?_
          refine q_callVi hE (M' := mX5_isTurned) (as := [_, _]) dX5_liesUp_35 lk5_180 inX5_isTurned seX5_isTurned myX5_isTurned (by decide) ⟨by decide, by decide⟩ rfl (kR13 hW0 ta0) (Nat.le_of_ble_eq_true rfl) rfl rfl (by decide) (by decide) (fk_X5_isTurned hW0 (gZ) ta0 (by omega) (by omega) hP hG hR (by first | done | with_reducible assumption | omega) (by first | done | with_reducible assumption | omega)) ?_
          rintro v102 cn' K' N' I97 R98 L99 ⟨rfl, rfl, rfl, rfl, rfl, rfl, h103, rp104, -⟩
          refine tr_ixor dX5_liesUp_38 ?_
          obtain ⟨v105, lx106⟩ : ∃ z, z = v82 ^^^ v102 := ⟨_, rfl⟩
          rw [← lx106]
          have hx107 : 0 ≤ v105.toInt ∧ v105.toInt ≤ 1 := by rw [xr01 (by omega) (by omega) lx106]; split <;> omega
          refine tr_istore_n dX5_liesUp_39 (by decide) (by decide) ?_
          refine q_iincE dX5_liesUp_40 hl88 (by decide) (by decide) (by intros; omega) ?_
          intro v108 h109
          refine tr_goto 24 dX5_liesUp_43 (by decide) ?_
          exact ih94 _ v105 v108 hl84 hl85 hl86 rfl rfl (by omega) (by omega) (by omega) (by omega) (by have z := xr01 (by omega) (by omega) lx106; have t := rp104; have w := rw93; have b := nV_01 (Z := gZ) x1.toInt.toNat v83.toInt.toNat; rw [show v108.toInt.toNat = v83.toInt.toNat + 1 by omega, nV_s]; by_cases q : nB gZ v83.toInt.toNat x1.toInt.toNat = -2; (rw [if_pos q] at t; rw [if_pos q]; by_cases y : v82.toInt = v102.toInt; (rw [if_pos y] at z; omega); (rw [if_neg y] at z; omega)); (rw [if_neg q] at t; rw [if_neg q]; by_cases y : v82.toInt = v102.toInt; (rw [if_pos y] at z; omega); (rw [if_neg y] at z; omega))) (by omega)
    exact lp94 _ _ v78 v80 rfl rfl rfl rfl rfl (by omega) (by omega) (by omega) (by omega) (by rw [show v80.toInt.toNat = 0 by omega]; show _ = bt (nzc gZ 9) ((x1.toInt.toNat : Nat) : Int); rw [show ((x1.toInt.toNat : Nat) : Int) = x1.toInt by omega, ← hc67.2.2.2.2.2]; omega) (Nat.lt_succ_self _)
  · skip
    refine q_iconst dX5_liesUp_15 (by decide) ?_
    intro v110 h111
    refine tr_goto 20 dX5_liesUp_16 (by decide) ?_
    refine tr_istore_n dX5_liesUp_20 (by decide) (by decide) ?_
    refine q_iconst dX5_liesUp_21 (by decide) ?_
    intro v112 h113
    refine tr_istore dX5_liesUp_22 (by decide) (by decide) ?_
    have lp126 : ∀ (fu : Nat) (ls : Nat → Option Value) (v114 : Int32) (v115 : Int32), ls 0 = some (.ref a0) → ls 1 = some (.int x1) → ls 2 = some (.int x2) → ls 3 = some (.int v114) → ls 4 = some (.int v115) → 0 ≤ v115.toInt → v115.toInt ≤ x2.toInt + 1 → 0 ≤ v114.toInt → v114.toInt ≤ 1 → (v114.toInt = nV gZ x1.toInt.toNat v115.toInt.toNat) → (-v115.toInt + 2147483647).toNat < fu → Tr X mX5_liesUp 24 ls [] cn K N I0 R0 L0 0 0 := by
      intro fu
      induction fu with
      | zero => intros; rename_i hz; exact absurd hz (Nat.not_lt_zero _)
      | succ fu ih126 =>
        intro ls v114 v115 hl116 hl117 hl118 hl119 hl120 g121 g122 g123 g124 rw125 hm126
        refine tr_iload dX5_liesUp_24 hl120 ?_
        refine tr_iload_n dX5_liesUp_26 hl118 ?_
        refine q_icmp_gt 46 dX5_liesUp_27 (by decide) (fun h128 => ?_) (fun h128 => ?_)
        · skip
          refine tr_iload_n dX5_liesUp_46 hl119 ?_
          exact tr_zret hZ dX5_liesUp_47 rfl (ti_b01 (by omega) (by omega)) (by decide) (by decide) ⟨v114, rfl, rfl, rfl, rfl, rfl, rfl, rfl, (by omega), (by rw [show x2.toInt.toNat + 1 = v115.toInt.toNat by omega]; have z := rw125; omega), trivial⟩
        · skip
          refine tr_iload_n dX5_liesUp_30 hl119 ?_
          refine tr_aload_n dX5_liesUp_31 hl116 ?_
          refine tr_iload_n dX5_liesUp_32 hl117 ?_
          refine tr_iload dX5_liesUp_33 hl120 ?_
          refine q_callVi hE (M' := mX5_isTurned) (as := [_, _]) dX5_liesUp_35 lk5_180 inX5_isTurned seX5_isTurned myX5_isTurned (by decide) ⟨by decide, by decide⟩ rfl (kR13 hW0 ta0) (Nat.le_of_ble_eq_true rfl) rfl rfl (by decide) (by decide) (fk_X5_isTurned hW0 (gZ) ta0 (by omega) (by omega) hP hG hR (by first | done | with_reducible assumption | omega) (by first | done | with_reducible assumption | omega)) ?_
          rintro v134 cn' K' N' I129 R130 L131 ⟨rfl, rfl, rfl, rfl, rfl, rfl, h135, rp136, -⟩
          refine tr_ixor dX5_liesUp_38 ?_
          obtain ⟨v137, lx138⟩ : ∃ z, z = v114 ^^^ v134 := ⟨_, rfl⟩
          rw [← lx138]
          have hx139 : 0 ≤ v137.toInt ∧ v137.toInt ≤ 1 := by rw [xr01 (by omega) (by omega) lx138]; split <;> omega
          refine tr_istore_n dX5_liesUp_39 (by decide) (by decide) ?_
          refine q_iincE dX5_liesUp_40 hl120 (by decide) (by decide) (by intros; omega) ?_
          intro v140 h141
          refine tr_goto 24 dX5_liesUp_43 (by decide) ?_
          exact ih126 _ v137 v140 hl116 hl117 hl118 rfl rfl (by omega) (by omega) (by omega) (by omega) (by have z := xr01 (by omega) (by omega) lx138; have t := rp136; have w := rw125; have b := nV_01 (Z := gZ) x1.toInt.toNat v115.toInt.toNat; rw [show v140.toInt.toNat = v115.toInt.toNat + 1 by omega, nV_s]; by_cases q : nB gZ v115.toInt.toNat x1.toInt.toNat = -2; (rw [if_pos q] at t; rw [if_pos q]; by_cases y : v114.toInt = v134.toInt; (rw [if_pos y] at z; omega); (rw [if_neg y] at z; omega)); (rw [if_neg q] at t; rw [if_neg q]; by_cases y : v114.toInt = v134.toInt; (rw [if_pos y] at z; omega); (rw [if_neg y] at z; omega))) (by omega)
    exact lp126 _ _ v110 v112 rfl rfl rfl rfl rfl (by omega) (by omega) (by omega) (by omega) (by rw [show v112.toInt.toNat = 0 by omega]; show _ = bt (nzc gZ 9) ((x1.toInt.toNat : Nat) : Int); rw [show ((x1.toInt.toNat : Nat) : Int) = x1.toInt by omega, ← hc67.2.2.2.2.2]; omega) (Nat.lt_succ_self _)
def wik_X10_up : List Nat := [73, 75, 81, 768, 769, 778, 834, 2303, 2367, 2431, 2495, 2559, 2623, 2687, 2751, 2815, 2879, 2943, 3007, 3071, 3135, 3199, 3263, 3327, 3391]
def wrk_X10_up : List Nat := [832, 833]
def Cs_X10_up (T : Nat → Nat) (I0 : cz_I) (R0 : cz_R) (a0 : Nat) (gX : Nat → Nat → Int) (gE : Nat → Nat → Int) (gc : Nat → Int) (x1 : Int32) (x2 : Int32) (v : Int32) (I' : cz_I) (R' : cz_R) : Prop :=
  ((∀ b1, R0 a0 2 = some b1 → (x1.toInt < 0 ∨ x1.toInt ≥ (I0 b1 5).toInt)) ∧ (v.toInt = -1) ∧ True) ∨
  ((0 ≤ x1.toInt) ∧ (∀ b1, R0 a0 2 = some b1 → x1.toInt < (I0 b1 5).toInt) ∧ (∀ b1, R0 a0 2 = some b1 → (x2.toInt < 0 ∨ x2.toInt ≥ (I0 b1 0).toInt)) ∧ (v.toInt = -1) ∧ True) ∨
  ((0 ≤ x1.toInt) ∧ (∀ b1, R0 a0 2 = some b1 → x1.toInt < (I0 b1 5).toInt) ∧ (0 ≤ x2.toInt) ∧ (∀ b1, R0 a0 2 = some b1 → x2.toInt < (I0 b1 0).toInt) ∧ (∀ al nw, R0 a0 2 = some al → R0 a0 6 = some nw → v.toInt = nV (NgZ I0 al nw gX gE gc) x1.toInt.toNat (x2.toInt.toNat + 1)) ∧ True)
set_option maxHeartbeats 4000000 in
theorem fk_X10_up {l : Launch} {T : Nat → Nat} {cn : Nat} {K N : Nat → Nat} {I0 : cz_I} {R0 : cz_R} {L0 : cz_L} {d : Int} (hW0 : Wf T cn K N I0 R0 d) (gX : Nat → Nat → Int) (gE : Nat → Nat → Int) (gc : Nat → Int) {a0 : Nat} (ta0 : T a0 = 1) {x1 : Int32} {x2 : Int32} (hX : EvQ I0 R0 a0 gX) (hK : SkQ I0 R0 a0 gX) (hD : DjS R0 a0) (hEa : ∀ al, R0 a0 2 = some al → CVa I0 R0 al gc gE) (hGd : GdE gc gE) (hMs : ∀ nw, R0 a0 6 = some nw → 0 ≤ (I0 nw 0).toInt ∧ (I0 nw 0).toInt ≤ 63) (hNg : NgQ I0 R0 a0 gX gE gc) (hDn : DjN R0 a0) (h1 : 1 ≤ gc 0 ∨ ∀ i, gc i = 0) : ConE l mX10_up [.ref a0, .int x1, .int x2] cn K N I0 R0 L0 (ca_i (fun v cn' K' N' I' R' L' => cn = cn' ∧ K = K' ∧ N = N' ∧ L0 = L' ∧ St T cn K N d wik_X10_up wrk_X10_up I0 R0 I' R' ∧ (SkQ I' R0 a0 gX) ∧ (NgQ I' R' a0 gX gE gc) ∧ Cs_X10_up T I0 R0 a0 gX gE gc x1 x2 v I' R' ∧ True)) := by
  refine ConE.of (by decide +kernel) rfl (Nat.le_of_ble_eq_true rfl) rfl (fun X hX hZ hE => ?_)
  subst hX
  have hS0 : St T cn K N d wik_X10_up wrk_X10_up I0 R0 I0 R0 := St.rf0 hW0
  obtain ⟨a1, d2, ta1⟩ := rf1_2 hW0 ta0
  obtain ⟨v3, c4⟩ : ∃ v, I0 a1 5 = v := ⟨_, rfl⟩
  have b5 := iv2_5 hW0 ta1 c4
  obtain ⟨v6, c7⟩ : ∃ v, I0 a1 0 = v := ⟨_, rfl⟩
  have b8 := iv2_0 hW0 ta1 c7
  obtain ⟨a9, d10, ta9⟩ := rf1_6 hW0 ta0
  obtain ⟨a11, d12, ta11⟩ := rf1_8 hW0 ta0
  obtain ⟨a13, d14, ta13⟩ := rf1_10 hW0 ta0
  obtain ⟨a15, d16, ta15⟩ := rf1_13 hW0 ta0
  obtain ⟨a17, d18, ta17⟩ := rf1_14 hW0 ta0
  obtain ⟨v19, c20⟩ : ∃ v, I0 a1 1 = v := ⟨_, rfl⟩
  have b21 := iv2_1 hW0 ta1 c20
  obtain ⟨v22, c23⟩ : ∃ v, I0 a1 3 = v := ⟨_, rfl⟩
  have b24 := iv2_3 hW0 ta1 c23
  obtain ⟨v25, c26⟩ : ∃ v, I0 a1 9 = v := ⟨_, rfl⟩
  have b27 := iv2_9 hW0 ta1 c26
  obtain ⟨v28, c29⟩ : ∃ v, I0 a1 11 = v := ⟨_, rfl⟩
  have b30 := iv2_11 hW0 ta1 c29
  obtain ⟨v31, c32⟩ : ∃ v, I0 a9 0 = v := ⟨_, rfl⟩
  obtain ⟨v33, c34⟩ : ∃ v, I0 a9 2 = v := ⟨_, rfl⟩
  have b35 := iv8_2 hW0 ta9 c34
  have hc36 := (hEa _ d2).ct
  rw [c7, c20, c4, c26, c29] at hc36
  have hc36m := hMs _ d10
  have hc36g := hGd.own hc36m gX (-1) ((I0 a1 3).toInt.toNat + (I0 a9 2).toInt.toNat)
  rw [c32] at hc36m
  have hc36z0 : nzc ((NgZ I0 a1 a9 gX gE gc)) 0 = gc 0 := rfl
  have hc36z1 : nzc ((NgZ I0 a1 a9 gX gE gc)) 1 = gc 1 := rfl
  have hc36z3 : nzc ((NgZ I0 a1 a9 gX gE gc)) 3 = gc 3 := rfl
  have hc36z4 : nzc ((NgZ I0 a1 a9 gX gE gc)) 4 = gc 4 := rfl
  have hc36z5 : nzc ((NgZ I0 a1 a9 gX gE gc)) 5 = gc 5 := rfl
  refine tr_aload_n dX10_up_0 rfl ?_
  refine tr_iload_n dX10_up_1 rfl ?_
  refine q_callVi hE (M' := mX10_isCheese) (as := [_]) dX10_up_2 lk10_195 inX10_isCheese seX10_isCheese myX10_isCheese (by decide) ⟨by decide, by decide⟩ rfl (kR1 hS0.1 ta0) (Nat.le_of_ble_eq_true rfl) rfl rfl (by decide) (by decide) (fk_X10_isCheese hS0.1  ta0) ?_
  rintro v42 cn' K' N' I37 R38 L39 ⟨rfl, rfl, rfl, rfl, rfl, rfl, h43, p44, p45, -⟩
  have p46 := p44 _ d2
  clear p44
  rw [c4] at p46
  have p47 := p45 _ d2
  clear p45
  rw [c4] at p47
  refine q_if_ne 14 dX10_up_5 (by decide) (fun h48 => ?_) (fun h48 => ?_)
  · skip
    refine tr_aload_n dX10_up_14 rfl ?_
    refine tr_iload_n dX10_up_15 rfl ?_
    refine q_callVi hE (M' := mX10_isMinute) (as := [_]) dX10_up_16 lk10_115 inX10_isMinute seX10_isMinute myX10_isMinute (by decide) ⟨by decide, by decide⟩ rfl (kR1 hS0.1 ta0) (Nat.le_of_ble_eq_true rfl) rfl rfl (by decide) (by decide) (fk_X10_isMinute hS0.1  ta0) ?_
    rintro v54 cn' K' N' I49 R50 L51 ⟨rfl, rfl, rfl, rfl, rfl, rfl, h55, p56, p57, -⟩
    have p58 := p56 _ d2
    clear p56
    rw [c7] at p58
    have p59 := p57 _ d2
    clear p57
    rw [c7] at p59
    refine q_if_ne 28 dX10_up_19 (by decide) (fun h60 => ?_) (fun h60 => ?_)
    · skip
      refine tr_aload_n dX10_up_28 rfl ?_
      refine tr_aload_n dX10_up_29 rfl ?_
      refine q_callVr hE (M' := mX10_presentNight) (as := []) dX10_up_30 lk10_155 inX10_presentNight seX10_presentNight myX10_presentNight (by decide) ⟨by decide, by decide⟩ rfl (kR1 hS0.1 ta0) (Nat.le_of_ble_eq_true rfl) rfl rfl (by decide) (by decide) (fk_X10_presentNight hS0.1 (gX) (gE) (gc) ta0 hX hK hD (fun al ha => hEa al ha) hGd hMs hNg hDn h1) ?_
      rintro a66 cn' K' N' I61 R62 L63 ⟨rfl, rfl, rfl, rfl, g64, ta66, p67, rp68, rp69, rp70, rp71, rp72, -⟩
      have hS73 := hS0.tr g64 (by decide +kernel) (by decide +kernel)
      obtain ⟨v74, c75⟩ : ∃ v, I61 a0 11 = v := ⟨_, rfl⟩
      have b76 := iv1_11 hS73.1 ta0 c75
      rw [c75] at p67
      have hq77 := NgP.own (n := a66) rp69 (SkQ.rc rp68 hW0 ta0 (R13 hS73 (by decide +kernel))) (by rw [c75]; omega) ((g64.rcell ta0 (by decide +kernel)).trans rp70) ((hS73.rcell ta0 (by decide +kernel)).trans d12) ((hS73.rcell ta0 (by decide +kernel)).trans d2) ((hS73.rcell ta0 (by decide +kernel)).trans d10) ((hEa _ d2).gs hW0 ta1 hS73 (by decide +kernel) (by decide +kernel)) hGd
      have hq77z : NgZ I61 a1 a9 gX gE gc = (NgZ I0 a1 a9 gX gE gc) := by unfold NgZ; rw [hS73.cell ta1 (by decide +kernel), hS73.cell ta9 (by decide +kernel), hS73.cell ta9 (by decide +kernel)]
      rw [hq77z] at hq77
      refine tr_iload_n dX10_up_33 rfl ?_
      refine tr_iload_n dX10_up_34 rfl ?_
      refine q_callVi hE (M' := mX5_liesUp) (as := [_, _]) dX10_up_35 lk10_201 inX5_liesUp seX5_liesUp myX5_liesUp (by decide) ⟨by decide, by decide⟩ rfl (kR13 hS73.1 ta66) (Nat.le_of_ble_eq_true rfl) rfl rfl (by decide) (by decide) (fk_X5_liesUp hS73.1 ((NgZ I0 a1 a9 gX gE gc)) ta66 (by omega) (by omega) hq77.1 hc36g hq77.2 (by first | done | with_reducible assumption | omega) (by first | done | with_reducible assumption | omega)) ?_
      rintro v83 cn' K' N' I78 R79 L80 ⟨rfl, rfl, rfl, rfl, rfl, rfl, h84, rp85, -⟩
      refine q_if_eq 45 dX10_up_38 (by decide) (fun h86 => ?_) (fun h86 => ?_)
      · skip
        refine q_iconst dX10_up_45 (by decide) ?_
        intro v87 h88
        refine q_callVi hE (M' := mX10_answered) (as := [_]) dX10_up_46 lk10_109 inX10_answered seX10_answered myX10_answered (by decide) ⟨by decide, by decide⟩ rfl (kR1 hS73.1 ta0) (Nat.le_of_ble_eq_true rfl) rfl rfl (by decide) (by decide) (fk_X10_answered hS73.1  ta0) ?_
        rintro v94 cn' K' N' I89 R90 L91 ⟨rfl, rfl, rfl, rfl, rfl, g92, p95, p96, -⟩
        have hS97 := hS73.tr g92 (by decide +kernel) (by decide +kernel)
        have c98 : I89 a0 11 = v74 := (g92.cell ta0 (by decide +kernel)).trans c75
        obtain ⟨v99, c100⟩ : ∃ v, I89 a0 17 = v := ⟨_, rfl⟩
        rw [c100] at p96
        exact tr_iret hZ dX10_up_49 rfl (by decide) (by decide) ⟨v94, rfl, rfl, rfl, rfl, rfl, hS97, (SkQ.st rp68 hW0 ta0 g92 (by decide +kernel) (by decide +kernel)), (NgQ.st rp69 hS97.1 ta0 g92 (by decide +kernel) (by decide +kernel) (by decide +kernel)), (Or.inr (Or.inr (⟨(by first | done | with_reducible assumption | omega), (fun q0 z0 => by obtain rfl := Option.some.inj ((d2).symm.trans z0); (try rw [c4]); first | done | with_reducible assumption | omega), (by first | done | with_reducible assumption | omega), (fun q0 z0 => by obtain rfl := Option.some.inj ((d2).symm.trans z0); (try rw [c7]); first | done | with_reducible assumption | omega), (fun al nw h2 h6 => by obtain rfl := Option.some.inj (d2.symm.trans h2); obtain rfl := Option.some.inj (d10.symm.trans h6); have e := rp85; omega), trivial⟩))), trivial⟩
      · skip
        refine q_iconst dX10_up_41 (by decide) ?_
        intro v101 h102
        refine tr_goto 46 dX10_up_42 (by decide) ?_
        refine q_callVi hE (M' := mX10_answered) (as := [_]) dX10_up_46 lk10_109 inX10_answered seX10_answered myX10_answered (by decide) ⟨by decide, by decide⟩ rfl (kR1 hS73.1 ta0) (Nat.le_of_ble_eq_true rfl) rfl rfl (by decide) (by decide) (fk_X10_answered hS73.1  ta0) ?_
        rintro v108 cn' K' N' I103 R104 L105 ⟨rfl, rfl, rfl, rfl, rfl, g106, p109, p110, -⟩
        have hS111 := hS73.tr g106 (by decide +kernel) (by decide +kernel)
        have c112 : I103 a0 11 = v74 := (g106.cell ta0 (by decide +kernel)).trans c75
        obtain ⟨v113, c114⟩ : ∃ v, I103 a0 17 = v := ⟨_, rfl⟩
        rw [c114] at p110
        exact tr_iret hZ dX10_up_49 rfl (by decide) (by decide) ⟨v108, rfl, rfl, rfl, rfl, rfl, hS111, (SkQ.st rp68 hW0 ta0 g106 (by decide +kernel) (by decide +kernel)), (NgQ.st rp69 hS111.1 ta0 g106 (by decide +kernel) (by decide +kernel) (by decide +kernel)), (Or.inr (Or.inr (⟨(by first | done | with_reducible assumption | omega), (fun q0 z0 => by obtain rfl := Option.some.inj ((d2).symm.trans z0); (try rw [c4]); first | done | with_reducible assumption | omega), (by first | done | with_reducible assumption | omega), (fun q0 z0 => by obtain rfl := Option.some.inj ((d2).symm.trans z0); (try rw [c7]); first | done | with_reducible assumption | omega), (fun al nw h2 h6 => by obtain rfl := Option.some.inj (d2.symm.trans h2); obtain rfl := Option.some.inj (d10.symm.trans h6); have e := rp85; omega), trivial⟩))), trivial⟩
    · skip
      refine tr_aload_n dX10_up_22 rfl ?_
      refine q_iconst dX10_up_23 (by decide) ?_
      intro v115 h116
      refine q_callVi hE (M' := mX10_refused) (as := [_]) dX10_up_24 lk10_79 inX10_refused seX10_refused myX10_refused (by decide) ⟨by decide, by decide⟩ rfl (kR1 hS0.1 ta0) (Nat.le_of_ble_eq_true rfl) rfl rfl (by decide) (by decide) (fk_X10_refused hS0.1  ta0) ?_
      rintro v122 cn' K' N' I117 R118 L119 ⟨rfl, rfl, rfl, rfl, rfl, g120, p123, p124, -⟩
      have hS125 := hS0.tr g120 (by decide +kernel) (by decide +kernel)
      obtain ⟨v126, c127⟩ : ∃ v, I117 a0 17 = v := ⟨_, rfl⟩
      rw [c127] at p124
      exact tr_iret hZ dX10_up_27 rfl (by decide) (by decide) ⟨v122, rfl, rfl, rfl, rfl, rfl, hS125, (SkQ.st hK hW0 ta0 g120 (by decide +kernel) (by decide +kernel)), (NgQ.st hNg hW0 ta0 g120 (by decide +kernel) (by decide +kernel) (by decide +kernel)), (by first | exact Or.inl ⟨(fun q0 z0 => by obtain rfl := Option.some.inj ((d2).symm.trans z0); (try rw [c4]); first | done | with_reducible assumption | omega), (by first | done | with_reducible assumption | omega), trivial⟩ | exact Or.inr (Or.inl ⟨(by first | done | with_reducible assumption | omega), (fun q0 z0 => by obtain rfl := Option.some.inj ((d2).symm.trans z0); (try rw [c4]); first | done | with_reducible assumption | omega), (fun q0 z0 => by obtain rfl := Option.some.inj ((d2).symm.trans z0); (try rw [c7]); first | done | with_reducible assumption | omega), (by first | done | with_reducible assumption | omega), trivial⟩) | exact Or.inr (Or.inr (⟨(by first | done | with_reducible assumption | omega), (fun q0 z0 => by obtain rfl := Option.some.inj ((d2).symm.trans z0); (try rw [c4]); first | done | with_reducible assumption | omega), (by first | done | with_reducible assumption | omega), (fun q0 z0 => by obtain rfl := Option.some.inj ((d2).symm.trans z0); (try rw [c7]); first | done | with_reducible assumption | omega), (by exfalso; omega), trivial⟩))), trivial⟩
  · skip
    refine tr_aload_n dX10_up_8 rfl ?_
    refine q_iconst dX10_up_9 (by decide) ?_
    intro v128 h129
    refine q_callVi hE (M' := mX10_refused) (as := [_]) dX10_up_10 lk10_79 inX10_refused seX10_refused myX10_refused (by decide) ⟨by decide, by decide⟩ rfl (kR1 hS0.1 ta0) (Nat.le_of_ble_eq_true rfl) rfl rfl (by decide) (by decide) (fk_X10_refused hS0.1  ta0) ?_
    rintro v135 cn' K' N' I130 R131 L132 ⟨rfl, rfl, rfl, rfl, rfl, g133, p136, p137, -⟩
    have hS138 := hS0.tr g133 (by decide +kernel) (by decide +kernel)
    obtain ⟨v139, c140⟩ : ∃ v, I130 a0 17 = v := ⟨_, rfl⟩
    rw [c140] at p137
    exact tr_iret hZ dX10_up_13 rfl (by decide) (by decide) ⟨v135, rfl, rfl, rfl, rfl, rfl, hS138, (SkQ.st hK hW0 ta0 g133 (by decide +kernel) (by decide +kernel)), (NgQ.st hNg hW0 ta0 g133 (by decide +kernel) (by decide +kernel) (by decide +kernel)), (by first | exact Or.inl ⟨(fun q0 z0 => by obtain rfl := Option.some.inj ((d2).symm.trans z0); (try rw [c4]); first | done | with_reducible assumption | omega), (by first | done | with_reducible assumption | omega), trivial⟩ | exact Or.inr (Or.inl ⟨(by first | done | with_reducible assumption | omega), (fun q0 z0 => by obtain rfl := Option.some.inj ((d2).symm.trans z0); (try rw [c4]); first | done | with_reducible assumption | omega), (fun q0 z0 => by obtain rfl := Option.some.inj ((d2).symm.trans z0); (try rw [c7]); first | done | with_reducible assumption | omega), (by first | done | with_reducible assumption | omega), trivial⟩) | exact Or.inr (Or.inr (⟨(by first | done | with_reducible assumption | omega), (fun q0 z0 => by obtain rfl := Option.some.inj ((d2).symm.trans z0); (try rw [c4]); first | done | with_reducible assumption | omega), (by first | done | with_reducible assumption | omega), (fun q0 z0 => by obtain rfl := Option.some.inj ((d2).symm.trans z0); (try rw [c7]); first | done | with_reducible assumption | omega), (by exfalso; omega), trivial⟩))), trivial⟩
