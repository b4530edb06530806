def wik_X10_cheese : List Nat := [73, 75, 81, 768, 769, 778, 834, 2303, 2367, 2431, 2495, 2559, 2623, 2687, 2751, 2815, 2879, 2943, 3007, 3071, 3135, 3199, 3263, 3327, 3391]
def wrk_X10_cheese : List Nat := [832, 833]
def Cs_X10_cheese (T : Nat → Nat) (I0 : cz_I) (R0 : cz_R) (a0 : Nat) (gX : Nat → Nat → Int) (gE : Nat → Nat → Int) (gc : Nat → Int) (x1 : Int32) (x2 : Int32) (v : Int32) (I' : cz_I) (R' : cz_R) : Prop :=
  ((∀ b1, R0 a0 2 = some b1 → (x1.toInt < 0 ∨ x1.toInt ≥ (I0 b1 5).toInt)) ∧ (v.toInt = -1) ∧ True) ∨
  ((0 ≤ x1.toInt) ∧ (∀ b1, R0 a0 2 = some b1 → x1.toInt < (I0 b1 5).toInt) ∧ ((x2.toInt < 0 ∨ x2.toInt > 6)) ∧ (v.toInt = -1) ∧ True) ∨
  ((0 ≤ x1.toInt) ∧ (∀ b1, R0 a0 2 = some b1 → x1.toInt < (I0 b1 5).toInt) ∧ (0 ≤ x2.toInt) ∧ (x2.toInt ≤ 6) ∧ (∀ al nw, R0 a0 2 = some al → R0 a0 6 = some nw → v.toInt = chZ (NgZ I0 al nw gX gE gc) x1.toInt.toNat x2.toInt) ∧ True)
set_option maxHeartbeats 4000000 in
theorem fk_X10_cheese {l : Launch} {T : Nat → Nat} {cn : Nat} {K N : Nat → Nat} {I0 : cz_I} {R0 : cz_R} {L0 : cz_L} {d : Int} (hW0 : Wf T cn K N I0 R0 d) (gX : Nat → Nat → Int) (gE : Nat → Nat → Int) (gc : Nat → Int) {a0 : Nat} (ta0 : T a0 = 1) {x1 : Int32} {x2 : Int32} (hX : EvQ I0 R0 a0 gX) (hK : SkQ I0 R0 a0 gX) (hD : DjS R0 a0) (hEa : ∀ al, R0 a0 2 = some al → CVa I0 R0 al gc gE) (hGd : GdE gc gE) (hMs : ∀ nw, R0 a0 6 = some nw → 0 ≤ (I0 nw 0).toInt ∧ (I0 nw 0).toInt ≤ 63) (hNg : NgQ I0 R0 a0 gX gE gc) (hDn : DjN R0 a0) (h1 : 1 ≤ gc 0 ∨ ∀ i, gc i = 0) : ConE l mX10_cheese [.ref a0, .int x1, .int x2] cn K N I0 R0 L0 (ca_i (fun v cn' K' N' I' R' L' => cn = cn' ∧ K = K' ∧ N = N' ∧ L0 = L' ∧ St T cn K N d wik_X10_cheese wrk_X10_cheese I0 R0 I' R' ∧ (SkQ I' R0 a0 gX) ∧ (NgQ I' R' a0 gX gE gc) ∧ Cs_X10_cheese T I0 R0 a0 gX gE gc x1 x2 v I' R' ∧ True)) := by
  refine ConE.of (by decide +kernel) rfl (Nat.le_of_ble_eq_true rfl) rfl (fun X hX hZ hE => ?_)
  subst hX
  have hS0 : St T cn K N d wik_X10_cheese wrk_X10_cheese I0 R0 I0 R0 := St.rf0 hW0
  obtain ⟨a1, d2, ta1⟩ := rf1_2 hW0 ta0
  obtain ⟨v3, c4⟩ : ∃ v, I0 a1 5 = v := ⟨_, rfl⟩
  have b5 := iv2_5 hW0 ta1 c4
  obtain ⟨a6, d7, ta6⟩ := rf1_6 hW0 ta0
  obtain ⟨a8, d9, ta8⟩ := rf1_8 hW0 ta0
  obtain ⟨a10, d11, ta10⟩ := rf1_10 hW0 ta0
  obtain ⟨a12, d13, ta12⟩ := rf1_13 hW0 ta0
  obtain ⟨a14, d15, ta14⟩ := rf1_14 hW0 ta0
  obtain ⟨v16, c17⟩ : ∃ v, I0 a1 0 = v := ⟨_, rfl⟩
  have b18 := iv2_0 hW0 ta1 c17
  obtain ⟨v19, c20⟩ : ∃ v, I0 a1 1 = v := ⟨_, rfl⟩
  have b21 := iv2_1 hW0 ta1 c20
  obtain ⟨v22, c23⟩ : ∃ v, I0 a1 3 = v := ⟨_, rfl⟩
  have b24 := iv2_3 hW0 ta1 c23
  obtain ⟨v25, c26⟩ : ∃ v, I0 a1 9 = v := ⟨_, rfl⟩
  have b27 := iv2_9 hW0 ta1 c26
  obtain ⟨v28, c29⟩ : ∃ v, I0 a1 11 = v := ⟨_, rfl⟩
  have b30 := iv2_11 hW0 ta1 c29
  obtain ⟨v31, c32⟩ : ∃ v, I0 a6 0 = v := ⟨_, rfl⟩
  obtain ⟨v33, c34⟩ : ∃ v, I0 a6 2 = v := ⟨_, rfl⟩
  have b35 := iv8_2 hW0 ta6 c34
  have hc36 := (hEa _ d2).ct
  rw [c17, c20, c4, c26, c29] at hc36
  have hc36m := hMs _ d7
  have hc36g := hGd.own hc36m gX (-1) ((I0 a1 3).toInt.toNat + (I0 a6 2).toInt.toNat)
  rw [c32] at hc36m
  have hc36z0 : nzc ((NgZ I0 a1 a6 gX gE gc)) 0 = gc 0 := rfl
  have hc36z1 : nzc ((NgZ I0 a1 a6 gX gE gc)) 1 = gc 1 := rfl
  have hc36z3 : nzc ((NgZ I0 a1 a6 gX gE gc)) 3 = gc 3 := rfl
  have hc36z4 : nzc ((NgZ I0 a1 a6 gX gE gc)) 4 = gc 4 := rfl
  have hc36z5 : nzc ((NgZ I0 a1 a6 gX gE gc)) 5 = gc 5 := rfl
  refine tr_aload_n dX10_cheese_0 rfl ?_
  refine tr_iload_n dX10_cheese_1 rfl ?_
  refine q_callVi hE (M' := mX10_isCheese) (as := [_]) dX10_cheese_2 lk10_195 inX10_isCheese seX10_isCheese myX10_isCheese (by decide) ⟨by decide, by decide⟩ rfl (kR1 hS0.1 ta0) (Nat.le_of_ble_eq_true rfl) rfl rfl (by decide) (by decide) (fk_X10_isCheese hS0.1  ta0) ?_
  rintro v42 cn' K' N' I37 R38 L39 ⟨rfl, rfl, rfl, rfl, rfl, rfl, h43, p44, p45, -⟩
  have p46 := p44 _ d2
  clear p44
  rw [c4] at p46
  have p47 := p45 _ d2
  clear p45
  rw [c4] at p47
  refine q_if_ne 14 dX10_cheese_5 (by decide) (fun h48 => ?_) (fun h48 => ?_)
  · skip
    refine tr_aload_n dX10_cheese_14 rfl ?_
    refine q_callVr hE (M' := mX10_presentNight) (as := []) dX10_cheese_15 lk10_155 inX10_presentNight seX10_presentNight myX10_presentNight (by decide) ⟨by decide, by decide⟩ rfl (kR1 hS0.1 ta0) (Nat.le_of_ble_eq_true rfl) rfl rfl (by decide) (by decide) (fk_X10_presentNight hS0.1 (gX) (gE) (gc) ta0 hX hK hD (fun al ha => hEa al ha) hGd hMs hNg hDn h1) ?_
    rintro a54 cn' K' N' I49 R50 L51 ⟨rfl, rfl, rfl, rfl, g52, ta54, p55, rp56, rp57, rp58, rp59, rp60, -⟩
    have hS61 := hS0.tr g52 (by decide +kernel) (by decide +kernel)
    obtain ⟨v62, c63⟩ : ∃ v, I49 a0 11 = v := ⟨_, rfl⟩
    have b64 := iv1_11 hS61.1 ta0 c63
    rw [c63] at p55
    have hq65 := NgP.own (n := a54) rp57 (SkQ.rc rp56 hW0 ta0 (R13 hS61 (by decide +kernel))) (by rw [c63]; omega) ((g52.rcell ta0 (by decide +kernel)).trans rp58) ((hS61.rcell ta0 (by decide +kernel)).trans d9) ((hS61.rcell ta0 (by decide +kernel)).trans d2) ((hS61.rcell ta0 (by decide +kernel)).trans d7) ((hEa _ d2).gs hW0 ta1 hS61 (by decide +kernel) (by decide +kernel)) hGd
    have hq65z : NgZ I49 a1 a6 gX gE gc = (NgZ I0 a1 a6 gX gE gc) := by unfold NgZ; rw [hS61.cell ta1 (by decide +kernel), hS61.cell ta6 (by decide +kernel), hS61.cell ta6 (by decide +kernel)]
    rw [hq65z] at hq65
    refine tr_astore_n dX10_cheese_18 (by decide) (by decide) ?_
    refine tr_iload_n dX10_cheese_19 rfl ?_
    by_cases h66 : x2.toInt = 0
    · skip
      refine tr_tabIn (off := 44) 64 dX10_cheese_20 (by omega) (by omega) (by rw [h66]; decide +kernel) (by decide) ?_
      refine tr_aload_n dX10_cheese_64 rfl ?_
      refine tr_aload_n dX10_cheese_65 rfl ?_
      refine tr_getR dX10_cheese_66 fl10_16 (kR1 hS61.1 ta0) ((hS61.rcell ta0 (by decide +kernel)).trans d2) ?_
      obtain ⟨a67, d68, ta67⟩ := rf2_6 hW0 ta1
      refine tr_getR dX10_cheese_69 fl10_204 (kR2 hS61.1 ta1) ((hS61.rcell ta1 (by decide +kernel)).trans d68) ?_
      refine tr_iload_n dX10_cheese_72 rfl ?_
      refine q_iald dX10_cheese_73 (kR20 hS61.1 ta67) (ti_in (nR20 hS61.1 ta67) (by omega) (by omega)) ?_
      intro v69 c70
      refine q_callVi hE (M' := mX10_answered) (as := [_]) dX10_cheese_74 lk10_109 inX10_answered seX10_answered myX10_answered (by decide) ⟨by decide, by decide⟩ rfl (kR1 hS61.1 ta0) (Nat.le_of_ble_eq_true rfl) rfl rfl (by decide) (by decide) (fk_X10_answered hS61.1  ta0) ?_
      rintro v76 cn' K' N' I71 R72 L73 ⟨rfl, rfl, rfl, rfl, rfl, g74, p77, p78, -⟩
      have hS79 := hS61.tr g74 (by decide +kernel) (by decide +kernel)
      have c80 : I71 a0 11 = v62 := (g74.cell ta0 (by decide +kernel)).trans c63
      obtain ⟨v81, c82⟩ : ∃ v, I71 a0 17 = v := ⟨_, rfl⟩
      rw [c82] at p78
      exact tr_iret hZ dX10_cheese_77 rfl (by decide) (by decide) ⟨v76, rfl, rfl, rfl, rfl, rfl, hS79, (SkQ.st rp56 hW0 ta0 g74 (by decide +kernel) (by decide +kernel)), (NgQ.st rp57 hS79.1 ta0 g74 (by decide +kernel) (by decide +kernel) (by decide +kernel)), (by first | exact Or.inl ⟨(fun q0 z0 => by obtain rfl := Option.some.inj ((d2).symm.trans z0); (try rw [c4]); first | done | with_reducible assumption | omega), (by first | done | with_reducible assumption | omega), trivial⟩ | exact Or.inr (Or.inr (⟨(by first | done | with_reducible assumption | omega), (fun q0 z0 => by obtain rfl := Option.some.inj ((d2).symm.trans z0); (try rw [c4]); first | done | with_reducible assumption | omega), (by first | done | with_reducible assumption | omega), (by first | done | with_reducible assumption | omega), (fun al nw h2 h6 => by obtain rfl := Option.some.inj (d2.symm.trans h2); obtain rfl := Option.some.inj (d7.symm.trans h6); unfold chZ; rw [if_pos (by omega)]; have e := ((hEa _ d2).gs hW0 ta1 hS79 (by decide +kernel) (by decide +kernel)).hu ((hS79.rcell ta1 (by decide +kernel)).trans d68) (k := x1.toInt.toNat) (by omega); rw [(g74.cell ta67 (wm_no (by decide +kernel))), show I49 a67 x1.toInt.toNat = v69 from c70] at e; show _ = gE 35 x1.toInt.toNat; omega), trivial⟩))), trivial⟩
    · skip
      by_cases h83 : x2.toInt = 1
      · skip
        refine tr_tabIn (off := 58) 78 dX10_cheese_20 (by omega) (by omega) (by rw [h83]; decide +kernel) (by decide) ?_
        refine tr_aload_n dX10_cheese_78 rfl ?_
        refine tr_aload_n dX10_cheese_79 rfl ?_
        obtain ⟨a84, d85, ta84⟩ := rf13_4 hW0 ta54
        refine tr_getR dX10_cheese_80 fl10_207 (kR13 hS61.1 ta54) ((hS61.rcell ta54 (by decide +kernel)).trans d85) ?_
        refine tr_iload_n dX10_cheese_83 rfl ?_
        refine q_iald dX10_cheese_84 (kR45 hS61.1 ta84) (ti_in (nR45 hS61.1 ta84) (by omega) (by omega)) ?_
        intro v86 c87
        refine tr_aload_n dX10_cheese_85 rfl ?_
        obtain ⟨a88, d89, ta88⟩ := rf13_5 hW0 ta54
        refine tr_getR dX10_cheese_86 fl10_210 (kR13 hS61.1 ta54) ((hS61.rcell ta54 (by decide +kernel)).trans d89) ?_
        refine tr_iload_n dX10_cheese_89 rfl ?_
        refine q_iald dX10_cheese_90 (kR46 hS61.1 ta88) (ti_in (nR46 hS61.1 ta88) (by omega) (by omega)) ?_
        intro v90 c91
        have yv86 : v86.toInt = qR (NgZ I0 a1 a6 gX gE gc) x1.toInt.toNat (gc 0).toNat := by have y := hq65.2.2.1 _ ((hS61.rcell ta54 (by decide +kernel)).trans d85) x1.toInt.toNat (by omega); rw [show I49 a84 x1.toInt.toNat = v86 from c87] at y; exact y
        have ybv86 := qR_b (Z := (NgZ I0 a1 a6 gX gE gc)) x1.toInt.toNat (gc 0).toNat
        rw [← yv86] at ybv86
        have yv90 : v90.toInt = qW (NgZ I0 a1 a6 gX gE gc) x1.toInt.toNat (gc 0).toNat := by have y := hq65.2.2.2.1 _ ((hS61.rcell ta54 (by decide +kernel)).trans d89) x1.toInt.toNat (by omega); rw [show I49 a88 x1.toInt.toNat = v90 from c91] at y; exact y
        have ybv90 := qW_b (Z := (NgZ I0 a1 a6 gX gE gc)) x1.toInt.toNat (gc 0).toNat
        rw [← yv90] at ybv90
        refine q_iaddE dX10_cheese_91 (by intros; omega) ?_
        intro v92 h93
        refine q_callVi hE (M' := mX10_answered) (as := [_]) dX10_cheese_92 lk10_109 inX10_answered seX10_answered myX10_answered (by decide) ⟨by decide, by decide⟩ rfl (kR1 hS61.1 ta0) (Nat.le_of_ble_eq_true rfl) rfl rfl (by decide) (by decide) (fk_X10_answered hS61.1  ta0) ?_
        rintro v99 cn' K' N' I94 R95 L96 ⟨rfl, rfl, rfl, rfl, rfl, g97, p100, p101, -⟩
        have hS102 := hS61.tr g97 (by decide +kernel) (by decide +kernel)
        have c103 : I94 a0 11 = v62 := (g97.cell ta0 (by decide +kernel)).trans c63
        obtain ⟨v104, c105⟩ : ∃ v, I94 a0 17 = v := ⟨_, rfl⟩
        rw [c105] at p101
        exact tr_iret hZ dX10_cheese_95 rfl (by decide) (by decide) ⟨v99, rfl, rfl, rfl, rfl, rfl, hS102, (SkQ.st rp56 hW0 ta0 g97 (by decide +kernel) (by decide +kernel)), (NgQ.st rp57 hS102.1 ta0 g97 (by decide +kernel) (by decide +kernel) (by decide +kernel)), (Or.inr (Or.inr (⟨(by first | done | with_reducible assumption | omega), (fun q0 z0 => by obtain rfl := Option.some.inj ((d2).symm.trans z0); (try rw [c4]); first | done | with_reducible assumption | omega), (by first | done | with_reducible assumption | omega), (by first | done | with_reducible assumption | omega), (fun al nw h2 h6 => by obtain rfl := Option.some.inj (d2.symm.trans h2); obtain rfl := Option.some.inj (d7.symm.trans h6); unfold chZ; rw [if_neg (by omega), if_pos (by omega)]; have yv86 : v86.toInt = qR _ x1.toInt.toNat (gc 0).toNat := (by have y := hq65.2.2.1 _ ((hS102.rcell ta54 (by decide +kernel)).trans d85) x1.toInt.toNat (by omega); rw [show I49 a84 x1.toInt.toNat = v86 from c87] at y; exact y); have yv90 : v90.toInt = qW _ x1.toInt.toNat (gc 0).toNat := (by have y := hq65.2.2.2.1 _ ((hS102.rcell ta54 (by decide +kernel)).trans d89) x1.toInt.toNat (by omega); rw [show I49 a88 x1.toInt.toNat = v90 from c91] at y; exact y); show _ = qR _ _ (gc 0).toNat + qW _ _ (gc 0).toNat; omega), trivial⟩))), trivial⟩
      · skip
        by_cases h106 : x2.toInt = 2
        · skip
          refine tr_tabIn (off := 76) 96 dX10_cheese_20 (by omega) (by omega) (by rw [h106]; decide +kernel) (by decide) ?_
          refine tr_aload_n dX10_cheese_96 rfl ?_
          refine tr_aload_n dX10_cheese_97 rfl ?_
          obtain ⟨a107, d108, ta107⟩ := rf13_4 hW0 ta54
          refine tr_getR dX10_cheese_98 fl10_207 (kR13 hS61.1 ta54) ((hS61.rcell ta54 (by decide +kernel)).trans d108) ?_
          refine tr_iload_n dX10_cheese_101 rfl ?_
          refine q_iald dX10_cheese_102 (kR45 hS61.1 ta107) (ti_in (nR45 hS61.1 ta107) (by omega) (by omega)) ?_
          intro v109 c110
          refine q_callVi hE (M' := mX10_answered) (as := [_]) dX10_cheese_103 lk10_109 inX10_answered seX10_answered myX10_answered (by decide) ⟨by decide, by decide⟩ rfl (kR1 hS61.1 ta0) (Nat.le_of_ble_eq_true rfl) rfl rfl (by decide) (by decide) (fk_X10_answered hS61.1  ta0) ?_
          rintro v116 cn' K' N' I111 R112 L113 ⟨rfl, rfl, rfl, rfl, rfl, g114, p117, p118, -⟩
          have hS119 := hS61.tr g114 (by decide +kernel) (by decide +kernel)
          have c120 : I111 a0 11 = v62 := (g114.cell ta0 (by decide +kernel)).trans c63
          obtain ⟨v121, c122⟩ : ∃ v, I111 a0 17 = v := ⟨_, rfl⟩
          rw [c122] at p118
          exact tr_iret hZ dX10_cheese_106 rfl (by decide) (by decide) ⟨v116, rfl, rfl, rfl, rfl, rfl, hS119, (SkQ.st rp56 hW0 ta0 g114 (by decide +kernel) (by decide +kernel)), (NgQ.st rp57 hS119.1 ta0 g114 (by decide +kernel) (by decide +kernel) (by decide +kernel)), (by first | exact Or.inl ⟨(fun q0 z0 => by obtain rfl := Option.some.inj ((d2).symm.trans z0); (try rw [c4]); first | done | with_reducible assumption | omega), (by first | done | with_reducible assumption | omega), trivial⟩ | exact Or.inr (Or.inr (⟨(by first | done | with_reducible assumption | omega), (fun q0 z0 => by obtain rfl := Option.some.inj ((d2).symm.trans z0); (try rw [c4]); first | done | with_reducible assumption | omega), (by first | done | with_reducible assumption | omega), (by first | done | with_reducible assumption | omega), (fun al nw h2 h6 => by obtain rfl := Option.some.inj (d2.symm.trans h2); obtain rfl := Option.some.inj (d7.symm.trans h6); unfold chZ; rw [if_neg (by omega), if_neg (by omega), if_pos (by omega)]; have yv109 : v109.toInt = qR _ x1.toInt.toNat (gc 0).toNat := (by have y := hq65.2.2.1 _ ((hS119.rcell ta54 (by decide +kernel)).trans d108) x1.toInt.toNat (by omega); rw [show I49 a107 x1.toInt.toNat = v109 from c110] at y; exact y); show _ = qR _ _ (gc 0).toNat; omega), trivial⟩))), trivial⟩
        · skip
          by_cases h123 : x2.toInt = 3
          · skip
            refine tr_tabIn (off := 87) 107 dX10_cheese_20 (by omega) (by omega) (by rw [h123]; decide +kernel) (by decide) ?_
            refine tr_aload_n dX10_cheese_107 rfl ?_
            refine tr_aload_n dX10_cheese_108 rfl ?_
            obtain ⟨a124, d125, ta124⟩ := rf13_6 hW0 ta54
            refine tr_getR dX10_cheese_109 fl10_213 (kR13 hS61.1 ta54) ((hS61.rcell ta54 (by decide +kernel)).trans d125) ?_
            refine tr_iload_n dX10_cheese_112 rfl ?_
            refine q_iald dX10_cheese_113 (kR47 hS61.1 ta124) (ti_in (nR47 hS61.1 ta124) (by omega) (by omega)) ?_
            intro v126 c127
            refine q_callVi hE (M' := mX10_answered) (as := [_]) dX10_cheese_114 lk10_109 inX10_answered seX10_answered myX10_answered (by decide) ⟨by decide, by decide⟩ rfl (kR1 hS61.1 ta0) (Nat.le_of_ble_eq_true rfl) rfl rfl (by decide) (by decide) (fk_X10_answered hS61.1  ta0) ?_
            rintro v133 cn' K' N' I128 R129 L130 ⟨rfl, rfl, rfl, rfl, rfl, g131, p134, p135, -⟩
            have hS136 := hS61.tr g131 (by decide +kernel) (by decide +kernel)
            have c137 : I128 a0 11 = v62 := (g131.cell ta0 (by decide +kernel)).trans c63
            obtain ⟨v138, c139⟩ : ∃ v, I128 a0 17 = v := ⟨_, rfl⟩
            rw [c139] at p135
            exact tr_iret hZ dX10_cheese_117 rfl (by decide) (by decide) ⟨v133, rfl, rfl, rfl, rfl, rfl, hS136, (SkQ.st rp56 hW0 ta0 g131 (by decide +kernel) (by decide +kernel)), (NgQ.st rp57 hS136.1 ta0 g131 (by decide +kernel) (by decide +kernel) (by decide +kernel)), (by first | exact Or.inl ⟨(fun q0 z0 => by obtain rfl := Option.some.inj ((d2).symm.trans z0); (try rw [c4]); first | done | with_reducible assumption | omega), (by first | done | with_reducible assumption | omega), trivial⟩ | exact Or.inr (Or.inr (⟨(by first | done | with_reducible assumption | omega), (fun q0 z0 => by obtain rfl := Option.some.inj ((d2).symm.trans z0); (try rw [c4]); first | done | with_reducible assumption | omega), (by first | done | with_reducible assumption | omega), (by first | done | with_reducible assumption | omega), (fun al nw h2 h6 => by obtain rfl := Option.some.inj (d2.symm.trans h2); obtain rfl := Option.some.inj (d7.symm.trans h6); unfold chZ; rw [if_neg (by omega), if_neg (by omega), if_neg (by omega), if_pos (by omega)]; have yv126 : v126.toInt = qM _ x1.toInt.toNat (gc 0).toNat := (by have y := hq65.2.2.2.2.1 _ ((hS136.rcell ta54 (by decide +kernel)).trans d125) x1.toInt.toNat (by omega); rw [show I49 a124 x1.toInt.toNat = v126 from c127] at y; exact y); show _ = qM _ _ (gc 0).toNat; omega), trivial⟩))), trivial⟩
          · skip
            by_cases h140 : x2.toInt = 4
            · skip
              refine tr_tabIn (off := 98) 118 dX10_cheese_20 (by omega) (by omega) (by rw [h140]; decide +kernel) (by decide) ?_
              refine tr_aload_n dX10_cheese_118 rfl ?_
              refine tr_aload_n dX10_cheese_119 rfl ?_
              obtain ⟨a141, d142, ta141⟩ := rf13_5 hW0 ta54
              refine tr_getR dX10_cheese_120 fl10_210 (kR13 hS61.1 ta54) ((hS61.rcell ta54 (by decide +kernel)).trans d142) ?_
              refine tr_iload_n dX10_cheese_123 rfl ?_
              refine q_iald dX10_cheese_124 (kR46 hS61.1 ta141) (ti_in (nR46 hS61.1 ta141) (by omega) (by omega)) ?_
              intro v143 c144
              refine q_callVi hE (M' := mX10_answered) (as := [_]) dX10_cheese_125 lk10_109 inX10_answered seX10_answered myX10_answered (by decide) ⟨by decide, by decide⟩ rfl (kR1 hS61.1 ta0) (Nat.le_of_ble_eq_true rfl) rfl rfl (by decide) (by decide) (fk_X10_answered hS61.1  ta0) ?_
              rintro v150 cn' K' N' I145 R146 L147 ⟨rfl, rfl, rfl, rfl, rfl, g148, p151, p152, -⟩
              have hS153 := hS61.tr g148 (by decide +kernel) (by decide +kernel)
              have c154 : I145 a0 11 = v62 := (g148.cell ta0 (by decide +kernel)).trans c63
              obtain ⟨v155, c156⟩ : ∃ v, I145 a0 17 = v := ⟨_, rfl⟩
              rw [c156] at p152
              exact tr_iret hZ dX10_cheese_128 rfl (by decide) (by decide) ⟨v150, rfl, rfl, rfl, rfl, rfl, hS153, (SkQ.st rp56 hW0 ta0 g148 (by decide +kernel) (by decide +kernel)), (NgQ.st rp57 hS153.1 ta0 g148 (by decide +kernel) (by decide +kernel) (by decide +kernel)), (by first | exact Or.inl ⟨(fun q0 z0 => by obtain rfl := Option.some.inj ((d2).symm.trans z0); (try rw [c4]); first | done | with_reducible assumption | omega), (by first | done | with_reducible assumption | omega), trivial⟩ | exact Or.inr (Or.inr (⟨(by first | done | with_reducible assumption | omega), (fun q0 z0 => by obtain rfl := Option.some.inj ((d2).symm.trans z0); (try rw [c4]); first | done | with_reducible assumption | omega), (by first | done | with_reducible assumption | omega), (by first | done | with_reducible assumption | omega), (fun al nw h2 h6 => by obtain rfl := Option.some.inj (d2.symm.trans h2); obtain rfl := Option.some.inj (d7.symm.trans h6); unfold chZ; rw [if_neg (by omega), if_neg (by omega), if_neg (by omega), if_neg (by omega), if_pos (by omega)]; have yv143 : v143.toInt = qW _ x1.toInt.toNat (gc 0).toNat := (by have y := hq65.2.2.2.1 _ ((hS153.rcell ta54 (by decide +kernel)).trans d142) x1.toInt.toNat (by omega); rw [show I49 a141 x1.toInt.toNat = v143 from c144] at y; exact y); show _ = qW _ _ (gc 0).toNat; omega), trivial⟩))), trivial⟩
            · skip
              by_cases h157 : x2.toInt = 5
              · skip
                refine tr_tabIn (off := 109) 129 dX10_cheese_20 (by omega) (by omega) (by rw [h157]; decide +kernel) (by decide) ?_
                refine tr_aload_n dX10_cheese_129 rfl ?_
                refine tr_aload_n dX10_cheese_130 rfl ?_
                obtain ⟨a158, d159, ta158⟩ := rf13_7 hW0 ta54
                refine tr_getR dX10_cheese_131 fl10_216 (kR13 hS61.1 ta54) ((hS61.rcell ta54 (by decide +kernel)).trans d159) ?_
                refine tr_iload_n dX10_cheese_134 rfl ?_
                refine q_iald dX10_cheese_135 (kR48 hS61.1 ta158) (ti_in (nR48 hS61.1 ta158) (by omega) (by omega)) ?_
                intro v160 c161
                refine q_callVi hE (M' := mX10_answered) (as := [_]) dX10_cheese_136 lk10_109 inX10_answered seX10_answered myX10_answered (by decide) ⟨by decide, by decide⟩ rfl (kR1 hS61.1 ta0) (Nat.le_of_ble_eq_true rfl) rfl rfl (by decide) (by decide) (fk_X10_answered hS61.1  ta0) ?_
                rintro v167 cn' K' N' I162 R163 L164 ⟨rfl, rfl, rfl, rfl, rfl, g165, p168, p169, -⟩
                have hS170 := hS61.tr g165 (by decide +kernel) (by decide +kernel)
                have c171 : I162 a0 11 = v62 := (g165.cell ta0 (by decide +kernel)).trans c63
                obtain ⟨v172, c173⟩ : ∃ v, I162 a0 17 = v := ⟨_, rfl⟩
                rw [c173] at p169
                exact tr_iret hZ dX10_cheese_139 rfl (by decide) (by decide) ⟨v167, rfl, rfl, rfl, rfl, rfl, hS170, (SkQ.st rp56 hW0 ta0 g165 (by decide +kernel) (by decide +kernel)), (NgQ.st rp57 hS170.1 ta0 g165 (by decide +kernel) (by decide +kernel) (by decide +kernel)), (by first | exact Or.inl ⟨(fun q0 z0 => by obtain rfl := Option.some.inj ((d2).symm.trans z0); (try rw [c4]); first | done | with_reducible assumption | omega), (by first | done | with_reducible assumption | omega), trivial⟩ | exact Or.inr (Or.inr (⟨(by first | done | with_reducible assumption | omega), (fun q0 z0 => by obtain rfl := Option.some.inj ((d2).symm.trans z0); (try rw [c4]); first | done | with_reducible assumption | omega), (by first | done | with_reducible assumption | omega), (by first | done | with_reducible assumption | omega), (fun al nw h2 h6 => by obtain rfl := Option.some.inj (d2.symm.trans h2); obtain rfl := Option.some.inj (d7.symm.trans h6); unfold chZ; rw [if_neg (by omega), if_neg (by omega), if_neg (by omega), if_neg (by omega), if_neg (by omega), if_pos (by omega)]; have yv160 : v160.toInt = qK _ x1.toInt.toNat (gc 0).toNat := (by have y := hq65.2.2.2.2.2.1 _ ((hS170.rcell ta54 (by decide +kernel)).trans d159) x1.toInt.toNat (by omega); rw [show I49 a158 x1.toInt.toNat = v160 from c161] at y; exact y); show _ = qK _ _ (gc 0).toNat; omega), trivial⟩))), trivial⟩
              · skip
                by_cases h174 : x2.toInt = 6
                · skip
                  refine tr_tabIn (off := 120) 140 dX10_cheese_20 (by omega) (by omega) (by rw [h174]; decide +kernel) (by decide) ?_
                  refine tr_aload_n dX10_cheese_140 rfl ?_
                  refine tr_aload_n dX10_cheese_141 rfl ?_
                  refine tr_iload_n dX10_cheese_142 rfl ?_
                  refine q_callVi hE (M' := mX5_price) (as := [_]) dX10_cheese_143 lk10_219 inX5_price seX5_price myX5_price (by decide) ⟨by decide, by decide⟩ rfl (kR13 hS61.1 ta54) (Nat.le_of_ble_eq_true rfl) rfl rfl (by decide) (by decide) (fk_X5_price hS61.1 ((NgZ I0 a1 a6 gX gE gc)) ta54 (by omega) hq65.1 hc36g hq65.2 h1 (by first | done | with_reducible assumption | omega)) ?_
                  rintro v180 cn' K' N' I175 R176 L177 ⟨rfl, rfl, rfl, rfl, rfl, rfl, h181, rp182, -⟩
                  refine q_callVi hE (M' := mX10_answered) (as := [_]) dX10_cheese_146 lk10_109 inX10_answered seX10_answered myX10_answered (by decide) ⟨by decide, by decide⟩ rfl (kR1 hS61.1 ta0) (Nat.le_of_ble_eq_true rfl) rfl rfl (by decide) (by decide) (fk_X10_answered hS61.1  ta0) ?_
                  rintro v188 cn' K' N' I183 R184 L185 ⟨rfl, rfl, rfl, rfl, rfl, g186, p189, p190, -⟩
                  have hS191 := hS61.tr g186 (by decide +kernel) (by decide +kernel)
                  have c192 : I183 a0 11 = v62 := (g186.cell ta0 (by decide +kernel)).trans c63
                  obtain ⟨v193, c194⟩ : ∃ v, I183 a0 17 = v := ⟨_, rfl⟩
                  rw [c194] at p190
                  exact tr_iret hZ dX10_cheese_149 rfl (by decide) (by decide) ⟨v188, rfl, rfl, rfl, rfl, rfl, hS191, (SkQ.st rp56 hW0 ta0 g186 (by decide +kernel) (by decide +kernel)), (NgQ.st rp57 hS191.1 ta0 g186 (by decide +kernel) (by decide +kernel) (by decide +kernel)), (Or.inr (Or.inr (⟨(by first | done | with_reducible assumption | omega), (fun q0 z0 => by obtain rfl := Option.some.inj ((d2).symm.trans z0); (try rw [c4]); first | done | with_reducible assumption | omega), (by first | done | with_reducible assumption | omega), (by first | done | with_reducible assumption | omega), (fun al nw h2 h6 => by obtain rfl := Option.some.inj (d2.symm.trans h2); obtain rfl := Option.some.inj (d7.symm.trans h6); unfold chZ; rw [if_neg (by omega), if_neg (by omega), if_neg (by omega), if_neg (by omega), if_neg (by omega), if_neg (by omega)]; have e := rp182; omega), trivial⟩))), trivial⟩
                · skip
                  refine tr_tabOut 150 dX10_cheese_20 (by omega) (by decide) ?_
                  refine tr_aload_n dX10_cheese_150 rfl ?_
                  refine q_iconst dX10_cheese_151 (by decide) ?_
                  intro v195 h196
                  refine q_callVi hE (M' := mX10_refused) (as := [_]) dX10_cheese_152 lk10_79 inX10_refused seX10_refused myX10_refused (by decide) ⟨by decide, by decide⟩ rfl (kR1 hS61.1 ta0) (Nat.le_of_ble_eq_true rfl) rfl rfl (by decide) (by decide) (fk_X10_refused hS61.1  ta0) ?_
                  rintro v202 cn' K' N' I197 R198 L199 ⟨rfl, rfl, rfl, rfl, rfl, g200, p203, p204, -⟩
                  have hS205 := hS61.tr g200 (by decide +kernel) (by decide +kernel)
                  have c206 : I197 a0 11 = v62 := (g200.cell ta0 (by decide +kernel)).trans c63
                  obtain ⟨v207, c208⟩ : ∃ v, I197 a0 17 = v := ⟨_, rfl⟩
                  rw [c208] at p204
                  exact tr_iret hZ dX10_cheese_155 rfl (by decide) (by decide) ⟨v202, rfl, rfl, rfl, rfl, rfl, hS205, (SkQ.st rp56 hW0 ta0 g200 (by decide +kernel) (by decide +kernel)), (NgQ.st rp57 hS205.1 ta0 g200 (by decide +kernel) (by decide +kernel) (by decide +kernel)), (by first | exact Or.inl ⟨(fun q0 z0 => by obtain rfl := Option.some.inj ((d2).symm.trans z0); (try rw [c4]); first | done | with_reducible assumption | omega), (by first | done | with_reducible assumption | omega), trivial⟩ | exact Or.inr (Or.inl ⟨(by first | done | with_reducible assumption | omega), (fun q0 z0 => by obtain rfl := Option.some.inj ((d2).symm.trans z0); (try rw [c4]); first | done | with_reducible assumption | omega), (by first | done | with_reducible assumption | omega), (by first | done | with_reducible assumption | omega), trivial⟩) | exact Or.inr (Or.inr (⟨(by first | done | with_reducible assumption | omega), (fun q0 z0 => by obtain rfl := Option.some.inj ((d2).symm.trans z0); (try rw [c4]); first | done | with_reducible assumption | omega), (by first | done | with_reducible assumption | omega), (by first | done | with_reducible assumption | omega), (by exfalso; omega), trivial⟩))), trivial⟩
  · skip
    refine tr_aload_n dX10_cheese_8 rfl ?_
    refine q_iconst dX10_cheese_9 (by decide) ?_
    intro v209 h210
    refine q_callVi hE (M' := mX10_refused) (as := [_]) dX10_cheese_10 lk10_79 inX10_refused seX10_refused myX10_refused (by decide) ⟨by decide, by decide⟩ rfl (kR1 hS0.1 ta0) (Nat.le_of_ble_eq_true rfl) rfl rfl (by decide) (by decide) (fk_X10_refused hS0.1  ta0) ?_
    rintro v216 cn' K' N' I211 R212 L213 ⟨rfl, rfl, rfl, rfl, rfl, g214, p217, p218, -⟩
    have hS219 := hS0.tr g214 (by decide +kernel) (by decide +kernel)
    obtain ⟨v220, c221⟩ : ∃ v, I211 a0 17 = v := ⟨_, rfl⟩
    rw [c221] at p218
    exact tr_iret hZ dX10_cheese_13 rfl (by decide) (by decide) ⟨v216, rfl, rfl, rfl, rfl, rfl, hS219, (SkQ.st hK hW0 ta0 g214 (by decide +kernel) (by decide +kernel)), (NgQ.st hNg hW0 ta0 g214 (by decide +kernel) (by decide +kernel) (by decide +kernel)), (by first | exact Or.inl ⟨(fun q0 z0 => by obtain rfl := Option.some.inj ((d2).symm.trans z0); (try rw [c4]); first | done | with_reducible assumption | omega), (by first | done | with_reducible assumption | omega), trivial⟩ | exact Or.inr (Or.inl ⟨(by first | done | with_reducible assumption | omega), (fun q0 z0 => by obtain rfl := Option.some.inj ((d2).symm.trans z0); (try rw [c4]); first | done | with_reducible assumption | omega), (by first | done | with_reducible assumption | omega), (by first | done | with_reducible assumption | omega), trivial⟩) | exact Or.inr (Or.inr (⟨(by first | done | with_reducible assumption | omega), (fun q0 z0 => by obtain rfl := Option.some.inj ((d2).symm.trans z0); (try rw [c4]); first | done | with_reducible assumption | omega), (by first | done | with_reducible assumption | omega), (by first | done | with_reducible assumption | omega), (by exfalso; omega), trivial⟩))), trivial⟩
def wik_X10_vein : List Nat := [73, 75, 81, 768, 769, 778, 834, 2303, 2367, 2431, 2495, 2559, 2623, 2687, 2751, 2815, 2879, 2943, 3007, 3071, 3135, 3199, 3263, 3327, 3391]
def wrk_X10_vein : List Nat := [832, 833]
def Cs_X10_vein (T : Nat → Nat) (I0 : cz_I) (R0 : cz_R) (a0 : Nat) (gX : Nat → Nat → Int) (gE : Nat → Nat → Int) (gc : Nat → Int) (x1 : Int32) (x2 : Int32) (v : Int32) (I' : cz_I) (R' : cz_R) : Prop :=
  ((∀ b1, R0 a0 2 = some b1 → (x1.toInt < 0 ∨ x1.toInt ≥ (I0 b1 5).toInt)) ∧ (v.toInt = -1) ∧ True) ∨
  ((0 ≤ x1.toInt) ∧ (∀ b1, R0 a0 2 = some b1 → x1.toInt < (I0 b1 5).toInt) ∧ (∀ al nw, R0 a0 2 = some al → R0 a0 6 = some nw → Chg (vnF (NgZ I0 al nw gX gE gc) x1.toInt.toNat) (gc 0) x2.toInt v.toInt) ∧ True)
set_option maxHeartbeats 4000000 in
theorem fk_X10_vein {l : Launch} {T : Nat → Nat} {cn : Nat} {K N : Nat → Nat} {I0 : cz_I} {R0 : cz_R} {L0 : cz_L} {d : Int} (hW0 : Wf T cn K N I0 R0 d) (gX : Nat → Nat → Int) (gE : Nat → Nat → Int) (gc : Nat → Int) {a0 : Nat} (ta0 : T a0 = 1) {x1 : Int32} {x2 : Int32} (hX : EvQ I0 R0 a0 gX) (hK : SkQ I0 R0 a0 gX) (hD : DjS R0 a0) (hEa : ∀ al, R0 a0 2 = some al → CVa I0 R0 al gc gE) (hGd : GdE gc gE) (hMs : ∀ nw, R0 a0 6 = some nw → 0 ≤ (I0 nw 0).toInt ∧ (I0 nw 0).toInt ≤ 63) (hNg : NgQ I0 R0 a0 gX gE gc) (hDn : DjN R0 a0) (h1 : 1 ≤ gc 0 ∨ ∀ i, gc i = 0) : ConE l mX10_vein [.ref a0, .int x1, .int x2] cn K N I0 R0 L0 (ca_i (fun v cn' K' N' I' R' L' => cn = cn' ∧ K = K' ∧ N = N' ∧ L0 = L' ∧ St T cn K N d wik_X10_vein wrk_X10_vein I0 R0 I' R' ∧ (SkQ I' R0 a0 gX) ∧ (NgQ I' R' a0 gX gE gc) ∧ Cs_X10_vein T I0 R0 a0 gX gE gc x1 x2 v I' R' ∧ True)) := by
  refine ConE.of (by decide +kernel) rfl (Nat.le_of_ble_eq_true rfl) rfl (fun X hX hZ hE => ?_)
  subst hX
  have hS0 : St T cn K N d wik_X10_vein wrk_X10_vein I0 R0 I0 R0 := St.rf0 hW0
  obtain ⟨a1, d2, ta1⟩ := rf1_2 hW0 ta0
  obtain ⟨v3, c4⟩ : ∃ v, I0 a1 5 = v := ⟨_, rfl⟩
  have b5 := iv2_5 hW0 ta1 c4
  obtain ⟨a6, d7, ta6⟩ := rf1_6 hW0 ta0
  obtain ⟨a8, d9, ta8⟩ := rf1_8 hW0 ta0
  obtain ⟨a10, d11, ta10⟩ := rf1_10 hW0 ta0
  obtain ⟨a12, d13, ta12⟩ := rf1_13 hW0 ta0
  obtain ⟨a14, d15, ta14⟩ := rf1_14 hW0 ta0
  obtain ⟨v16, c17⟩ : ∃ v, I0 a1 0 = v := ⟨_, rfl⟩
  have b18 := iv2_0 hW0 ta1 c17
  obtain ⟨v19, c20⟩ : ∃ v, I0 a1 1 = v := ⟨_, rfl⟩
  have b21 := iv2_1 hW0 ta1 c20
  obtain ⟨v22, c23⟩ : ∃ v, I0 a1 3 = v := ⟨_, rfl⟩
  have b24 := iv2_3 hW0 ta1 c23
  obtain ⟨v25, c26⟩ : ∃ v, I0 a1 9 = v := ⟨_, rfl⟩
  have b27 := iv2_9 hW0 ta1 c26
  obtain ⟨v28, c29⟩ : ∃ v, I0 a1 11 = v := ⟨_, rfl⟩
  have b30 := iv2_11 hW0 ta1 c29
  obtain ⟨v31, c32⟩ : ∃ v, I0 a6 0 = v := ⟨_, rfl⟩
  obtain ⟨v33, c34⟩ : ∃ v, I0 a6 2 = v := ⟨_, rfl⟩
  have b35 := iv8_2 hW0 ta6 c34
  have hc36 := (hEa _ d2).ct
  rw [c17, c20, c4, c26, c29] at hc36
  have hc36m := hMs _ d7
  have hc36g := hGd.own hc36m gX (-1) ((I0 a1 3).toInt.toNat + (I0 a6 2).toInt.toNat)
  rw [c32] at hc36m
  have hc36z0 : nzc ((NgZ I0 a1 a6 gX gE gc)) 0 = gc 0 := rfl
  have hc36z1 : nzc ((NgZ I0 a1 a6 gX gE gc)) 1 = gc 1 := rfl
  have hc36z3 : nzc ((NgZ I0 a1 a6 gX gE gc)) 3 = gc 3 := rfl
  have hc36z4 : nzc ((NgZ I0 a1 a6 gX gE gc)) 4 = gc 4 := rfl
  have hc36z5 : nzc ((NgZ I0 a1 a6 gX gE gc)) 5 = gc 5 := rfl
  refine tr_aload_n dX10_vein_0 rfl ?_
  refine tr_iload_n dX10_vein_1 rfl ?_
  refine tr_iload_n dX10_vein_2 rfl ?_
  refine q_callVi hE (M' := mX10_veinMinute) (as := [_, _]) dX10_vein_3 lk10_222 inX10_veinMinute seX10_veinMinute myX10_veinMinute (by decide) ⟨by decide, by decide⟩ rfl (kR1 hS0.1 ta0) (Nat.le_of_ble_eq_true rfl) rfl rfl (by decide) (by decide) (fk_X10_veinMinute hS0.1 (gX) (gE) (gc) ta0 hX hK hD (fun al ha => hEa al ha) hGd hMs hNg hDn h1) ?_
  rintro v42 cn' K' N' I37 R38 L39 ⟨rfl, rfl, rfl, rfl, g40, h43, rp44, rp45, dj46, -⟩
  have hS47 := hS0.tr g40 (by decide +kernel) (by decide +kernel)
  rcases dj46 with ⟨p48, p49, -⟩ | ⟨p50, p51, p52, p53, rp54, -⟩
  · skip
    have p55 := p48 _ d2
    clear p48
    rw [c4] at p55
    refine tr_istore_n dX10_vein_6 (by decide) (by decide) ?_
    refine tr_iload_n dX10_vein_7 rfl ?_
    refine q_iconst dX10_vein_8 (by decide) ?_
    intro v56 h57
    refine q_icmp_ne 20 dX10_vein_9 (by decide) (fun h58 => ?_) (fun h58 => ?_)
    · skip
      exfalso; omega
    · skip
      refine tr_aload_n dX10_vein_12 rfl ?_
      refine q_iconst dX10_vein_13 (by decide) ?_
      intro v59 h60
      refine q_callVi hE (M' := mX10_refused) (as := [_]) dX10_vein_14 lk10_79 inX10_refused seX10_refused myX10_refused (by decide) ⟨by decide, by decide⟩ rfl (kR1 hS47.1 ta0) (Nat.le_of_ble_eq_true rfl) rfl rfl (by decide) (by decide) (fk_X10_refused hS47.1  ta0) ?_
      rintro v66 cn' K' N' I61 R62 L63 ⟨rfl, rfl, rfl, rfl, rfl, g64, p67, p68, -⟩
      have hS69 := hS47.tr g64 (by decide +kernel) (by decide +kernel)
      obtain ⟨v70, c71⟩ : ∃ v, I61 a0 17 = v := ⟨_, rfl⟩
      rw [c71] at p68
      refine tr_goto 25 dX10_vein_17 (by decide) ?_
      exact tr_iret hZ dX10_vein_25 rfl (by decide) (by decide) ⟨v66, rfl, rfl, rfl, rfl, rfl, hS69, (SkQ.st rp44 hW0 ta0 g64 (by decide +kernel) (by decide +kernel)), (NgQ.st rp45 hS69.1 ta0 g64 (by decide +kernel) (by decide +kernel) (by decide +kernel)), (by first | exact Or.inl ⟨(fun q0 z0 => by obtain rfl := Option.some.inj ((d2).symm.trans z0); (try rw [c4]); first | done | with_reducible assumption | omega), (by first | done | with_reducible assumption | omega), trivial⟩ | exact Or.inr (⟨(by first | done | with_reducible assumption | omega), (fun q0 z0 => by obtain rfl := Option.some.inj ((d2).symm.trans z0); (try rw [c4]); first | done | with_reducible assumption | omega), (by exfalso; omega), trivial⟩)), trivial⟩
  · skip
    have p72 := p51 _ d2
    clear p51
    rw [c4] at p72
    refine tr_istore_n dX10_vein_6 (by decide) (by decide) ?_
    refine tr_iload_n dX10_vein_7 rfl ?_
    refine q_iconst dX10_vein_8 (by decide) ?_
    intro v73 h74
    refine q_icmp_ne 20 dX10_vein_9 (by decide) (fun h75 => ?_) (fun h75 => ?_)
    · skip
      refine tr_aload_n dX10_vein_20 rfl ?_
      refine tr_iload_n dX10_vein_21 rfl ?_
      refine q_callVi hE (M' := mX10_answered) (as := [_]) dX10_vein_22 lk10_109 inX10_answered seX10_answered myX10_answered (by decide) ⟨by decide, by decide⟩ rfl (kR1 hS47.1 ta0) (Nat.le_of_ble_eq_true rfl) rfl rfl (by decide) (by decide) (fk_X10_answered hS47.1  ta0) ?_
      rintro v81 cn' K' N' I76 R77 L78 ⟨rfl, rfl, rfl, rfl, rfl, g79, p82, p83, -⟩
      have hS84 := hS47.tr g79 (by decide +kernel) (by decide +kernel)
      obtain ⟨v85, c86⟩ : ∃ v, I76 a0 17 = v := ⟨_, rfl⟩
      rw [c86] at p83
      exact tr_iret hZ dX10_vein_25 rfl (by decide) (by decide) ⟨v81, rfl, rfl, rfl, rfl, rfl, hS84, (SkQ.st rp44 hW0 ta0 g79 (by decide +kernel) (by decide +kernel)), (NgQ.st rp45 hS84.1 ta0 g79 (by decide +kernel) (by decide +kernel) (by decide +kernel)), (Or.inr (⟨(by first | done | with_reducible assumption | omega), (fun q0 z0 => by obtain rfl := Option.some.inj ((d2).symm.trans z0); (try rw [c4]); first | done | with_reducible assumption | omega), (fun al nw h2 h6 => by obtain rfl := Option.some.inj (d2.symm.trans h2); obtain rfl := Option.some.inj (d7.symm.trans h6); have e := rp54 _ _ d2 d7; rw [show v42.toInt = v81.toInt by omega] at e; exact e), trivial⟩)), trivial⟩
    · skip
      refine tr_aload_n dX10_vein_12 rfl ?_
      refine q_iconst dX10_vein_13 (by decide) ?_
      intro v87 h88
      refine q_callVi hE (M' := mX10_refused) (as := [_]) dX10_vein_14 lk10_79 inX10_refused seX10_refused myX10_refused (by decide) ⟨by decide, by decide⟩ rfl (kR1 hS47.1 ta0) (Nat.le_of_ble_eq_true rfl) rfl rfl (by decide) (by decide) (fk_X10_refused hS47.1  ta0) ?_
      rintro v94 cn' K' N' I89 R90 L91 ⟨rfl, rfl, rfl, rfl, rfl, g92, p95, p96, -⟩
      have hS97 := hS47.tr g92 (by decide +kernel) (by decide +kernel)
      obtain ⟨v98, c99⟩ : ∃ v, I89 a0 17 = v := ⟨_, rfl⟩
      rw [c99] at p96
      refine tr_goto 25 dX10_vein_17 (by decide) ?_
      exact tr_iret hZ dX10_vein_25 rfl (by decide) (by decide) ⟨v94, rfl, rfl, rfl, rfl, rfl, hS97, (SkQ.st rp44 hW0 ta0 g92 (by decide +kernel) (by decide +kernel)), (NgQ.st rp45 hS97.1 ta0 g92 (by decide +kernel) (by decide +kernel) (by decide +kernel)), (by first | exact Or.inl ⟨(fun q0 z0 => by obtain rfl := Option.some.inj ((d2).symm.trans z0); (try rw [c4]); first | done | with_reducible assumption | omega), (by first | done | with_reducible assumption | omega), trivial⟩ | exact Or.inr (⟨(by first | done | with_reducible assumption | omega), (fun q0 z0 => by obtain rfl := Option.some.inj ((d2).symm.trans z0); (try rw [c4]); first | done | with_reducible assumption | omega), (fun al nw h2 h6 => by obtain rfl := Option.some.inj (d2.symm.trans h2); obtain rfl := Option.some.inj (d7.symm.trans h6); have e := rp54 _ _ d2 d7; rw [show v42.toInt = v94.toInt by omega] at e; exact e), trivial⟩)), trivial⟩
set_option maxHeartbeats 4000000 in
theorem fk_X10_eventCount {l : Launch} {T : Nat → Nat} {cn : Nat} {K N : Nat → Nat} {I0 : cz_I} {R0 : cz_R} {L0 : cz_L} {d : Int} (hW0 : Wf T cn K N I0 R0 d)  {a0 : Nat} (ta0 : T a0 = 1) : ConE l mX10_eventCount [.ref a0] cn K N I0 R0 L0 (ca_i (fun v cn' K' N' I' R' L' => cn = cn' ∧ K = K' ∧ N = N' ∧ I0 = I' ∧ R0 = R' ∧ L0 = L' ∧ (∀ b1, R0 a0 2 = some b1 → ∀ b2, R0 a0 6 = some b2 → v.toInt = (I0 b1 3).toInt + (I0 b2 2).toInt) ∧ True)) := by
  refine ConE.of (by decide +kernel) rfl (Nat.le_of_ble_eq_true rfl) rfl (fun X hX hZ hE => ?_)
  subst hX
  obtain ⟨a1, d2, ta1⟩ := rf1_2 hW0 ta0
  obtain ⟨v3, c4⟩ : ∃ v, I0 a1 3 = v := ⟨_, rfl⟩
  have b5 := iv2_3 hW0 ta1 c4
  obtain ⟨a6, d7, ta6⟩ := rf1_6 hW0 ta0
  obtain ⟨v8, c9⟩ : ∃ v, I0 a6 2 = v := ⟨_, rfl⟩
  have b10 := iv8_2 hW0 ta6 c9
  refine tr_aload_n dX10_eventCount_0 rfl ?_
  refine tr_getR dX10_eventCount_1 fl10_16 (kR1 hW0 ta0) d2 ?_
  refine q_getI dX10_eventCount_4 fl10_311 (kR2 hW0 ta1) c4 ?_
  refine tr_aload_n dX10_eventCount_7 rfl ?_
  refine tr_getR dX10_eventCount_8 fl10_35 (kR1 hW0 ta0) d7 ?_
  refine q_getI dX10_eventCount_11 fl10_272 (kR8 hW0 ta6) c9 ?_
  refine q_iaddE dX10_eventCount_14 (by intros; omega) ?_
  intro v11 h12
  exact tr_iret hZ dX10_eventCount_15 rfl (by decide) (by decide) ⟨v11, rfl, rfl, rfl, rfl, rfl, rfl, rfl, (fun q0 z0 => fun q1 z1 => by obtain rfl := Option.some.inj ((d2).symm.trans z0); obtain rfl := Option.some.inj ((d7).symm.trans z1); (try rw [c4]); (try rw [c9]); first | done | with_reducible assumption | omega), trivial⟩
set_option maxHeartbeats 4000000 in
theorem fk_X10_eventFrom {l : Launch} {T : Nat → Nat} {cn : Nat} {K N : Nat → Nat} {I0 : cz_I} {R0 : cz_R} {L0 : cz_L} {d : Int} (hW0 : Wf T cn K N I0 R0 d) (gX : Nat → Nat → Int) {a0 : Nat} (ta0 : T a0 = 1) {x1 : Int32} (hx1 : 0 ≤ x1.toInt ∧ x1.toInt ≤ 19) (hX : EvQ I0 R0 a0 gX) (pre0 : 0 ≤ x1.toInt) (pre1 : ∀ b1, R0 a0 2 = some b1 → ∀ b2, R0 a0 6 = some b2 → x1.toInt < (I0 b1 3).toInt + (I0 b2 2).toInt) : ConE l mX10_eventFrom [.ref a0, .int x1] cn K N I0 R0 L0 (ca_i (fun v cn' K' N' I' R' L' => cn = cn' ∧ K = K' ∧ N = N' ∧ I0 = I' ∧ R0 = R' ∧ L0 = L' ∧ (v.toInt = gX x1.toInt.toNat 2) ∧ True)) := by
  refine ConE.of (by decide +kernel) rfl (Nat.le_of_ble_eq_true rfl) rfl (fun X hX hZ hE => ?_)
  subst hX
  have p1 := pre0
  obtain ⟨a2, d3, ta2⟩ := rf1_2 hW0 ta0
  obtain ⟨v4, c5⟩ : ∃ v, I0 a2 3 = v := ⟨_, rfl⟩
  have b6 := iv2_3 hW0 ta2 c5
  obtain ⟨a7, d8, ta7⟩ := rf1_6 hW0 ta0
  obtain ⟨v9, c10⟩ : ∃ v, I0 a7 2 = v := ⟨_, rfl⟩
  have b11 := iv8_2 hW0 ta7 c10
  have p12 := pre1 _ d3 _ d8
  rw [c5] at p12
  rw [c10] at p12
  obtain ⟨a13, d14, ta13⟩ := rf2_4 hW0 ta2
  obtain ⟨a15, d16, ta15⟩ := rf8_3 hW0 ta7
  obtain ⟨a17, d18, ta17⟩ := rf8_4 hW0 ta7
  refine tr_iload_n dX10_eventFrom_0 rfl ?_
  refine tr_aload_n dX10_eventFrom_1 rfl ?_
  refine tr_getR dX10_eventFrom_2 fl10_16 (kR1 hW0 ta0) d3 ?_
  refine q_getI dX10_eventFrom_5 fl10_311 (kR2 hW0 ta2) c5 ?_
  refine q_icmp_ge 26 dX10_eventFrom_8 (by decide) (fun h19 => ?_) (fun h19 => ?_)
  · skip
    refine tr_aload_n dX10_eventFrom_26 rfl ?_
    refine tr_getR dX10_eventFrom_27 fl10_35 (kR1 hW0 ta0) d8 ?_
    refine tr_getR dX10_eventFrom_30 fl10_364 (kR8 hW0 ta7) d16 ?_
    refine tr_iload_n dX10_eventFrom_33 rfl ?_
    refine tr_aload_n dX10_eventFrom_34 rfl ?_
    refine tr_getR dX10_eventFrom_35 fl10_16 (kR1 hW0 ta0) d3 ?_
    refine q_getI dX10_eventFrom_38 fl10_311 (kR2 hW0 ta2) c5 ?_
    refine q_isubE dX10_eventFrom_41 (by intros; omega) ?_
    intro v20 h21
    refine q_iald dX10_eventFrom_42 (kR27 hW0 ta15) (ti_in (nR27 hW0 ta15) (by omega) (by omega)) ?_
    intro v22 c23
    have b24 := iv27 hW0 ta15 c23
    exact tr_iret hZ dX10_eventFrom_43 rfl (by decide) (by decide) ⟨v22, rfl, rfl, rfl, rfl, rfl, rfl, rfl, (by have h := hX _ _ d3 d8; have z := h.2 _ _ (x1.toInt - v4.toInt).toNat d16 d18 (by rw [c10]; omega); rw [show (I0 a2 3).toInt.toNat + (x1.toInt - v4.toInt).toNat = x1.toInt.toNat by rw [c5]; omega, show I0 a15 (x1.toInt - v4.toInt).toNat = v22 from by have y := c23; rw [show v20.toNatClampNeg = (x1.toInt - v4.toInt).toNat from congrArg Int.toNat (by omega)] at y; exact y] at z; omega), trivial⟩
  · skip
    refine tr_aload_n dX10_eventFrom_11 rfl ?_
    refine tr_getR dX10_eventFrom_12 fl10_16 (kR1 hW0 ta0) d3 ?_
    refine tr_getR dX10_eventFrom_15 fl10_313 (kR2 hW0 ta2) d14 ?_
    refine tr_iload_n dX10_eventFrom_18 rfl ?_
    obtain ⟨a25, d26, ta25⟩ := rf19 hW0 ta13 (j := x1.toNatClampNeg) (ti_lt (by omega) (by omega))
    refine tr_aald dX10_eventFrom_19 (kR19 hW0 ta13) (by decide) (by decide) (ti_in (nR19 hW0 ta13) (by omega) (by omega)) d26 ?_
    obtain ⟨v27, c28⟩ : ∃ v, I0 a25 2 = v := ⟨_, rfl⟩
    have b29 := iv3_2 hW0 ta25 c28
    refine q_getI dX10_eventFrom_20 fl10_361 (kR3 hW0 ta25) c28 ?_
    refine tr_goto 43 dX10_eventFrom_23 (by decide) ?_
    exact tr_iret hZ dX10_eventFrom_43 rfl (by decide) (by decide) ⟨v27, rfl, rfl, rfl, rfl, rfl, rfl, rfl, (by have h := hX _ _ d3 d8; have z := h.1 _ d14 x1.toInt.toNat a25 (by rw [c5]; omega) (by have y := d26; rw [show x1.toNatClampNeg = x1.toInt.toNat from congrArg Int.toNat (by omega)] at y; exact y); rw [c28] at z; omega), trivial⟩
set_option maxHeartbeats 4000000 in
theorem fk_X10_eventTo {l : Launch} {T : Nat → Nat} {cn : Nat} {K N : Nat → Nat} {I0 : cz_I} {R0 : cz_R} {L0 : cz_L} {d : Int} (hW0 : Wf T cn K N I0 R0 d) (gX : Nat → Nat → Int) {a0 : Nat} (ta0 : T a0 = 1) {x1 : Int32} (hx1 : 0 ≤ x1.toInt ∧ x1.toInt ≤ 19) (hX : EvQ I0 R0 a0 gX) (pre0 : 0 ≤ x1.toInt) (pre1 : ∀ b1, R0 a0 2 = some b1 → ∀ b2, R0 a0 6 = some b2 → x1.toInt < (I0 b1 3).toInt + (I0 b2 2).toInt) : ConE l mX10_eventTo [.ref a0, .int x1] cn K N I0 R0 L0 (ca_i (fun v cn' K' N' I' R' L' => cn = cn' ∧ K = K' ∧ N = N' ∧ I0 = I' ∧ R0 = R' ∧ L0 = L' ∧ (v.toInt = gX x1.toInt.toNat 3) ∧ True)) := by
  refine ConE.of (by decide +kernel) rfl (Nat.le_of_ble_eq_true rfl) rfl (fun X hX hZ hE => ?_)
  subst hX
  have p1 := pre0
  obtain ⟨a2, d3, ta2⟩ := rf1_2 hW0 ta0
  obtain ⟨v4, c5⟩ : ∃ v, I0 a2 3 = v := ⟨_, rfl⟩
  have b6 := iv2_3 hW0 ta2 c5
  obtain ⟨a7, d8, ta7⟩ := rf1_6 hW0 ta0
  obtain ⟨v9, c10⟩ : ∃ v, I0 a7 2 = v := ⟨_, rfl⟩
  have b11 := iv8_2 hW0 ta7 c10
  have p12 := pre1 _ d3 _ d8
  rw [c5] at p12
  rw [c10] at p12
  obtain ⟨a13, d14, ta13⟩ := rf2_4 hW0 ta2
  obtain ⟨a15, d16, ta15⟩ := rf8_3 hW0 ta7
  obtain ⟨a17, d18, ta17⟩ := rf8_4 hW0 ta7
  refine tr_iload_n dX10_eventTo_0 rfl ?_
  refine tr_aload_n dX10_eventTo_1 rfl ?_
  refine tr_getR dX10_eventTo_2 fl10_16 (kR1 hW0 ta0) d3 ?_
  refine q_getI dX10_eventTo_5 fl10_311 (kR2 hW0 ta2) c5 ?_
  refine q_icmp_ge 26 dX10_eventTo_8 (by decide) (fun h19 => ?_) (fun h19 => ?_)
  · skip
    refine tr_aload_n dX10_eventTo_26 rfl ?_
    refine tr_getR dX10_eventTo_27 fl10_35 (kR1 hW0 ta0) d8 ?_
    refine tr_getR dX10_eventTo_30 fl10_369 (kR8 hW0 ta7) d18 ?_
    refine tr_iload_n dX10_eventTo_33 rfl ?_
    refine tr_aload_n dX10_eventTo_34 rfl ?_
    refine tr_getR dX10_eventTo_35 fl10_16 (kR1 hW0 ta0) d3 ?_
    refine q_getI dX10_eventTo_38 fl10_311 (kR2 hW0 ta2) c5 ?_
    refine q_isubE dX10_eventTo_41 (by intros; omega) ?_
    intro v20 h21
    refine q_iald dX10_eventTo_42 (kR28 hW0 ta17) (ti_in (nR28 hW0 ta17) (by omega) (by omega)) ?_
    intro v22 c23
    have b24 := iv28 hW0 ta17 c23
    exact tr_iret hZ dX10_eventTo_43 rfl (by decide) (by decide) ⟨v22, rfl, rfl, rfl, rfl, rfl, rfl, rfl, (by have h := hX _ _ d3 d8; have z := h.2 _ _ (x1.toInt - v4.toInt).toNat d16 d18 (by rw [c10]; omega); rw [show (I0 a2 3).toInt.toNat + (x1.toInt - v4.toInt).toNat = x1.toInt.toNat by rw [c5]; omega, show I0 a17 (x1.toInt - v4.toInt).toNat = v22 from by have y := c23; rw [show v20.toNatClampNeg = (x1.toInt - v4.toInt).toNat from congrArg Int.toNat (by omega)] at y; exact y] at z; omega), trivial⟩
  · skip
    refine tr_aload_n dX10_eventTo_11 rfl ?_
    refine tr_getR dX10_eventTo_12 fl10_16 (kR1 hW0 ta0) d3 ?_
    refine tr_getR dX10_eventTo_15 fl10_313 (kR2 hW0 ta2) d14 ?_
    refine tr_iload_n dX10_eventTo_18 rfl ?_
    obtain ⟨a25, d26, ta25⟩ := rf19 hW0 ta13 (j := x1.toNatClampNeg) (ti_lt (by omega) (by omega))
    refine tr_aald dX10_eventTo_19 (kR19 hW0 ta13) (by decide) (by decide) (ti_in (nR19 hW0 ta13) (by omega) (by omega)) d26 ?_
    obtain ⟨v27, c28⟩ : ∃ v, I0 a25 3 = v := ⟨_, rfl⟩
    have b29 := iv3_3 hW0 ta25 c28
    refine q_getI dX10_eventTo_20 fl10_366 (kR3 hW0 ta25) c28 ?_
    refine tr_goto 43 dX10_eventTo_23 (by decide) ?_
    exact tr_iret hZ dX10_eventTo_43 rfl (by decide) (by decide) ⟨v27, rfl, rfl, rfl, rfl, rfl, rfl, rfl, (by have h := hX _ _ d3 d8; have z := h.1 _ d14 x1.toInt.toNat a25 (by rw [c5]; omega) (by have y := d26; rw [show x1.toNatClampNeg = x1.toInt.toNat from congrArg Int.toNat (by omega)] at y; exact y); rw [c28] at z; omega), trivial⟩
def wik_X10_cause : List Nat := [73, 75, 81, 768, 769, 778, 834, 2303, 2367, 2431, 2495, 2559, 2623, 2687, 2751, 2815, 2879, 2943, 3007, 3071, 3135, 3199, 3263, 3327, 3391]
def wrk_X10_cause : List Nat := [832, 833]
def Cs_X10_cause (T : Nat → Nat) (I0 : cz_I) (R0 : cz_R) (a0 : Nat) (gX : Nat → Nat → Int) (gE : Nat → Nat → Int) (gc : Nat → Int) (x1 : Int32) (x2 : Int32) (v : Int32) (I' : cz_I) (R' : cz_R) : Prop :=
  ((∀ b1, R0 a0 2 = some b1 → (x1.toInt < 0 ∨ x1.toInt ≥ (I0 b1 5).toInt)) ∧ (v.toInt = -1) ∧ True) ∨
  ((0 ≤ x1.toInt) ∧ (∀ b1, R0 a0 2 = some b1 → x1.toInt < (I0 b1 5).toInt) ∧ (∀ al nw, R0 a0 2 = some al → R0 a0 6 = some nw → CauZ (NgZ I0 al nw gX gE gc) gX ((I0 al 3).toInt.toNat + (I0 nw 2).toInt.toNat) x1.toInt.toNat x2.toInt v.toInt) ∧ True)
set_option maxHeartbeats 4000000 in
theorem fk_X10_cause {l : Launch} {T : Nat → Nat} {cn : Nat} {K N : Nat → Nat} {I0 : cz_I} {R0 : cz_R} {L0 : cz_L} {d : Int} (hW0 : Wf T cn K N I0 R0 d) (gX : Nat → Nat → Int) (gE : Nat → Nat → Int) (gc : Nat → Int) {a0 : Nat} (ta0 : T a0 = 1) {x1 : Int32} {x2 : Int32} (hX : EvQ I0 R0 a0 gX) (hK : SkQ I0 R0 a0 gX) (hD : DjS R0 a0) (hEa : ∀ al, R0 a0 2 = some al → CVa I0 R0 al gc gE) (hGd : GdE gc gE) (hMs : ∀ nw, R0 a0 6 = some nw → 0 ≤ (I0 nw 0).toInt ∧ (I0 nw 0).toInt ≤ 63) (hNg : NgQ I0 R0 a0 gX gE gc) (hDn : DjN R0 a0) (h1 : 1 ≤ gc 0 ∨ ∀ i, gc i = 0) : ConE l mX10_cause [.ref a0, .int x1, .int x2] cn K N I0 R0 L0 (ca_i (fun v cn' K' N' I' R' L' => cn = cn' ∧ K = K' ∧ N = N' ∧ L0 = L' ∧ St T cn K N d wik_X10_cause wrk_X10_cause I0 R0 I' R' ∧ (SkQ I' R0 a0 gX) ∧ (NgQ I' R' a0 gX gE gc) ∧ Cs_X10_cause T I0 R0 a0 gX gE gc x1 x2 v I' R' ∧ True)) := by
  refine ConE.of (by decide +kernel) rfl (Nat.le_of_ble_eq_true rfl) rfl (fun X hX hZ hE => ?_)
  subst hX
  have hS0 : St T cn K N d wik_X10_cause wrk_X10_cause I0 R0 I0 R0 := St.rf0 hW0
  obtain ⟨a1, d2, ta1⟩ := rf1_2 hW0 ta0
  obtain ⟨v3, c4⟩ : ∃ v, I0 a1 5 = v := ⟨_, rfl⟩
  have b5 := iv2_5 hW0 ta1 c4
  obtain ⟨a6, d7, ta6⟩ := rf1_6 hW0 ta0
  obtain ⟨a8, d9, ta8⟩ := rf1_8 hW0 ta0
  obtain ⟨a10, d11, ta10⟩ := rf1_10 hW0 ta0
  obtain ⟨a12, d13, ta12⟩ := rf1_13 hW0 ta0
  obtain ⟨a14, d15, ta14⟩ := rf1_14 hW0 ta0
  obtain ⟨v16, c17⟩ : ∃ v, I0 a1 0 = v := ⟨_, rfl⟩
  have b18 := iv2_0 hW0 ta1 c17
  obtain ⟨v19, c20⟩ : ∃ v, I0 a1 1 = v := ⟨_, rfl⟩
  have b21 := iv2_1 hW0 ta1 c20
  obtain ⟨v22, c23⟩ : ∃ v, I0 a1 3 = v := ⟨_, rfl⟩
  have b24 := iv2_3 hW0 ta1 c23
  obtain ⟨v25, c26⟩ : ∃ v, I0 a1 9 = v := ⟨_, rfl⟩
  have b27 := iv2_9 hW0 ta1 c26
  obtain ⟨v28, c29⟩ : ∃ v, I0 a1 11 = v := ⟨_, rfl⟩
  have b30 := iv2_11 hW0 ta1 c29
  obtain ⟨v31, c32⟩ : ∃ v, I0 a6 0 = v := ⟨_, rfl⟩
  obtain ⟨v33, c34⟩ : ∃ v, I0 a6 2 = v := ⟨_, rfl⟩
  have b35 := iv8_2 hW0 ta6 c34
  have hc36 := (hEa _ d2).ct
  rw [c17, c20, c4, c26, c29] at hc36
  have hc36m := hMs _ d7
  have hc36g := hGd.own hc36m gX (-1) ((I0 a1 3).toInt.toNat + (I0 a6 2).toInt.toNat)
  rw [c32] at hc36m
  have hc36z0 : nzc ((NgZ I0 a1 a6 gX gE gc)) 0 = gc 0 := rfl
  have hc36z1 : nzc ((NgZ I0 a1 a6 gX gE gc)) 1 = gc 1 := rfl
  have hc36z3 : nzc ((NgZ I0 a1 a6 gX gE gc)) 3 = gc 3 := rfl
  have hc36z4 : nzc ((NgZ I0 a1 a6 gX gE gc)) 4 = gc 4 := rfl
  have hc36z5 : nzc ((NgZ I0 a1 a6 gX gE gc)) 5 = gc 5 := rfl
  refine tr_aload_n dX10_cause_0 rfl ?_
  refine tr_iload_n dX10_cause_1 rfl ?_
  refine tr_iload_n dX10_cause_2 rfl ?_
  refine q_callVi hE (M' := mX10_veinMinute) (as := [_, _]) dX10_cause_3 lk10_222 inX10_veinMinute seX10_veinMinute myX10_veinMinute (by decide) ⟨by decide, by decide⟩ rfl (kR1 hS0.1 ta0) (Nat.le_of_ble_eq_true rfl) rfl rfl (by decide) (by decide) (fk_X10_veinMinute hS0.1 (gX) (gE) (gc) ta0 hX hK hD (fun al ha => hEa al ha) hGd hMs hNg hDn h1) ?_
  rintro v42 cn' K' N' I37 R38 L39 ⟨rfl, rfl, rfl, rfl, g40, h43, rp44, rp45, dj46, -⟩
  have hS47 := hS0.tr g40 (by decide +kernel) (by decide +kernel)
  rcases dj46 with ⟨p48, p49, -⟩ | ⟨p50, p51, p52, p53, rp54, -⟩
  · skip
    have p55 := p48 _ d2
    clear p48
    rw [c4] at p55
    refine tr_istore_n dX10_cause_6 (by decide) (by decide) ?_
    refine tr_iload_n dX10_cause_7 rfl ?_
    refine q_iconst dX10_cause_8 (by decide) ?_
    intro v56 h57
    refine q_icmp_ne 18 dX10_cause_9 (by decide) (fun h58 => ?_) (fun h58 => ?_)
    · skip
      exfalso; omega
    · skip
      refine tr_aload_n dX10_cause_12 rfl ?_
      refine q_iconst dX10_cause_13 (by decide) ?_
      intro v59 h60
      refine q_callVi hE (M' := mX10_refused) (as := [_]) dX10_cause_14 lk10_79 inX10_refused seX10_refused myX10_refused (by decide) ⟨by decide, by decide⟩ rfl (kR1 hS47.1 ta0) (Nat.le_of_ble_eq_true rfl) rfl rfl (by decide) (by decide) (fk_X10_refused hS47.1  ta0) ?_
      rintro v66 cn' K' N' I61 R62 L63 ⟨rfl, rfl, rfl, rfl, rfl, g64, p67, p68, -⟩
      have hS69 := hS47.tr g64 (by decide +kernel) (by decide +kernel)
      obtain ⟨v70, c71⟩ : ∃ v, I61 a0 17 = v := ⟨_, rfl⟩
      rw [c71] at p68
      exact tr_iret hZ dX10_cause_17 rfl (by decide) (by decide) ⟨v66, rfl, rfl, rfl, rfl, rfl, hS69, (SkQ.st rp44 hW0 ta0 g64 (by decide +kernel) (by decide +kernel)), (NgQ.st rp45 hS69.1 ta0 g64 (by decide +kernel) (by decide +kernel) (by decide +kernel)), (by first | exact Or.inl ⟨(fun q0 z0 => by obtain rfl := Option.some.inj ((d2).symm.trans z0); (try rw [c4]); first | done | with_reducible assumption | omega), (by first | done | with_reducible assumption | omega), trivial⟩ | exact Or.inr (⟨(by first | done | with_reducible assumption | omega), (fun q0 z0 => by obtain rfl := Option.some.inj ((d2).symm.trans z0); (try rw [c4]); first | done | with_reducible assumption | omega), (by exfalso; omega), trivial⟩)), trivial⟩
  · skip
    have p72 := p51 _ d2
    clear p51
    rw [c4] at p72
    refine tr_istore_n dX10_cause_6 (by decide) (by decide) ?_
    refine tr_iload_n dX10_cause_7 rfl ?_
    refine q_iconst dX10_cause_8 (by decide) ?_
    intro v73 h74
    refine q_icmp_ne 18 dX10_cause_9 (by decide) (fun h75 => ?_) (fun h75 => ?_)
    · skip
      refine q_iconst dX10_cause_18 (by decide) ?_
      intro v76 h77
      refine tr_istore dX10_cause_19 (by decide) (by decide) ?_
      have lp92 : ∀ (fu : Nat) (ls : Nat → Option Value) (v78 : Int32) (I84 : cz_I) (R85 : cz_R), ls 0 = some (.ref a0) → ls 1 = some (.int x1) → ls 2 = some (.int x2) → ls 3 = some (.int v42) → ls 4 = some (.int v78) → St T cn K N d wik_X10_cause wrk_X10_cause I0 R0 I84 R85 → 0 ≤ v78.toInt → v78.toInt ≤ v22.toInt + v33.toInt → (fst1 (evZ gX v42.toInt) v78.toInt.toNat = -2) → (SkQ I84 R0 a0 gX) → (NgQ I84 R85 a0 gX gE gc) → (-v78.toInt + 2147483647).toNat < fu → Tr X mX10_cause 21 ls [] cn K N I84 R85 L0 0 0 := by
        intro fu
        induction fu with
        | zero => intros; rename_i hz; exact absurd hz (Nat.not_lt_zero _)
        | succ fu ih92 =>
          intro ls v78 I84 R85 hl79 hl80 hl81 hl82 hl83 hS86 g87 g88 rw89 rw90 rw91 hm92
          refine tr_iload dX10_cause_21 hl83 ?_
          refine tr_aload_n dX10_cause_23 hl79 ?_
          refine q_callVi hE (M' := mX10_eventCount) (as := []) dX10_cause_24 lk10_225 inX10_eventCount seX10_eventCount myX10_eventCount (by decide) ⟨by decide, by decide⟩ rfl (kR1 hS86.1 ta0) (Nat.le_of_ble_eq_true rfl) rfl rfl (by decide) (by decide) (fk_X10_eventCount hS86.1  ta0) ?_
          rintro v99 cn' K' N' I94 R95 L96 ⟨rfl, rfl, rfl, rfl, rfl, rfl, p100, -⟩
          have p101 := p100 _ ((hS86.rcell ta0 (by decide +kernel)).trans d2) _ ((hS86.rcell ta0 (by decide +kernel)).trans d7)
          clear p100
          rw [((hS86.cell ta1 (by decide +kernel)).trans c23)] at p101
          rw [((hS86.cell ta6 (by decide +kernel)).trans c34)] at p101
          refine q_icmp_ge 63 dX10_cause_27 (by decide) (fun h102 => ?_) (fun h102 => ?_)
          · skip
            refine tr_aload_n dX10_cause_63 hl79 ?_
            refine q_bipush dX10_cause_64 (by decide +kernel) ?_
            intro v103 h104
            refine q_callVi hE (M' := mX10_answered) (as := [_]) dX10_cause_66 lk10_109 inX10_answered seX10_answered myX10_answered (by decide) ⟨by decide, by decide⟩ rfl (kR1 hS86.1 ta0) (Nat.le_of_ble_eq_true rfl) rfl rfl (by decide) (by decide) (fk_X10_answered hS86.1  ta0) ?_
            rintro v110 cn' K' N' I105 R106 L107 ⟨rfl, rfl, rfl, rfl, rfl, g108, p111, p112, -⟩
            have hS113 := hS86.tr g108 (by decide +kernel) (by decide +kernel)
            obtain ⟨v114, c115⟩ : ∃ v, I105 a0 17 = v := ⟨_, rfl⟩
            rw [c115] at p112
            exact tr_iret hZ dX10_cause_69 rfl (by decide) (by decide) ⟨v110, rfl, rfl, rfl, rfl, rfl, hS113, (SkQ.st rw90 hW0 ta0 g108 (by decide +kernel) (by decide +kernel)), (NgQ.st rw91 hS86.1 ta0 g108 (by decide +kernel) (by decide +kernel) (by decide +kernel)), (Or.inr (⟨(by first | done | with_reducible assumption | omega), (fun q0 z0 => by obtain rfl := Option.some.inj ((d2).symm.trans z0); (try rw [c4]); first | done | with_reducible assumption | omega), (fun al nw h2 h6 => by obtain rfl := Option.some.inj (d2.symm.trans h2); obtain rfl := Option.some.inj (d7.symm.trans h6); have e := rp54 _ _ d2 d7; refine ⟨v42.toInt, e, ?_⟩; refine Or.inr ⟨by omega, ?_⟩; rw [show (I0 a1 3).toInt.toNat + (I0 a6 2).toInt.toNat = v78.toInt.toNat by rw [c23, c34]; omega]; have w := rw89; omega), trivial⟩)), trivial⟩
          · skip
            refine tr_aload_n dX10_cause_30 hl79 ?_
            refine tr_iload dX10_cause_31 hl83 ?_
            refine q_callVi hE (M' := mX10_eventFrom) (as := [_]) dX10_cause_33 lk10_228 inX10_eventFrom seX10_eventFrom myX10_eventFrom (by decide) ⟨by decide, by decide⟩ rfl (kR1 hS86.1 ta0) (Nat.le_of_ble_eq_true rfl) rfl rfl (by decide) (by decide) (fk_X10_eventFrom hS86.1 (gX) ta0 (by omega) (EvQ.rc (EvQ.st hX hW0 ta0 hS86 (by decide +kernel)) hW0 ta0 (R13 hS86 (by decide +kernel))) (by first | done | with_reducible assumption | omega) (fun q0 z0 => fun q1 z1 => by obtain rfl := Option.some.inj ((((hS86.rcell ta0 (by decide +kernel)).trans d2)).symm.trans z0); obtain rfl := Option.some.inj ((((hS86.rcell ta0 (by decide +kernel)).trans d7)).symm.trans z1); (try rw [((hS86.cell ta1 (by decide +kernel)).trans c23)]); (try rw [((hS86.cell ta6 (by decide +kernel)).trans c34)]); first | done | with_reducible assumption | omega)) ?_
            rintro v121 cn' K' N' I116 R117 L118 ⟨rfl, rfl, rfl, rfl, rfl, rfl, rp122, -⟩
            refine tr_iload_n dX10_cause_36 hl82 ?_
            refine q_icmp_eq 50 dX10_cause_37 (by decide) (fun h123 => ?_) (fun h123 => ?_)
            · skip
              refine tr_aload_n dX10_cause_50 hl79 ?_
              refine tr_iload dX10_cause_51 hl83 ?_
              refine q_callVi hE (M' := mX10_answered) (as := [_]) dX10_cause_53 lk10_109 inX10_answered seX10_answered myX10_answered (by decide) ⟨by decide, by decide⟩ rfl (kR1 hS86.1 ta0) (Nat.le_of_ble_eq_true rfl) rfl rfl (by decide) (by decide) (fk_X10_answered hS86.1  ta0) ?_
              rintro v129 cn' K' N' I124 R125 L126 ⟨rfl, rfl, rfl, rfl, rfl, g127, p130, p131, -⟩
              have hS132 := hS86.tr g127 (by decide +kernel) (by decide +kernel)
              obtain ⟨v133, c134⟩ : ∃ v, I124 a0 17 = v := ⟨_, rfl⟩
              rw [c134] at p131
              exact tr_iret hZ dX10_cause_56 rfl (by decide) (by decide) ⟨v129, rfl, rfl, rfl, rfl, rfl, hS132, (SkQ.st rw90 hW0 ta0 g127 (by decide +kernel) (by decide +kernel)), (NgQ.st rw91 hS86.1 ta0 g127 (by decide +kernel) (by decide +kernel) (by decide +kernel)), (Or.inr (⟨(by first | done | with_reducible assumption | omega), (fun q0 z0 => by obtain rfl := Option.some.inj ((d2).symm.trans z0); (try rw [c4]); first | done | with_reducible assumption | omega), (fun al nw h2 h6 => by obtain rfl := Option.some.inj (d2.symm.trans h2); obtain rfl := Option.some.inj (d7.symm.trans h6); have e := rp54 _ _ d2 d7; refine ⟨v42.toInt, e, ?_⟩; refine Or.inr ⟨by omega, ?_⟩; have w := fst1_1 rw89 (by have a := rp122; unfold evZ; rw [if_pos (by omega)]) ((I0 a1 3).toInt.toNat + (I0 a6 2).toInt.toNat) (by rw [c23, c34]; omega); omega), trivial⟩)), trivial⟩
            · skip
              refine tr_aload_n dX10_cause_40 hl79 ?_
              refine tr_iload dX10_cause_41 hl83 ?_
              refine q_callVi hE (M' := mX10_eventTo) (as := [_]) dX10_cause_43 lk10_231 inX10_eventTo seX10_eventTo myX10_eventTo (by decide) ⟨by decide, by decide⟩ rfl (kR1 hS86.1 ta0) (Nat.le_of_ble_eq_true rfl) rfl rfl (by decide) (by decide) (fk_X10_eventTo hS86.1 (gX) ta0 (by omega) (EvQ.rc (EvQ.st hX hW0 ta0 hS86 (by decide +kernel)) hW0 ta0 (R13 hS86 (by decide +kernel))) (by first | done | with_reducible assumption | omega) (fun q0 z0 => fun q1 z1 => by obtain rfl := Option.some.inj ((((hS86.rcell ta0 (by decide +kernel)).trans d2)).symm.trans z0); obtain rfl := Option.some.inj ((((hS86.rcell ta0 (by decide +kernel)).trans d7)).symm.trans z1); (try rw [((hS86.cell ta1 (by decide +kernel)).trans c23)]); (try rw [((hS86.cell ta6 (by decide +kernel)).trans c34)]); first | done | with_reducible assumption | omega)) ?_
              rintro v140 cn' K' N' I135 R136 L137 ⟨rfl, rfl, rfl, rfl, rfl, rfl, rp141, -⟩
              refine tr_iload_n dX10_cause_46 hl82 ?_
              refine q_icmp_ne 57 dX10_cause_47 (by decide) (fun h142 => ?_) (fun h142 => ?_)
              · skip
                refine q_iincE dX10_cause_57 hl83 (by decide) (by decide) (by intros; omega) ?_
                intro v143 h144
                refine tr_goto 21 dX10_cause_60 (by decide) ?_
                exact ih92 _ v143 I84 R85 hl79 hl80 hl81 hl82 rfl hS86 (by omega) (by omega) (by rw [show v143.toInt.toNat = v78.toInt.toNat + 1 by omega]; exact fst1_s rw89 (by have a := rp122; have b := rp141; unfold evZ; rw [if_neg (by omega)]; decide)) rw90 rw91 (by omega)
              · skip
                refine tr_aload_n dX10_cause_50 hl79 ?_
                refine tr_iload dX10_cause_51 hl83 ?_
                refine q_callVi hE (M' := mX10_answered) (as := [_]) dX10_cause_53 lk10_109 inX10_answered seX10_answered myX10_answered (by decide) ⟨by decide, by decide⟩ rfl (kR1 hS86.1 ta0) (Nat.le_of_ble_eq_true rfl) rfl rfl (by decide) (by decide) (fk_X10_answered hS86.1  ta0) ?_
                rintro v150 cn' K' N' I145 R146 L147 ⟨rfl, rfl, rfl, rfl, rfl, g148, p151, p152, -⟩
                have hS153 := hS86.tr g148 (by decide +kernel) (by decide +kernel)
                obtain ⟨v154, c155⟩ : ∃ v, I145 a0 17 = v := ⟨_, rfl⟩
                rw [c155] at p152
                exact tr_iret hZ dX10_cause_56 rfl (by decide) (by decide) ⟨v150, rfl, rfl, rfl, rfl, rfl, hS153, (SkQ.st rw90 hW0 ta0 g148 (by decide +kernel) (by decide +kernel)), (NgQ.st rw91 hS86.1 ta0 g148 (by decide +kernel) (by decide +kernel) (by decide +kernel)), (Or.inr (⟨(by first | done | with_reducible assumption | omega), (fun q0 z0 => by obtain rfl := Option.some.inj ((d2).symm.trans z0); (try rw [c4]); first | done | with_reducible assumption | omega), (fun al nw h2 h6 => by obtain rfl := Option.some.inj (d2.symm.trans h2); obtain rfl := Option.some.inj (d7.symm.trans h6); have e := rp54 _ _ d2 d7; refine ⟨v42.toInt, e, ?_⟩; refine Or.inr ⟨by omega, ?_⟩; have w := fst1_1 rw89 (by have a := rp122; have b := rp141; unfold evZ; rw [if_pos (by omega)]) ((I0 a1 3).toInt.toNat + (I0 a6 2).toInt.toNat) (by rw [c23, c34]; omega); omega), trivial⟩)), trivial⟩
      exact lp92 _ _ v76 I37 R38 rfl rfl rfl rfl rfl hS47 (by omega) (by omega) (by rw [show v76.toInt.toNat = 0 by omega]; rfl) rp44 rp45 (Nat.lt_succ_self _)
    · skip
      refine tr_aload_n dX10_cause_12 rfl ?_
      refine q_iconst dX10_cause_13 (by decide) ?_
      intro v156 h157
      refine q_callVi hE (M' := mX10_refused) (as := [_]) dX10_cause_14 lk10_79 inX10_refused seX10_refused myX10_refused (by decide) ⟨by decide, by decide⟩ rfl (kR1 hS47.1 ta0) (Nat.le_of_ble_eq_true rfl) rfl rfl (by decide) (by decide) (fk_X10_refused hS47.1  ta0) ?_
      rintro v163 cn' K' N' I158 R159 L160 ⟨rfl, rfl, rfl, rfl, rfl, g161, p164, p165, -⟩
      have hS166 := hS47.tr g161 (by decide +kernel) (by decide +kernel)
      obtain ⟨v167, c168⟩ : ∃ v, I158 a0 17 = v := ⟨_, rfl⟩
      rw [c168] at p165
      exact tr_iret hZ dX10_cause_17 rfl (by decide) (by decide) ⟨v163, rfl, rfl, rfl, rfl, rfl, hS166, (SkQ.st rp44 hW0 ta0 g161 (by decide +kernel) (by decide +kernel)), (NgQ.st rp45 hS166.1 ta0 g161 (by decide +kernel) (by decide +kernel) (by decide +kernel)), (by first | exact Or.inl ⟨(fun q0 z0 => by obtain rfl := Option.some.inj ((d2).symm.trans z0); (try rw [c4]); first | done | with_reducible assumption | omega), (by first | done | with_reducible assumption | omega), trivial⟩ | exact Or.inr (⟨(by first | done | with_reducible assumption | omega), (fun q0 z0 => by obtain rfl := Option.some.inj ((d2).symm.trans z0); (try rw [c4]); first | done | with_reducible assumption | omega), (fun al nw h2 h6 => by obtain rfl := Option.some.inj (d2.symm.trans h2); obtain rfl := Option.some.inj (d7.symm.trans h6); have e := rp54 _ _ d2 d7; refine ⟨v42.toInt, e, ?_⟩; exact Or.inl ⟨by omega, by omega⟩), trivial⟩)), trivial⟩
def wik_X10_total : List Nat := [73, 75, 81, 768, 769, 778, 834, 2303, 2367, 2431, 2495, 2559, 2623, 2687, 2751, 2815, 2879, 2943, 3007, 3071, 3135, 3199, 3263, 3327, 3391]
def wrk_X10_total : List Nat := [832, 833]
def Cs_X10_total (T : Nat → Nat) (I0 : cz_I) (R0 : cz_R) (a0 : Nat) (gX : Nat → Nat → Int) (gE : Nat → Nat → Int) (gc : Nat → Int) (v : Int32) (I' : cz_I) (R' : cz_R) : Prop :=
  (((I0 a0 5).toInt = 1) ∧ (∀ al nw, R0 a0 2 = some al → R0 a0 6 = some nw → v.toInt = toZ (NgZ I0 al nw gX gE gc)) ∧ True) ∨
  (((I0 a0 5).toInt = 0) ∧ (v.toInt = -100000) ∧ True)
set_option maxHeartbeats 4000000 in
theorem fk_X10_total {l : Launch} {T : Nat → Nat} {cn : Nat} {K N : Nat → Nat} {I0 : cz_I} {R0 : cz_R} {L0 : cz_L} {d : Int} (hW0 : Wf T cn K N I0 R0 d) (gX : Nat → Nat → Int) (gE : Nat → Nat → Int) (gc : Nat → Int) {a0 : Nat} (ta0 : T a0 = 1) (hX : EvQ I0 R0 a0 gX) (hK : SkQ I0 R0 a0 gX) (hD : DjS R0 a0) (hEa : ∀ al, R0 a0 2 = some al → CVa I0 R0 al gc gE) (hGd : GdE gc gE) (hMs : ∀ nw, R0 a0 6 = some nw → 0 ≤ (I0 nw 0).toInt ∧ (I0 nw 0).toInt ≤ 63) (hNg : NgQ I0 R0 a0 gX gE gc) (hDn : DjN R0 a0) (h1 : 1 ≤ gc 0 ∨ ∀ i, gc i = 0) : ConE l mX10_total [.ref a0] cn K N I0 R0 L0 (ca_i (fun v cn' K' N' I' R' L' => cn = cn' ∧ K = K' ∧ N = N' ∧ L0 = L' ∧ St T cn K N d wik_X10_total wrk_X10_total I0 R0 I' R' ∧ (SkQ I' R0 a0 gX) ∧ (NgQ I' R' a0 gX gE gc) ∧ Cs_X10_total T I0 R0 a0 gX gE gc v I' R' ∧ True)) := by
  refine ConE.of (by decide +kernel) rfl (Nat.le_of_ble_eq_true rfl) rfl (fun X hX hZ hE => ?_)
  subst hX
  have hS0 : St T cn K N d wik_X10_total wrk_X10_total I0 R0 I0 R0 := St.rf0 hW0
  obtain ⟨v1, c2⟩ : ∃ v, I0 a0 5 = v := ⟨_, rfl⟩
  have b3 := iv1_5 hW0 ta0 c2
  obtain ⟨a4, d5, ta4⟩ := rf1_2 hW0 ta0
  obtain ⟨a6, d7, ta6⟩ := rf1_6 hW0 ta0
  obtain ⟨a8, d9, ta8⟩ := rf1_8 hW0 ta0
  obtain ⟨a10, d11, ta10⟩ := rf1_10 hW0 ta0
  obtain ⟨a12, d13, ta12⟩ := rf1_13 hW0 ta0
  obtain ⟨a14, d15, ta14⟩ := rf1_14 hW0 ta0
  obtain ⟨v16, c17⟩ : ∃ v, I0 a4 0 = v := ⟨_, rfl⟩
  have b18 := iv2_0 hW0 ta4 c17
  obtain ⟨v19, c20⟩ : ∃ v, I0 a4 1 = v := ⟨_, rfl⟩
  have b21 := iv2_1 hW0 ta4 c20
  obtain ⟨v22, c23⟩ : ∃ v, I0 a4 3 = v := ⟨_, rfl⟩
  have b24 := iv2_3 hW0 ta4 c23
  obtain ⟨v25, c26⟩ : ∃ v, I0 a4 5 = v := ⟨_, rfl⟩
  have b27 := iv2_5 hW0 ta4 c26
  obtain ⟨v28, c29⟩ : ∃ v, I0 a4 9 = v := ⟨_, rfl⟩
  have b30 := iv2_9 hW0 ta4 c29
  obtain ⟨v31, c32⟩ : ∃ v, I0 a4 11 = v := ⟨_, rfl⟩
  have b33 := iv2_11 hW0 ta4 c32
  obtain ⟨v34, c35⟩ : ∃ v, I0 a6 0 = v := ⟨_, rfl⟩
  obtain ⟨v36, c37⟩ : ∃ v, I0 a6 2 = v := ⟨_, rfl⟩
  have b38 := iv8_2 hW0 ta6 c37
  have hc39 := (hEa _ d5).ct
  rw [c17, c20, c26, c29, c32] at hc39
  have hc39m := hMs _ d7
  have hc39g := hGd.own hc39m gX (-1) ((I0 a4 3).toInt.toNat + (I0 a6 2).toInt.toNat)
  rw [c35] at hc39m
  have hc39z0 : nzc ((NgZ I0 a4 a6 gX gE gc)) 0 = gc 0 := rfl
  have hc39z1 : nzc ((NgZ I0 a4 a6 gX gE gc)) 1 = gc 1 := rfl
  have hc39z3 : nzc ((NgZ I0 a4 a6 gX gE gc)) 3 = gc 3 := rfl
  have hc39z4 : nzc ((NgZ I0 a4 a6 gX gE gc)) 4 = gc 4 := rfl
  have hc39z5 : nzc ((NgZ I0 a4 a6 gX gE gc)) 5 = gc 5 := rfl
  refine tr_aload_n dX10_total_0 rfl ?_
  refine q_getZ dX10_total_1 fl10_95 (kR1 hS0.1 ta0) c2 ?_
  refine q_if_eq 21 dX10_total_4 (by decide) (fun h40 => ?_) (fun h40 => ?_)
  · skip
    refine tr_aload_n dX10_total_21 rfl ?_
    refine q_iconst dX10_total_22 (by decide) ?_
    intro v41 h42
    refine q_callVi hE (M' := mX10_refusedTotal) (as := [_]) dX10_total_23 lk10_178 inX10_refusedTotal seX10_refusedTotal myX10_refusedTotal (by decide) ⟨by decide, by decide⟩ rfl (kR1 hS0.1 ta0) (Nat.le_of_ble_eq_true rfl) rfl rfl (by decide) (by decide) (fk_X10_refusedTotal hS0.1  ta0) ?_
    rintro v48 cn' K' N' I43 R44 L45 ⟨rfl, rfl, rfl, rfl, rfl, g46, p49, p50, -⟩
    have hS51 := hS0.tr g46 (by decide +kernel) (by decide +kernel)
    obtain ⟨v52, c53⟩ : ∃ v, I43 a0 17 = v := ⟨_, rfl⟩
    rw [c53] at p50
    exact tr_iret hZ dX10_total_26 rfl (by decide) (by decide) ⟨v48, rfl, rfl, rfl, rfl, rfl, hS51, (SkQ.st hK hW0 ta0 g46 (by decide +kernel) (by decide +kernel)), (NgQ.st hNg hW0 ta0 g46 (by decide +kernel) (by decide +kernel) (by decide +kernel)), (Or.inr (⟨(by (try rw [c2]); first | done | with_reducible assumption | omega), (by first | done | with_reducible assumption | omega), trivial⟩)), trivial⟩
  · skip
    refine tr_aload_n dX10_total_7 rfl ?_
    refine tr_aload_n dX10_total_8 rfl ?_
    refine q_callVr hE (M' := mX10_presentNight) (as := []) dX10_total_9 lk10_155 inX10_presentNight seX10_presentNight myX10_presentNight (by decide) ⟨by decide, by decide⟩ rfl (kR1 hS0.1 ta0) (Nat.le_of_ble_eq_true rfl) rfl rfl (by decide) (by decide) (fk_X10_presentNight hS0.1 (gX) (gE) (gc) ta0 hX hK hD (fun al ha => hEa al ha) hGd hMs hNg hDn h1) ?_
    rintro a59 cn' K' N' I54 R55 L56 ⟨rfl, rfl, rfl, rfl, g57, ta59, p60, rp61, rp62, rp63, rp64, rp65, -⟩
    have hS66 := hS0.tr g57 (by decide +kernel) (by decide +kernel)
    obtain ⟨v67, c68⟩ : ∃ v, I54 a0 11 = v := ⟨_, rfl⟩
    have b69 := iv1_11 hS66.1 ta0 c68
    rw [c68] at p60
    have hq70 := NgP.own (n := a59) rp62 (SkQ.rc rp61 hW0 ta0 (R13 hS66 (by decide +kernel))) (by rw [c68]; omega) ((g57.rcell ta0 (by decide +kernel)).trans rp63) ((hS66.rcell ta0 (by decide +kernel)).trans d9) ((hS66.rcell ta0 (by decide +kernel)).trans d5) ((hS66.rcell ta0 (by decide +kernel)).trans d7) ((hEa _ d5).gs hW0 ta4 hS66 (by decide +kernel) (by decide +kernel)) hGd
    have hq70z : NgZ I54 a4 a6 gX gE gc = (NgZ I0 a4 a6 gX gE gc) := by unfold NgZ; rw [hS66.cell ta4 (by decide +kernel), hS66.cell ta6 (by decide +kernel), hS66.cell ta6 (by decide +kernel)]
    rw [hq70z] at hq70
    refine q_callVi hE (M' := mX5_sum) (as := []) dX10_total_12 lk10_192 inX5_sum seX5_sum myX5_sum (by decide) ⟨by decide, by decide⟩ rfl (kR13 hS66.1 ta59) (Nat.le_of_ble_eq_true rfl) rfl rfl (by decide) (by decide) (fk_X5_sum hS66.1 ((NgZ I0 a4 a6 gX gE gc)) ta59 hq70.1 hc39g hq70.2 h1) ?_
    rintro v76 cn' K' N' I71 R72 L73 ⟨rfl, rfl, rfl, rfl, rfl, rfl, h77, rp78, -⟩
    refine q_callVi hE (M' := mX10_answered) (as := [_]) dX10_total_15 lk10_109 inX10_answered seX10_answered myX10_answered (by decide) ⟨by decide, by decide⟩ rfl (kR1 hS66.1 ta0) (Nat.le_of_ble_eq_true rfl) rfl rfl (by decide) (by decide) (fk_X10_answered hS66.1  ta0) ?_
    rintro v84 cn' K' N' I79 R80 L81 ⟨rfl, rfl, rfl, rfl, rfl, g82, p85, p86, -⟩
    have hS87 := hS66.tr g82 (by decide +kernel) (by decide +kernel)
    have c88 : I79 a0 11 = v67 := (g82.cell ta0 (by decide +kernel)).trans c68
    obtain ⟨v89, c90⟩ : ∃ v, I79 a0 17 = v := ⟨_, rfl⟩
    rw [c90] at p86
    refine tr_goto 26 dX10_total_18 (by decide) ?_
    exact tr_iret hZ dX10_total_26 rfl (by decide) (by decide) ⟨v84, rfl, rfl, rfl, rfl, rfl, hS87, (SkQ.st rp61 hW0 ta0 g82 (by decide +kernel) (by decide +kernel)), (NgQ.st rp62 hS87.1 ta0 g82 (by decide +kernel) (by decide +kernel) (by decide +kernel)), (Or.inl ⟨(by (try rw [c2]); first | done | with_reducible assumption | omega), (fun al nw h2 h6 => by obtain rfl := Option.some.inj (d5.symm.trans h2); obtain rfl := Option.some.inj (d7.symm.trans h6); have e := rp78; omega), trivial⟩), trivial⟩
set_option maxHeartbeats 4000000 in
theorem fk_X10_isEvent {l : Launch} {T : Nat → Nat} {cn : Nat} {K N : Nat → Nat} {I0 : cz_I} {R0 : cz_R} {L0 : cz_L} {d : Int} (hW0 : Wf T cn K N I0 R0 d)  {a0 : Nat} (ta0 : T a0 = 1) {x1 : Int32} : ConE l mX10_isEvent [.ref a0, .int x1] cn K N I0 R0 L0 (ca_i (fun v cn' K' N' I' R' L' => cn = cn' ∧ K = K' ∧ N = N' ∧ I0 = I' ∧ R0 = R' ∧ L0 = L' ∧ (0 ≤ v.toInt ∧ v.toInt ≤ 1) ∧ (∀ b1, R0 a0 2 = some b1 → ∀ b2, R0 a0 6 = some b2 → (v.toInt = 1 → (0 ≤ x1.toInt ∧ x1.toInt < (I0 b1 3).toInt + (I0 b2 2).toInt))) ∧ (∀ b1, R0 a0 2 = some b1 → ∀ b2, R0 a0 6 = some b2 → (v.toInt = 0 → (x1.toInt < 0 ∨ x1.toInt ≥ (I0 b1 3).toInt + (I0 b2 2).toInt))) ∧ True)) := by
  refine ConE.of (by decide +kernel) rfl (Nat.le_of_ble_eq_true rfl) rfl (fun X hX hZ hE => ?_)
  subst hX
  obtain ⟨a1, d2, ta1⟩ := rf1_2 hW0 ta0
  obtain ⟨v3, c4⟩ : ∃ v, I0 a1 3 = v := ⟨_, rfl⟩
  have b5 := iv2_3 hW0 ta1 c4
  obtain ⟨a6, d7, ta6⟩ := rf1_6 hW0 ta0
  obtain ⟨v8, c9⟩ : ∃ v, I0 a6 2 = v := ⟨_, rfl⟩
  have b10 := iv8_2 hW0 ta6 c9
  refine tr_iload_n dX10_isEvent_0 rfl ?_
  refine q_if_lt 16 dX10_isEvent_1 (by decide) (fun h11 => ?_) (fun h11 => ?_)
  · skip
    refine q_iconst dX10_isEvent_16 (by decide) ?_
    intro v12 h13
    exact tr_zret hZ dX10_isEvent_17 rfl (ti_b01 (by omega) (by omega)) (by decide) (by decide) ⟨v12, rfl, rfl, rfl, rfl, rfl, rfl, rfl, (by omega), (fun q0 z0 => fun q1 z1 => by obtain rfl := Option.some.inj ((d2).symm.trans z0); obtain rfl := Option.some.inj ((d7).symm.trans z1); (try rw [c4]); (try rw [c9]); first | done | with_reducible assumption | omega), (fun q0 z0 => fun q1 z1 => by obtain rfl := Option.some.inj ((d2).symm.trans z0); obtain rfl := Option.some.inj ((d7).symm.trans z1); (try rw [c4]); (try rw [c9]); first | done | with_reducible assumption | omega), trivial⟩
  · skip
    refine tr_iload_n dX10_isEvent_4 rfl ?_
    refine tr_aload_n dX10_isEvent_5 rfl ?_
    refine q_callVi hE (M' := mX10_eventCount) (as := []) dX10_isEvent_6 lk10_225 inX10_eventCount seX10_eventCount myX10_eventCount (by decide) ⟨by decide, by decide⟩ rfl (kR1 hW0 ta0) (Nat.le_of_ble_eq_true rfl) rfl rfl (by decide) (by decide) (fk_X10_eventCount hW0  ta0) ?_
    rintro v19 cn' K' N' I14 R15 L16 ⟨rfl, rfl, rfl, rfl, rfl, rfl, p20, -⟩
    have p21 := p20 _ d2 _ d7
    clear p20
    rw [c4] at p21
    rw [c9] at p21
    refine q_icmp_ge 16 dX10_isEvent_9 (by decide) (fun h22 => ?_) (fun h22 => ?_)
    · skip
      refine q_iconst dX10_isEvent_16 (by decide) ?_
      intro v23 h24
      exact tr_zret hZ dX10_isEvent_17 rfl (ti_b01 (by omega) (by omega)) (by decide) (by decide) ⟨v23, rfl, rfl, rfl, rfl, rfl, rfl, rfl, (by omega), (fun q0 z0 => fun q1 z1 => by obtain rfl := Option.some.inj ((d2).symm.trans z0); obtain rfl := Option.some.inj ((d7).symm.trans z1); (try rw [c4]); (try rw [c9]); first | done | with_reducible assumption | omega), (fun q0 z0 => fun q1 z1 => by obtain rfl := Option.some.inj ((d2).symm.trans z0); obtain rfl := Option.some.inj ((d7).symm.trans z1); (try rw [c4]); (try rw [c9]); first | done | with_reducible assumption | omega), trivial⟩
    · skip
      refine q_iconst dX10_isEvent_12 (by decide) ?_
      intro v25 h26
      refine tr_goto 17 dX10_isEvent_13 (by decide) ?_
      exact tr_zret hZ dX10_isEvent_17 rfl (ti_b01 (by omega) (by omega)) (by decide) (by decide) ⟨v25, rfl, rfl, rfl, rfl, rfl, rfl, rfl, (by omega), (fun q0 z0 => fun q1 z1 => by obtain rfl := Option.some.inj ((d2).symm.trans z0); obtain rfl := Option.some.inj ((d7).symm.trans z1); (try rw [c4]); (try rw [c9]); first | done | with_reducible assumption | omega), (fun q0 z0 => fun q1 z1 => by obtain rfl := Option.some.inj ((d2).symm.trans z0); obtain rfl := Option.some.inj ((d7).symm.trans z1); (try rw [c4]); (try rw [c9]); first | done | with_reducible assumption | omega), trivial⟩
def wik_X10_without : List Nat := [73, 75, 81, 768, 769, 778, 834, 2303, 2367, 2431, 2495, 2559, 2623, 2687, 2751, 2815, 2879, 2943, 3007, 3071, 3135, 3199, 3263, 3327, 3391]
def wrk_X10_without : List Nat := [832, 833]
def Cs_X10_without (T : Nat → Nat) (I0 : cz_I) (R0 : cz_R) (a0 : Nat) (gX : Nat → Nat → Int) (gE : Nat → Nat → Int) (gc : Nat → Int) (x1 : Int32) (v : Int32) (I' : cz_I) (R' : cz_R) : Prop :=
  ((∀ b1, R0 a0 2 = some b1 → ∀ b2, R0 a0 6 = some b2 → (x1.toInt < 0 ∨ x1.toInt ≥ (I0 b1 3).toInt + (I0 b2 2).toInt)) ∧ (v.toInt = -100000) ∧ True) ∨
  ((0 ≤ x1.toInt) ∧ (∀ b1, R0 a0 2 = some b1 → ∀ b2, R0 a0 6 = some b2 → x1.toInt < (I0 b1 3).toInt + (I0 b2 2).toInt) ∧ (∀ al nw, R0 a0 2 = some al → R0 a0 6 = some nw → v.toInt = toZ (mkZ gX x1.toInt ((I0 al 3).toInt.toNat + (I0 nw 2).toInt.toNat) gE gc (I0 nw 0).toInt (pw (gc 4) - 1)) - toZ (NgZ I0 al nw gX gE gc)) ∧ True)
set_option maxHeartbeats 4000000 in
theorem fk_X10_without {l : Launch} {T : Nat → Nat} {cn : Nat} {K N : Nat → Nat} {I0 : cz_I} {R0 : cz_R} {L0 : cz_L} {d : Int} (hW0 : Wf T cn K N I0 R0 d) (gX : Nat → Nat → Int) (gE : Nat → Nat → Int) (gc : Nat → Int) {a0 : Nat} (ta0 : T a0 = 1) {x1 : Int32} (hX : EvQ I0 R0 a0 gX) (hK : SkQ I0 R0 a0 gX) (hD : DjS R0 a0) (hEa : ∀ al, R0 a0 2 = some al → CVa I0 R0 al gc gE) (hGd : GdE gc gE) (hMs : ∀ nw, R0 a0 6 = some nw → 0 ≤ (I0 nw 0).toInt ∧ (I0 nw 0).toInt ≤ 63) (hNg : NgQ I0 R0 a0 gX gE gc) (hDn : DjN R0 a0) (h1 : 1 ≤ gc 0 ∨ ∀ i, gc i = 0) : ConE l mX10_without [.ref a0, .int x1] cn K N I0 R0 L0 (ca_i (fun v cn' K' N' I' R' L' => cn = cn' ∧ K = K' ∧ N = N' ∧ L0 = L' ∧ St T cn K N d wik_X10_without wrk_X10_without I0 R0 I' R' ∧ (SkQ I' R0 a0 gX) ∧ (NgQ I' R' a0 gX gE gc) ∧ Cs_X10_without T I0 R0 a0 gX gE gc x1 v I' R' ∧ True)) := by
  refine ConE.of (by decide +kernel) rfl (Nat.le_of_ble_eq_true rfl) rfl (fun X hX hZ hE => ?_)
  subst hX
  have hS0 : St T cn K N d wik_X10_without wrk_X10_without I0 R0 I0 R0 := St.rf0 hW0
  obtain ⟨a1, d2, ta1⟩ := rf1_2 hW0 ta0
  obtain ⟨v3, c4⟩ : ∃ v, I0 a1 3 = v := ⟨_, rfl⟩
  have b5 := iv2_3 hW0 ta1 c4
  obtain ⟨a6, d7, ta6⟩ := rf1_6 hW0 ta0
  obtain ⟨v8, c9⟩ : ∃ v, I0 a6 2 = v := ⟨_, rfl⟩
  have b10 := iv8_2 hW0 ta6 c9
  obtain ⟨a11, d12, ta11⟩ := rf1_8 hW0 ta0
  obtain ⟨a13, d14, ta13⟩ := rf1_10 hW0 ta0
  obtain ⟨a15, d16, ta15⟩ := rf1_13 hW0 ta0
  obtain ⟨a17, d18, ta17⟩ := rf1_14 hW0 ta0
  obtain ⟨v19, c20⟩ : ∃ v, I0 a1 0 = v := ⟨_, rfl⟩
  have b21 := iv2_0 hW0 ta1 c20
  obtain ⟨v22, c23⟩ : ∃ v, I0 a1 1 = v := ⟨_, rfl⟩
  have b24 := iv2_1 hW0 ta1 c23
  obtain ⟨v25, c26⟩ : ∃ v, I0 a1 5 = v := ⟨_, rfl⟩
  have b27 := iv2_5 hW0 ta1 c26
  obtain ⟨v28, c29⟩ : ∃ v, I0 a1 9 = v := ⟨_, rfl⟩
  have b30 := iv2_9 hW0 ta1 c29
  obtain ⟨v31, c32⟩ : ∃ v, I0 a1 11 = v := ⟨_, rfl⟩
  have b33 := iv2_11 hW0 ta1 c32
  obtain ⟨v34, c35⟩ : ∃ v, I0 a6 0 = v := ⟨_, rfl⟩
  have hc36 := (hEa _ d2).ct
  rw [c20, c23, c26, c29, c32] at hc36
  have hc36m := hMs _ d7
  have hc36g := hGd.own hc36m gX (-1) ((I0 a1 3).toInt.toNat + (I0 a6 2).toInt.toNat)
  rw [c35] at hc36m
  have hc36z0 : nzc ((NgZ I0 a1 a6 gX gE gc)) 0 = gc 0 := rfl
  have hc36z1 : nzc ((NgZ I0 a1 a6 gX gE gc)) 1 = gc 1 := rfl
  have hc36z3 : nzc ((NgZ I0 a1 a6 gX gE gc)) 3 = gc 3 := rfl
  have hc36z4 : nzc ((NgZ I0 a1 a6 gX gE gc)) 4 = gc 4 := rfl
  have hc36z5 : nzc ((NgZ I0 a1 a6 gX gE gc)) 5 = gc 5 := rfl
  refine tr_aload_n dX10_without_0 rfl ?_
  refine tr_iload_n dX10_without_1 rfl ?_
  refine q_callVi hE (M' := mX10_isEvent) (as := [_]) dX10_without_2 lk10_234 inX10_isEvent seX10_isEvent myX10_isEvent (by decide) ⟨by decide, by decide⟩ rfl (kR1 hS0.1 ta0) (Nat.le_of_ble_eq_true rfl) rfl rfl (by decide) (by decide) (fk_X10_isEvent hS0.1  ta0) ?_
  rintro v42 cn' K' N' I37 R38 L39 ⟨rfl, rfl, rfl, rfl, rfl, rfl, h43, p44, p45, -⟩
  have p46 := p44 _ d2 _ d7
  clear p44
  rw [c4] at p46
  rw [c9] at p46
  have p47 := p45 _ d2 _ d7
  clear p45
  rw [c4] at p47
  rw [c9] at p47
  refine q_if_ne 14 dX10_without_5 (by decide) (fun h48 => ?_) (fun h48 => ?_)
  · skip
    refine tr_aload_n dX10_without_14 rfl ?_
    refine tr_getR dX10_without_15 fl10_65 (kR1 hS0.1 ta0) d16 ?_
    refine tr_aload_n dX10_without_18 rfl ?_
    refine tr_getR dX10_without_19 fl10_16 (kR1 hS0.1 ta0) d2 ?_
    refine tr_aload_n dX10_without_22 rfl ?_
    refine tr_getR dX10_without_23 fl10_35 (kR1 hS0.1 ta0) d7 ?_
    refine tr_iload_n dX10_without_26 rfl ?_
    refine q_callVv hE (M' := mX8_build) (as := [_, _, _]) dX10_without_27 lk10_237 inX8_build seX8_build myX8_build (by decide) ⟨by decide, by decide⟩ rfl (kR12 hS0.1 ta15) (Nat.le_of_ble_eq_true rfl) rfl rfl (by decide) (by decide) (fk_X8_build hS0.1 (gX) ta15 ta1 ta6 (hX _ _ d2 d7)) ?_
    rintro cn' K' N' I49 R50 L51 ⟨rfl, rfl, rfl, rfl, rfl, g52, rp55, rp56, rp57, rp58, -⟩
    have hS59 := hS0.tr g52 (by decide +kernel) (by decide +kernel)
    refine tr_aload_n dX10_without_30 rfl ?_
    refine tr_getR dX10_without_31 fl10_68 (kR1 hS59.1 ta0) d18 ?_
    refine tr_aload_n dX10_without_34 rfl ?_
    refine tr_getR dX10_without_35 fl10_16 (kR1 hS59.1 ta0) d2 ?_
    refine tr_aload_n dX10_without_38 rfl ?_
    refine tr_getR dX10_without_39 fl10_65 (kR1 hS59.1 ta0) d16 ?_
    refine tr_aload_n dX10_without_42 rfl ?_
    refine tr_getR dX10_without_43 fl10_35 (kR1 hS59.1 ta0) d7 ?_
    refine q_getI dX10_without_46 fl10_181 (kR8 hS59.1 ta6) ((hS59.cell ta6 (by decide +kernel)).trans c35) ?_
    have hm60 : 0 ≤ (I49 a6 0).toInt ∧ (I49 a6 0).toInt ≤ 63 := by rw [hS59.cell ta6 (by decide +kernel)]; exact hMs _ d7
    rw [((hS59.cell ta6 (by decide +kernel)).trans c35)] at hm60
    refine tr_aload_n dX10_without_49 rfl ?_
    refine q_callVi hE (M' := mX10_allTurners) (as := []) dX10_without_50 lk10_184 inX10_allTurners seX10_allTurners myX10_allTurners (by decide) ⟨by decide, by decide⟩ rfl (kR1 hS59.1 ta0) (Nat.le_of_ble_eq_true rfl) rfl rfl (by decide) (by decide) (fk_X10_allTurners hS59.1  ta0) ?_
    rintro v66 cn' K' N' I61 R62 L63 ⟨rfl, rfl, rfl, rfl, rfl, rfl, rp67, -⟩
    have ht68 := rp67 _ d2
    rw [((hS59.cell ta1 (by decide +kernel)).trans c29)] at ht68
    have ht68b := pw_all (c := v28.toInt) (by omega) (by omega)
    have hz69m : nzM (mkZ gX x1.toInt ((I0 a1 3).toInt.toNat + (I0 a6 2).toInt.toNat) gE gc v34.toInt v66.toInt) = v34.toInt := rfl
    have hz69w : nzW (mkZ gX x1.toInt ((I0 a1 3).toInt.toNat + (I0 a6 2).toInt.toNat) gE gc v34.toInt v66.toInt) = v66.toInt := rfl
    have ks70 : SkZ I49 R0 a15 (mkZ gX x1.toInt ((I0 a1 3).toInt.toNat + (I0 a6 2).toInt.toNat) gE gc v34.toInt v66.toInt) := SkZ.bld hW0 ta1 (hEa _ d2) hGd rp55 rp57 rp58
    refine q_callVv hE (M' := mX5_play) (as := [_, _, _, _]) dX10_without_53 lk10_188 inX5_play seX5_play myX5_play (by decide) ⟨by decide, by decide⟩ rfl (kR13 hS59.1 ta17) (Nat.le_of_ble_eq_true rfl) rfl rfl (by decide) (by decide) (fk_X5_play hS59.1 ((mkZ gX x1.toInt ((I0 a1 3).toInt.toNat + (I0 a6 2).toInt.toNat) gE gc v34.toInt v66.toInt)) ta17 ta1 ta15 (by omega) (by omega) ((hEa _ d2).gs hW0 ta1 hS59 (by decide +kernel) (by decide +kernel)) ks70 (hGd _ _ _ _ _ (by omega) (by omega)) (by first | done | with_reducible assumption | omega) (by first | done | with_reducible assumption | omega)) ?_
    rintro cn' K' N' I71 R72 L73 ⟨rfl, rfl, rfl, rfl, g74, rp77, rp78, rp79, rp80, rp81, rp82, -⟩
    have hS83 := hS59.tr g74 (by decide +kernel) (by decide +kernel)
    have hp84P : NgP I71 R72 a17 (mkZ gX x1.toInt ((I0 a1 3).toInt.toNat + (I0 a6 2).toInt.toNat) gE gc v34.toInt v66.toInt) := NgP.mk ((hEa _ d2).gs hW0 ta1 hS59 (by decide +kernel) (by decide +kernel)) ks70 g74 hS59.1 ta17 ta1 ta15 rp77 rp78 (congrArg Int32.toInt rp79) (by decide +kernel) (by decide +kernel)
    have hp84R : NgR I71 R72 a17 (mkZ gX x1.toInt ((I0 a1 3).toInt.toNat + (I0 a6 2).toInt.toNat) gE gc v34.toInt v66.toInt) (gc 0).toNat := rp80.rc (fun k k1 k2 => R13w g74 (by decide +kernel) ta17 k1 k2)
    have hp84G : GdN (mkZ gX x1.toInt ((I0 a1 3).toInt.toNat + (I0 a6 2).toInt.toNat) gE gc v34.toInt v66.toInt) := hGd _ _ _ _ _ (by omega) (by omega)
    refine tr_aload_n dX10_without_56 rfl ?_
    refine tr_aload_n dX10_without_57 rfl ?_
    refine tr_getR dX10_without_58 fl10_68 (kR1 hS83.1 ta0) ((hS83.rcell ta0 (by decide +kernel)).trans d18) ?_
    refine q_callVi hE (M' := mX5_sum) (as := []) dX10_without_61 lk10_192 inX5_sum seX5_sum myX5_sum (by decide) ⟨by decide, by decide⟩ rfl (kR13 hS83.1 ta17) (Nat.le_of_ble_eq_true rfl) rfl rfl (by decide) (by decide) (fk_X5_sum hS83.1 ((mkZ gX x1.toInt ((I0 a1 3).toInt.toNat + (I0 a6 2).toInt.toNat) gE gc v34.toInt v66.toInt)) ta17 hp84P hp84G hp84R h1) ?_
    rintro v90 cn' K' N' I85 R86 L87 ⟨rfl, rfl, rfl, rfl, rfl, rfl, h91, rp92, -⟩
    refine tr_aload_n dX10_without_64 rfl ?_
    refine q_callVr hE (M' := mX10_presentNight) (as := []) dX10_without_65 lk10_155 inX10_presentNight seX10_presentNight myX10_presentNight (by decide) ⟨by decide, by decide⟩ rfl (kR1 hS83.1 ta0) (Nat.le_of_ble_eq_true rfl) rfl rfl (by decide) (by decide) (fk_X10_presentNight hS83.1 (gX) (gE) (gc) ta0 (EvQ.rc (EvQ.st hX hW0 ta0 hS83 (by decide +kernel)) hW0 ta0 (R13 hS83 (by decide +kernel))) (SkQ.rc (SkQ.st (SkQ.fs hK hW0 ta0 g52 hD d16 rp56 (by decide +kernel) (by decide +kernel)) hW0 ta0 g74 (by decide +kernel) (by decide +kernel)) hW0 ta0 (R13 hS83 (by decide +kernel))) (DjS.rc hD hW0 ta0 (R13 hS83 (by decide +kernel))) (fun al ha => by have h0 := (R13 hS83 (by decide +kernel) a0 2 (by rw [ta0]; decide)).symm.trans ha; exact (hEa al h0).gs hW0 (hW0.rs ta0 rfl rfl h0) hS83 (by decide +kernel) (by decide +kernel)) hGd (fun nw hn => by have h0 := (R13 hS83 (by decide +kernel) a0 6 (by rw [ta0]; decide)).symm.trans hn; rw [hS83.cell (hW0.rs ta0 rfl rfl h0 : T nw = 8) (by decide +kernel)]; exact hMs nw h0) (NgQ.fn (NgQ.fs hNg hW0 ta0 g52 hD d16 rp56 (by decide +kernel) (by decide +kernel) (by decide +kernel)) hW0 ta0 g74 hDn d18 rp81 rp82 (by decide +kernel) (by decide +kernel) (by decide +kernel)) (DjN.st hDn hW0 ta0 hS83 (by decide +kernel) (by decide +kernel)) h1) ?_
    rintro a98 cn' K' N' I93 R94 L95 ⟨rfl, rfl, rfl, rfl, g96, ta98, p99, rp100, rp101, rp102, rp103, rp104, -⟩
    have hS105 := hS83.tr g96 (by decide +kernel) (by decide +kernel)
    obtain ⟨v106, c107⟩ : ∃ v, I93 a0 11 = v := ⟨_, rfl⟩
    have b108 := iv1_11 hS105.1 ta0 c107
    rw [c107] at p99
    have hq109 := NgP.own (n := a98) rp101 (SkQ.rc (SkQ.rc rp100 hS83.1 ta0 (fun a j q => (R13 hS83 (by decide +kernel) a j q).symm)) hW0 ta0 (R13 hS105 (by decide +kernel))) (by rw [c107]; omega) ((g96.rcell ta0 (by decide +kernel)).trans rp102) ((hS105.rcell ta0 (by decide +kernel)).trans d12) ((hS105.rcell ta0 (by decide +kernel)).trans d2) ((hS105.rcell ta0 (by decide +kernel)).trans d7) ((hEa _ d2).gs hW0 ta1 hS105 (by decide +kernel) (by decide +kernel)) hGd
    have hq109z : NgZ I93 a1 a6 gX gE gc = (NgZ I0 a1 a6 gX gE gc) := by unfold NgZ; rw [hS105.cell ta1 (by decide +kernel), hS105.cell ta6 (by decide +kernel), hS105.cell ta6 (by decide +kernel)]
    rw [hq109z] at hq109
    refine q_callVi hE (M' := mX5_sum) (as := []) dX10_without_68 lk10_192 inX5_sum seX5_sum myX5_sum (by decide) ⟨by decide, by decide⟩ rfl (kR13 hS105.1 ta98) (Nat.le_of_ble_eq_true rfl) rfl rfl (by decide) (by decide) (fk_X5_sum hS105.1 ((NgZ I0 a1 a6 gX gE gc)) ta98 hq109.1 hc36g hq109.2 h1) ?_
    rintro v115 cn' K' N' I110 R111 L112 ⟨rfl, rfl, rfl, rfl, rfl, rfl, h116, rp117, -⟩
    refine q_isubE dX10_without_71 (by intros; omega) ?_
    intro v118 h119
    refine q_callVi hE (M' := mX10_answered) (as := [_]) dX10_without_72 lk10_109 inX10_answered seX10_answered myX10_answered (by decide) ⟨by decide, by decide⟩ rfl (kR1 hS105.1 ta0) (Nat.le_of_ble_eq_true rfl) rfl rfl (by decide) (by decide) (fk_X10_answered hS105.1  ta0) ?_
    rintro v125 cn' K' N' I120 R121 L122 ⟨rfl, rfl, rfl, rfl, rfl, g123, p126, p127, -⟩
    have hS128 := hS105.tr g123 (by decide +kernel) (by decide +kernel)
    have c129 : I120 a0 11 = v106 := (g123.cell ta0 (by decide +kernel)).trans c107
    obtain ⟨v130, c131⟩ : ∃ v, I120 a0 17 = v := ⟨_, rfl⟩
    rw [c131] at p127
    exact tr_iret hZ dX10_without_75 rfl (by decide) (by decide) ⟨v125, rfl, rfl, rfl, rfl, rfl, hS128, (SkQ.st (SkQ.rc rp100 hS83.1 ta0 (fun a j q => (R13 hS83 (by decide +kernel) a j q).symm)) hW0 ta0 g123 (by decide +kernel) (by decide +kernel)), (NgQ.st rp101 hS128.1 ta0 g123 (by decide +kernel) (by decide +kernel) (by decide +kernel)), (by first | exact Or.inl ⟨(fun q0 z0 => fun q1 z1 => by obtain rfl := Option.some.inj ((d2).symm.trans z0); obtain rfl := Option.some.inj ((d7).symm.trans z1); (try rw [c4]); (try rw [c9]); first | done | with_reducible assumption | omega), (by first | done | with_reducible assumption | omega), trivial⟩ | exact Or.inr (⟨(by first | done | with_reducible assumption | omega), (fun q0 z0 => fun q1 z1 => by obtain rfl := Option.some.inj ((d2).symm.trans z0); obtain rfl := Option.some.inj ((d7).symm.trans z1); (try rw [c4]); (try rw [c9]); first | done | with_reducible assumption | omega), (fun al nw h2 h6 => by obtain rfl := Option.some.inj (d2.symm.trans h2); obtain rfl := Option.some.inj (d7.symm.trans h6); have e1 := rp117; have e2 := rp92; rw [← show (I0 a6 0).toInt = v34.toInt from congrArg Int32.toInt c35, ht68, hc36.2.2.2.1] at e2; omega), trivial⟩)), trivial⟩
  · skip
    refine tr_aload_n dX10_without_8 rfl ?_
    refine q_iconst dX10_without_9 (by decide) ?_
    intro v132 h133
    refine q_callVi hE (M' := mX10_refusedTotal) (as := [_]) dX10_without_10 lk10_178 inX10_refusedTotal seX10_refusedTotal myX10_refusedTotal (by decide) ⟨by decide, by decide⟩ rfl (kR1 hS0.1 ta0) (Nat.le_of_ble_eq_true rfl) rfl rfl (by decide) (by decide) (fk_X10_refusedTotal hS0.1  ta0) ?_
    rintro v139 cn' K' N' I134 R135 L136 ⟨rfl, rfl, rfl, rfl, rfl, g137, p140, p141, -⟩
    have hS142 := hS0.tr g137 (by decide +kernel) (by decide +kernel)
    obtain ⟨v143, c144⟩ : ∃ v, I134 a0 17 = v := ⟨_, rfl⟩
    rw [c144] at p141
    exact tr_iret hZ dX10_without_13 rfl (by decide) (by decide) ⟨v139, rfl, rfl, rfl, rfl, rfl, hS142, (SkQ.st hK hW0 ta0 g137 (by decide +kernel) (by decide +kernel)), (NgQ.st hNg hW0 ta0 g137 (by decide +kernel) (by decide +kernel) (by decide +kernel)), (by first | exact Or.inl ⟨(fun q0 z0 => fun q1 z1 => by obtain rfl := Option.some.inj ((d2).symm.trans z0); obtain rfl := Option.some.inj ((d7).symm.trans z1); (try rw [c4]); (try rw [c9]); first | done | with_reducible assumption | omega), (by first | done | with_reducible assumption | omega), trivial⟩ | exact Or.inr (⟨(by first | done | with_reducible assumption | omega), (fun q0 z0 => fun q1 z1 => by obtain rfl := Option.some.inj ((d2).symm.trans z0); obtain rfl := Option.some.inj ((d7).symm.trans z1); (try rw [c4]); (try rw [c9]); first | done | with_reducible assumption | omega), (by exfalso; omega), trivial⟩)), trivial⟩
