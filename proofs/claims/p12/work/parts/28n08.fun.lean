def wik_X10_wake : List Nat := [73, 81, 768, 769, 778, 834, 2303, 2367, 2431, 2495, 2559, 2623, 2687, 2751, 2815, 2879, 2943, 3007, 3071, 3135, 3199, 3263, 3327, 3391]
def wrk_X10_wake : List Nat := [832, 833]
def Cs_X10_wake (T : Nat → Nat) (I0 : cz_I) (R0 : cz_R) (a0 : Nat) (gX : Nat → Nat → Int) (gE : Nat → Nat → Int) (gc : Nat → Int) (v : Int32) (I' : cz_I) (R' : cz_R) : Prop :=
  (((I0 a0 5).toInt = 1) ∧ (∀ al nw, R0 a0 2 = some al → R0 a0 6 = some nw → v.toInt = (bsP (wkF gX gE gc ((I0 al 3).toInt.toNat + (I0 nw 2).toInt.toNat)) (pw (gc 5)).toNat).1) ∧ True) ∨
  (((I0 a0 5).toInt = 0) ∧ (v.toInt = -1) ∧ True)
set_option maxHeartbeats 4000000 in
theorem fk_X10_wake {l : Launch} {T : Nat → Nat} {cn : Nat} {K N : Nat → Nat} {I0 : cz_I} {R0 : cz_R} {L0 : cz_L} {d : Int} (hW0 : Wf T cn K N I0 R0 d) (gX : Nat → Nat → Int) (gE : Nat → Nat → Int) (gc : Nat → Int) {a0 : Nat} (ta0 : T a0 = 1) (hX : EvQ I0 R0 a0 gX) (hK : SkQ I0 R0 a0 gX) (hD : DjS R0 a0) (hEa : ∀ al, R0 a0 2 = some al → CVa I0 R0 al gc gE) (hGd : GdE gc gE) (hMs : ∀ nw, R0 a0 6 = some nw → 0 ≤ (I0 nw 0).toInt ∧ (I0 nw 0).toInt ≤ 63) (hNg : NgQ I0 R0 a0 gX gE gc) (hDn : DjN R0 a0) (h1 : 1 ≤ gc 0 ∨ ∀ i, gc i = 0) : ConE l mX10_wake [.ref a0] cn K N I0 R0 L0 (ca_i (fun v cn' K' N' I' R' L' => cn = cn' ∧ K = K' ∧ N = N' ∧ L0 = L' ∧ St T cn K N d wik_X10_wake wrk_X10_wake I0 R0 I' R' ∧ (SkQ I' R0 a0 gX) ∧ (NgQ I' R' a0 gX gE gc) ∧ Cs_X10_wake T I0 R0 a0 gX gE gc v I' R' ∧ True)) := by
  refine ConE.of (by decide +kernel) rfl (Nat.le_of_ble_eq_true rfl) rfl (fun X hX hZ hE => ?_)
  subst hX
  have hS0 : St T cn K N d wik_X10_wake wrk_X10_wake I0 R0 I0 R0 := St.rf0 hW0
  obtain ⟨v1, c2⟩ : ∃ v, I0 a0 5 = v := ⟨_, rfl⟩
  have b3 := iv1_5 hW0 ta0 c2
  obtain ⟨a4, d5, ta4⟩ := rf1_2 hW0 ta0
  obtain ⟨a6, d7, ta6⟩ := rf1_6 hW0 ta0
  obtain ⟨a8, d9, ta8⟩ := rf1_8 hW0 ta0
  obtain ⟨a10, d11, ta10⟩ := rf1_10 hW0 ta0
  obtain ⟨a12, d13, ta12⟩ := rf1_13 hW0 ta0
  obtain ⟨a14, d15, ta14⟩ := rf1_14 hW0 ta0
  obtain ⟨v16, c17⟩ : ∃ v, I0 a4 0 = v := ⟨_, rfl⟩
  have b18 := iv2_0 hW0 ta4 c17
  obtain ⟨v19, c20⟩ : ∃ v, I0 a4 1 = v := ⟨_, rfl⟩
  have b21 := iv2_1 hW0 ta4 c20
  obtain ⟨v22, c23⟩ : ∃ v, I0 a4 3 = v := ⟨_, rfl⟩
  have b24 := iv2_3 hW0 ta4 c23
  obtain ⟨v25, c26⟩ : ∃ v, I0 a4 5 = v := ⟨_, rfl⟩
  have b27 := iv2_5 hW0 ta4 c26
  obtain ⟨v28, c29⟩ : ∃ v, I0 a4 9 = v := ⟨_, rfl⟩
  have b30 := iv2_9 hW0 ta4 c29
  obtain ⟨v31, c32⟩ : ∃ v, I0 a4 11 = v := ⟨_, rfl⟩
  have b33 := iv2_11 hW0 ta4 c32
  obtain ⟨v34, c35⟩ : ∃ v, I0 a6 0 = v := ⟨_, rfl⟩
  obtain ⟨v36, c37⟩ : ∃ v, I0 a6 2 = v := ⟨_, rfl⟩
  have b38 := iv8_2 hW0 ta6 c37
  have hc39 := (hEa _ d5).ct
  rw [c17, c20, c26, c29, c32] at hc39
  have hc39m := hMs _ d7
  have hc39g := hGd.own hc39m gX (-1) ((I0 a4 3).toInt.toNat + (I0 a6 2).toInt.toNat)
  rw [c35] at hc39m
  have hc39z0 : nzc ((NgZ I0 a4 a6 gX gE gc)) 0 = gc 0 := rfl
  have hc39z1 : nzc ((NgZ I0 a4 a6 gX gE gc)) 1 = gc 1 := rfl
  have hc39z3 : nzc ((NgZ I0 a4 a6 gX gE gc)) 3 = gc 3 := rfl
  have hc39z4 : nzc ((NgZ I0 a4 a6 gX gE gc)) 4 = gc 4 := rfl
  have hc39z5 : nzc ((NgZ I0 a4 a6 gX gE gc)) 5 = gc 5 := rfl
  refine tr_aload_n dX10_wake_0 rfl ?_
  refine q_getZ dX10_wake_1 fl10_95 (kR1 hS0.1 ta0) c2 ?_
  refine q_if_eq 18 dX10_wake_4 (by decide) (fun h40 => ?_) (fun h40 => ?_)
  · skip
    refine tr_aload_n dX10_wake_18 rfl ?_
    refine q_iconst dX10_wake_19 (by decide) ?_
    intro v41 h42
    refine q_callVi hE (M' := mX10_refused) (as := [_]) dX10_wake_20 lk10_79 inX10_refused seX10_refused myX10_refused (by decide) ⟨by decide, by decide⟩ rfl (kR1 hS0.1 ta0) (Nat.le_of_ble_eq_true rfl) rfl rfl (by decide) (by decide) (fk_X10_refused hS0.1  ta0) ?_
    rintro v48 cn' K' N' I43 R44 L45 ⟨rfl, rfl, rfl, rfl, rfl, g46, p49, p50, -⟩
    have hS51 := hS0.tr g46 (by decide +kernel) (by decide +kernel)
    obtain ⟨v52, c53⟩ : ∃ v, I43 a0 17 = v := ⟨_, rfl⟩
    rw [c53] at p50
    exact tr_iret hZ dX10_wake_23 rfl (by decide) (by decide) ⟨v48, rfl, rfl, rfl, rfl, rfl, hS51, (SkQ.st hK hW0 ta0 g46 (by decide +kernel) (by decide +kernel)), (NgQ.st hNg hW0 ta0 g46 (by decide +kernel) (by decide +kernel) (by decide +kernel)), (Or.inr (⟨(by (try rw [c2]); first | done | with_reducible assumption | omega), (by first | done | with_reducible assumption | omega), trivial⟩)), trivial⟩
  · skip
    refine tr_aload_n dX10_wake_7 rfl ?_
    refine tr_aload_n dX10_wake_8 rfl ?_
    obtain ⟨v54, c55⟩ : ∃ v, I0 a0 9 = v := ⟨_, rfl⟩
    have b56 := iv1_9 hS0.1 ta0 c55
    refine q_callVi hE (M' := mX10_bestCalls) (as := []) dX10_wake_9 lk10_241 inX10_bestCalls seX10_bestCalls myX10_bestCalls (by decide) ⟨by decide, by decide⟩ rfl (kR1 hS0.1 ta0) (Nat.le_of_ble_eq_true rfl) rfl rfl (by decide) (by decide) (fk_X10_bestCalls hS0.1 (gX) (gE) (gc) ta0 hX hK hD (fun al ha => hEa al ha) hGd hMs hNg hDn h1) ?_
    rintro v62 cn' K' N' I57 R58 L59 ⟨rfl, rfl, rfl, rfl, g60, h63, p64, rp65, rp66, dj67, -⟩
    have hS68 := hS0.tr g60 (by decide +kernel) (by decide +kernel)
    obtain ⟨v69, c70⟩ : ∃ v, I57 a0 9 = v := ⟨_, rfl⟩
    have b71 := iv1_9 hS68.1 ta0 c70
    rw [c55] at p64
    rw [c70] at p64
    rcases dj67 with ⟨p72, p73, rp74, -⟩
    · skip
      refine q_callVi hE (M' := mX10_answered) (as := [_]) dX10_wake_12 lk10_109 inX10_answered seX10_answered myX10_answered (by decide) ⟨by decide, by decide⟩ rfl (kR1 hS68.1 ta0) (Nat.le_of_ble_eq_true rfl) rfl rfl (by decide) (by decide) (fk_X10_answered hS68.1  ta0) ?_
      rintro v80 cn' K' N' I75 R76 L77 ⟨rfl, rfl, rfl, rfl, rfl, g78, p81, p82, -⟩
      have hS83 := hS68.tr g78 (by decide +kernel) (by decide +kernel)
      have c84 : I75 a0 9 = v69 := (g78.cell ta0 (by decide +kernel)).trans c70
      obtain ⟨v85, c86⟩ : ∃ v, I75 a0 17 = v := ⟨_, rfl⟩
      rw [c86] at p82
      refine tr_goto 23 dX10_wake_15 (by decide) ?_
      exact tr_iret hZ dX10_wake_23 rfl (by decide) (by decide) ⟨v80, rfl, rfl, rfl, rfl, rfl, hS83, (SkQ.st rp65 hW0 ta0 g78 (by decide +kernel) (by decide +kernel)), (NgQ.st rp66 hS83.1 ta0 g78 (by decide +kernel) (by decide +kernel) (by decide +kernel)), (Or.inl ⟨(by (try rw [c2]); first | done | with_reducible assumption | omega), (fun al nw h2 h6 => by obtain rfl := Option.some.inj (d5.symm.trans h2); obtain rfl := Option.some.inj (d7.symm.trans h6); have e := rp74 _ _ d5 d7; omega), trivial⟩), trivial⟩
def wik_X10_wakeTotal : List Nat := [73, 81, 768, 769, 778, 834, 2303, 2367, 2431, 2495, 2559, 2623, 2687, 2751, 2815, 2879, 2943, 3007, 3071, 3135, 3199, 3263, 3327, 3391]
def wrk_X10_wakeTotal : List Nat := [832, 833]
def Cs_X10_wakeTotal (T : Nat → Nat) (I0 : cz_I) (R0 : cz_R) (a0 : Nat) (gX : Nat → Nat → Int) (gE : Nat → Nat → Int) (gc : Nat → Int) (v : Int32) (I' : cz_I) (R' : cz_R) : Prop :=
  (((I0 a0 5).toInt = 0) ∧ (v.toInt = -100000) ∧ True) ∨
  (((I0 a0 5).toInt = 1) ∧ (∀ al nw, R0 a0 2 = some al → R0 a0 6 = some nw → v.toInt = wkF gX gE gc ((I0 al 3).toInt.toNat + (I0 nw 2).toInt.toNat) (bsP (wkF gX gE gc ((I0 al 3).toInt.toNat + (I0 nw 2).toInt.toNat)) (pw (gc 5)).toNat).1.toNat) ∧ True)
set_option maxHeartbeats 4000000 in
theorem fk_X10_wakeTotal {l : Launch} {T : Nat → Nat} {cn : Nat} {K N : Nat → Nat} {I0 : cz_I} {R0 : cz_R} {L0 : cz_L} {d : Int} (hW0 : Wf T cn K N I0 R0 d) (gX : Nat → Nat → Int) (gE : Nat → Nat → Int) (gc : Nat → Int) {a0 : Nat} (ta0 : T a0 = 1) (hX : EvQ I0 R0 a0 gX) (hK : SkQ I0 R0 a0 gX) (hD : DjS R0 a0) (hEa : ∀ al, R0 a0 2 = some al → CVa I0 R0 al gc gE) (hGd : GdE gc gE) (hMs : ∀ nw, R0 a0 6 = some nw → 0 ≤ (I0 nw 0).toInt ∧ (I0 nw 0).toInt ≤ 63) (hNg : NgQ I0 R0 a0 gX gE gc) (hDn : DjN R0 a0) (h1 : 1 ≤ gc 0 ∨ ∀ i, gc i = 0) : ConE l mX10_wakeTotal [.ref a0] cn K N I0 R0 L0 (ca_i (fun v cn' K' N' I' R' L' => cn = cn' ∧ K = K' ∧ N = N' ∧ L0 = L' ∧ St T cn K N d wik_X10_wakeTotal wrk_X10_wakeTotal I0 R0 I' R' ∧ (SkQ I' R0 a0 gX) ∧ (NgQ I' R' a0 gX gE gc) ∧ Cs_X10_wakeTotal T I0 R0 a0 gX gE gc v I' R' ∧ True)) := by
  refine ConE.of (by decide +kernel) rfl (Nat.le_of_ble_eq_true rfl) rfl (fun X hX hZ hE => ?_)
  subst hX
  have hS0 : St T cn K N d wik_X10_wakeTotal wrk_X10_wakeTotal I0 R0 I0 R0 := St.rf0 hW0
  obtain ⟨v1, c2⟩ : ∃ v, I0 a0 5 = v := ⟨_, rfl⟩
  have b3 := iv1_5 hW0 ta0 c2
  obtain ⟨a4, d5, ta4⟩ := rf1_2 hW0 ta0
  obtain ⟨a6, d7, ta6⟩ := rf1_6 hW0 ta0
  obtain ⟨a8, d9, ta8⟩ := rf1_8 hW0 ta0
  obtain ⟨a10, d11, ta10⟩ := rf1_10 hW0 ta0
  obtain ⟨a12, d13, ta12⟩ := rf1_13 hW0 ta0
  obtain ⟨a14, d15, ta14⟩ := rf1_14 hW0 ta0
  obtain ⟨v16, c17⟩ : ∃ v, I0 a4 0 = v := ⟨_, rfl⟩
  have b18 := iv2_0 hW0 ta4 c17
  obtain ⟨v19, c20⟩ : ∃ v, I0 a4 1 = v := ⟨_, rfl⟩
  have b21 := iv2_1 hW0 ta4 c20
  obtain ⟨v22, c23⟩ : ∃ v, I0 a4 3 = v := ⟨_, rfl⟩
  have b24 := iv2_3 hW0 ta4 c23
  obtain ⟨v25, c26⟩ : ∃ v, I0 a4 5 = v := ⟨_, rfl⟩
  have b27 := iv2_5 hW0 ta4 c26
  obtain ⟨v28, c29⟩ : ∃ v, I0 a4 9 = v := ⟨_, rfl⟩
  have b30 := iv2_9 hW0 ta4 c29
  obtain ⟨v31, c32⟩ : ∃ v, I0 a4 11 = v := ⟨_, rfl⟩
  have b33 := iv2_11 hW0 ta4 c32
  obtain ⟨v34, c35⟩ : ∃ v, I0 a6 0 = v := ⟨_, rfl⟩
  obtain ⟨v36, c37⟩ : ∃ v, I0 a6 2 = v := ⟨_, rfl⟩
  have b38 := iv8_2 hW0 ta6 c37
  have hc39 := (hEa _ d5).ct
  rw [c17, c20, c26, c29, c32] at hc39
  have hc39m := hMs _ d7
  have hc39g := hGd.own hc39m gX (-1) ((I0 a4 3).toInt.toNat + (I0 a6 2).toInt.toNat)
  rw [c35] at hc39m
  have hc39z0 : nzc ((NgZ I0 a4 a6 gX gE gc)) 0 = gc 0 := rfl
  have hc39z1 : nzc ((NgZ I0 a4 a6 gX gE gc)) 1 = gc 1 := rfl
  have hc39z3 : nzc ((NgZ I0 a4 a6 gX gE gc)) 3 = gc 3 := rfl
  have hc39z4 : nzc ((NgZ I0 a4 a6 gX gE gc)) 4 = gc 4 := rfl
  have hc39z5 : nzc ((NgZ I0 a4 a6 gX gE gc)) 5 = gc 5 := rfl
  refine tr_aload_n dX10_wakeTotal_0 rfl ?_
  refine q_getZ dX10_wakeTotal_1 fl10_95 (kR1 hS0.1 ta0) c2 ?_
  refine q_if_ne 13 dX10_wakeTotal_4 (by decide) (fun h40 => ?_) (fun h40 => ?_)
  · skip
    refine tr_aload_n dX10_wakeTotal_13 rfl ?_
    refine tr_getR dX10_wakeTotal_14 fl10_68 (kR1 hS0.1 ta0) d15 ?_
    refine tr_aload_n dX10_wakeTotal_17 rfl ?_
    refine tr_getR dX10_wakeTotal_18 fl10_16 (kR1 hS0.1 ta0) d5 ?_
    refine tr_aload_n dX10_wakeTotal_21 rfl ?_
    refine q_callVr hE (M' := mX10_presentSky) (as := []) dX10_wakeTotal_22 lk10_119 inX10_presentSky seX10_presentSky myX10_presentSky (by decide) ⟨by decide, by decide⟩ rfl (kR1 hS0.1 ta0) (Nat.le_of_ble_eq_true rfl) rfl rfl (by decide) (by decide) (fk_X10_presentSky hS0.1 (gX) (gE) (gc) ta0 hX hK hD (fun al ha => hEa al ha) hGd hMs hNg hDn h1) ?_
    rintro a46 cn' K' N' I41 R42 L43 ⟨rfl, rfl, rfl, rfl, rfl, g44, ta46, p47, rp48, rp49, rp50, rp51, rp52, -⟩
    have hS53 := hS0.tr g44 (by decide +kernel) (by decide +kernel)
    obtain ⟨v54, c55⟩ : ∃ v, I41 a0 9 = v := ⟨_, rfl⟩
    have b56 := iv1_9 hS53.1 ta0 c55
    rw [c55] at p47
    refine tr_aload_n dX10_wakeTotal_25 rfl ?_
    refine q_callVi hE (M' := mX10_bestCalls) (as := []) dX10_wakeTotal_26 lk10_241 inX10_bestCalls seX10_bestCalls myX10_bestCalls (by decide) ⟨by decide, by decide⟩ rfl (kR1 hS53.1 ta0) (Nat.le_of_ble_eq_true rfl) rfl rfl (by decide) (by decide) (fk_X10_bestCalls hS53.1 (gX) (gE) (gc) ta0 (EvQ.st hX hW0 ta0 hS53 (by decide +kernel)) (SkQ.of rp49) hD (fun al ha => by have h0 := (R13 hS53 (by decide +kernel) a0 2 (by rw [ta0]; decide)).symm.trans ha; exact (hEa al h0).gs hW0 (hW0.rs ta0 rfl rfl h0) hS53 (by decide +kernel) (by decide +kernel)) hGd (fun nw hn => by have h0 := (R13 hS53 (by decide +kernel) a0 6 (by rw [ta0]; decide)).symm.trans hn; rw [hS53.cell (hW0.rs ta0 rfl rfl h0 : T nw = 8) (by decide +kernel)]; exact hMs nw h0) rp52 hDn h1) ?_
    rintro v62 cn' K' N' I57 R58 L59 ⟨rfl, rfl, rfl, rfl, g60, h63, p64, rp65, rp66, dj67, -⟩
    have hS68 := hS53.tr g60 (by decide +kernel) (by decide +kernel)
    obtain ⟨v69, c70⟩ : ∃ v, I57 a0 9 = v := ⟨_, rfl⟩
    have b71 := iv1_9 hS68.1 ta0 c70
    rw [c55] at p64
    rw [c70] at p64
    rcases dj67 with ⟨p72, p73, rp74, -⟩
    · skip
      have hb75 := rp74 _ _ (d5) (d7)
      rw [hS53.cell ta4 (by decide +kernel), hS53.cell ta6 (by decide +kernel)] at hb75
      refine tr_aload_n dX10_wakeTotal_29 rfl ?_
      refine q_callVi hE (M' := mX10_allTurners) (as := []) dX10_wakeTotal_30 lk10_184 inX10_allTurners seX10_allTurners myX10_allTurners (by decide) ⟨by decide, by decide⟩ rfl (kR1 hS68.1 ta0) (Nat.le_of_ble_eq_true rfl) rfl rfl (by decide) (by decide) (fk_X10_allTurners hS68.1  ta0) ?_
      rintro v81 cn' K' N' I76 R77 L78 ⟨rfl, rfl, rfl, rfl, rfl, rfl, rp82, -⟩
      have ht83 := rp82 _ ((hS68.rcell ta0 (by decide +kernel)).trans d5)
      rw [((hS68.cell ta4 (by decide +kernel)).trans c29)] at ht83
      have ht83b := pw_all (c := v28.toInt) (by omega) (by omega)
      obtain rfl : a8 = a46 := Option.some.inj (d9.symm.trans rp48)
      have hz84m : nzM (mkZ gX (-1) ((I0 a4 3).toInt.toNat + (I0 a6 2).toInt.toNat) gE gc v62.toInt v81.toInt) = v62.toInt := rfl
      have hz84w : nzW (mkZ gX (-1) ((I0 a4 3).toInt.toNat + (I0 a6 2).toInt.toNat) gE gc v62.toInt v81.toInt) = v81.toInt := rfl
      have kw85k : SkW I57 R58 a0 gX := (SkQ.rc rp65 hW0 ta0 (R13 hS68 (by decide +kernel))) (by rw [c70]; omega)
      have kw85t : StW I57 R58 a0 gX gE gc := rp66.1 (by rw [c70]; omega)
      have kw85 : SkZ I57 R58 a8 (mkZ gX (-1) ((I57 a4 3).toInt.toNat + (I57 a6 2).toInt.toNat) gE gc v62.toInt v81.toInt) := SkZ.cl (SkZ.own kw85k kw85t ((hS68.rcell ta0 (by decide +kernel)).trans d9) ((hS68.rcell ta0 (by decide +kernel)).trans d5) ((hS68.rcell ta0 (by decide +kernel)).trans d7) ((hEa _ d5).gs hW0 ta4 hS68 (by decide +kernel) (by decide +kernel)) hGd)
      rw [hS68.cell ta4 (by decide +kernel), hS68.cell ta6 (by decide +kernel)] at kw85
      refine q_callVv hE (M' := mX5_play) (as := [_, _, _, _]) dX10_wakeTotal_33 lk10_188 inX5_play seX5_play myX5_play (by decide) ⟨by decide, by decide⟩ rfl (kR13 hS68.1 ta14) (Nat.le_of_ble_eq_true rfl) rfl rfl (by decide) (by decide) (fk_X5_play hS68.1 ((mkZ gX (-1) ((I0 a4 3).toInt.toNat + (I0 a6 2).toInt.toNat) gE gc v62.toInt v81.toInt)) ta14 ta4 ta8 (by omega) (by omega) ((hEa _ d5).gs hW0 ta4 hS68 (by decide +kernel) (by decide +kernel)) kw85 (hGd _ _ _ _ _ (by omega) (by omega)) (by first | done | with_reducible assumption | omega) (by first | done | with_reducible assumption | omega)) ?_
      rintro cn' K' N' I86 R87 L88 ⟨rfl, rfl, rfl, rfl, g89, rp92, rp93, rp94, rp95, rp96, rp97, -⟩
      have hS98 := hS68.tr g89 (by decide +kernel) (by decide +kernel)
      have c99 : I86 a0 9 = v69 := (g89.cell ta0 (by decide +kernel)).trans c70
      have hp100P : NgP I86 R87 a14 (mkZ gX (-1) ((I0 a4 3).toInt.toNat + (I0 a6 2).toInt.toNat) gE gc v62.toInt v81.toInt) := NgP.mk ((hEa _ d5).gs hW0 ta4 hS68 (by decide +kernel) (by decide +kernel)) kw85 g89 hS68.1 ta14 ta4 ta8 rp92 rp93 (congrArg Int32.toInt rp94) (by decide +kernel) (by decide +kernel)
      have hp100R : NgR I86 R87 a14 (mkZ gX (-1) ((I0 a4 3).toInt.toNat + (I0 a6 2).toInt.toNat) gE gc v62.toInt v81.toInt) (gc 0).toNat := rp95.rc (fun k k1 k2 => R13w g89 (by decide +kernel) ta14 k1 k2)
      have hp100G : GdN (mkZ gX (-1) ((I0 a4 3).toInt.toNat + (I0 a6 2).toInt.toNat) gE gc v62.toInt v81.toInt) := hGd _ _ _ _ _ (by omega) (by omega)
      refine tr_aload_n dX10_wakeTotal_36 rfl ?_
      refine tr_aload_n dX10_wakeTotal_37 rfl ?_
      refine tr_getR dX10_wakeTotal_38 fl10_68 (kR1 hS98.1 ta0) ((hS98.rcell ta0 (by decide +kernel)).trans d15) ?_
      refine q_callVi hE (M' := mX5_sum) (as := []) dX10_wakeTotal_41 lk10_192 inX5_sum seX5_sum myX5_sum (by decide) ⟨by decide, by decide⟩ rfl (kR13 hS98.1 ta14) (Nat.le_of_ble_eq_true rfl) rfl rfl (by decide) (by decide) (fk_X5_sum hS98.1 ((mkZ gX (-1) ((I0 a4 3).toInt.toNat + (I0 a6 2).toInt.toNat) gE gc v62.toInt v81.toInt)) ta14 hp100P hp100G hp100R h1) ?_
      rintro v106 cn' K' N' I101 R102 L103 ⟨rfl, rfl, rfl, rfl, rfl, rfl, h107, rp108, -⟩
      refine q_callVi hE (M' := mX10_answered) (as := [_]) dX10_wakeTotal_44 lk10_109 inX10_answered seX10_answered myX10_answered (by decide) ⟨by decide, by decide⟩ rfl (kR1 hS98.1 ta0) (Nat.le_of_ble_eq_true rfl) rfl rfl (by decide) (by decide) (fk_X10_answered hS98.1  ta0) ?_
      rintro v114 cn' K' N' I109 R110 L111 ⟨rfl, rfl, rfl, rfl, rfl, g112, p115, p116, -⟩
      have hS117 := hS98.tr g112 (by decide +kernel) (by decide +kernel)
      have c118 : I109 a0 9 = v69 := (g112.cell ta0 (by decide +kernel)).trans c99
      obtain ⟨v119, c120⟩ : ∃ v, I109 a0 17 = v := ⟨_, rfl⟩
      rw [c120] at p116
      exact tr_iret hZ dX10_wakeTotal_47 rfl (by decide) (by decide) ⟨v114, rfl, rfl, rfl, rfl, rfl, hS117, (SkQ.st (SkQ.st rp65 hW0 ta0 g89 (by decide +kernel) (by decide +kernel)) hW0 ta0 g112 (by decide +kernel) (by decide +kernel)), (NgQ.st (NgQ.fn rp66 hS68.1 ta0 g89 (DjN.st hDn hW0 ta0 hS68 (by decide +kernel) (by decide +kernel)) ((R13 hS68 (by decide +kernel) a0 14 (by rw [ta0]; decide)).trans d15) rp96 rp97 (by decide +kernel) (by decide +kernel) (by decide +kernel)) hS117.1 ta0 g112 (by decide +kernel) (by decide +kernel) (by decide +kernel)), (Or.inr (⟨(by (try rw [c2]); first | done | with_reducible assumption | omega), (fun al nw h2 h6 => by obtain rfl := Option.some.inj (d5.symm.trans h2); obtain rfl := Option.some.inj (d7.symm.trans h6); have eb := hb75; rw [show ((bsP (wkF gX gE gc ((I0 a4 3).toInt.toNat + (I0 a6 2).toInt.toNat)) (pw (gc 5)).toNat).1 : Int) = v62.toInt from eb.symm]; show _ = toZ (mkZ gX (-1) ((I0 a4 3).toInt.toNat + (I0 a6 2).toInt.toNat) gE gc ((v62.toInt.toNat : Nat) : Int) (pw (gc 4) - 1)); rw [show ((v62.toInt.toNat : Nat) : Int) = v62.toInt by omega, ← hc39.2.2.2.1, ← ht83]; have e := rp108; omega), trivial⟩)), trivial⟩
  · skip
    refine tr_aload_n dX10_wakeTotal_7 rfl ?_
    refine q_iconst dX10_wakeTotal_8 (by decide) ?_
    intro v121 h122
    refine q_callVi hE (M' := mX10_refusedTotal) (as := [_]) dX10_wakeTotal_9 lk10_178 inX10_refusedTotal seX10_refusedTotal myX10_refusedTotal (by decide) ⟨by decide, by decide⟩ rfl (kR1 hS0.1 ta0) (Nat.le_of_ble_eq_true rfl) rfl rfl (by decide) (by decide) (fk_X10_refusedTotal hS0.1  ta0) ?_
    rintro v128 cn' K' N' I123 R124 L125 ⟨rfl, rfl, rfl, rfl, rfl, g126, p129, p130, -⟩
    have hS131 := hS0.tr g126 (by decide +kernel) (by decide +kernel)
    obtain ⟨v132, c133⟩ : ∃ v, I123 a0 17 = v := ⟨_, rfl⟩
    rw [c133] at p130
    exact tr_iret hZ dX10_wakeTotal_12 rfl (by decide) (by decide) ⟨v128, rfl, rfl, rfl, rfl, rfl, hS131, (SkQ.st hK hW0 ta0 g126 (by decide +kernel) (by decide +kernel)), (NgQ.st hNg hW0 ta0 g126 (by decide +kernel) (by decide +kernel) (by decide +kernel)), (Or.inl ⟨(by (try rw [c2]); first | done | with_reducible assumption | omega), (by first | done | with_reducible assumption | omega), trivial⟩), trivial⟩
def wik_X10_fewest : List Nat := [73, 75, 81, 768, 769, 778, 834, 2303, 2367, 2431, 2495, 2559, 2623, 2687, 2751, 2815, 2879, 2943, 3007, 3071, 3135, 3199, 3263, 3327, 3391]
def wrk_X10_fewest : List Nat := [832, 833]
def Cs_X10_fewest (T : Nat → Nat) (I0 : cz_I) (R0 : cz_R) (a0 : Nat) (gX : Nat → Nat → Int) (gE : Nat → Nat → Int) (gc : Nat → Int) (v : Int32) (I' : cz_I) (R' : cz_R) : Prop :=
  ((-2 ≤ v.toInt) ∧ (v.toInt ≤ 63) ∧ True)
set_option maxHeartbeats 4000000 in
theorem fk_X10_fewest {l : Launch} {T : Nat → Nat} {cn : Nat} {K N : Nat → Nat} {I0 : cz_I} {R0 : cz_R} {L0 : cz_L} {d : Int} (hW0 : Wf T cn K N I0 R0 d) (gX : Nat → Nat → Int) (gE : Nat → Nat → Int) (gc : Nat → Int) {a0 : Nat} (ta0 : T a0 = 1) (hX : EvQ I0 R0 a0 gX) (hK : SkQ I0 R0 a0 gX) (hD : DjS R0 a0) (hEa : ∀ al, R0 a0 2 = some al → CVa I0 R0 al gc gE) (hGd : GdE gc gE) (hMs : ∀ nw, R0 a0 6 = some nw → 0 ≤ (I0 nw 0).toInt ∧ (I0 nw 0).toInt ≤ 63) (hNg : NgQ I0 R0 a0 gX gE gc) (hDn : DjN R0 a0) (h1 : 1 ≤ gc 0 ∨ ∀ i, gc i = 0) : ConE l mX10_fewest [.ref a0] cn K N I0 R0 L0 (ca_i (fun v cn' K' N' I' R' L' => cn = cn' ∧ K = K' ∧ N = N' ∧ L0 = L' ∧ St T cn K N d wik_X10_fewest wrk_X10_fewest I0 R0 I' R' ∧ (SkQ I' R0 a0 gX) ∧ (NgQ I' R' a0 gX gE gc) ∧ Cs_X10_fewest T I0 R0 a0 gX gE gc v I' R' ∧ True)) := by
  refine ConE.of (by decide +kernel) rfl (Nat.le_of_ble_eq_true rfl) rfl (fun X hX hZ hE => ?_)
  subst hX
  have hS0 : St T cn K N d wik_X10_fewest wrk_X10_fewest I0 R0 I0 R0 := St.rf0 hW0
  obtain ⟨a1, d2, ta1⟩ := rf1_2 hW0 ta0
  obtain ⟨a3, d4, ta3⟩ := rf1_6 hW0 ta0
  obtain ⟨a5, d6, ta5⟩ := rf1_8 hW0 ta0
  obtain ⟨a7, d8, ta7⟩ := rf1_10 hW0 ta0
  obtain ⟨a9, d10, ta9⟩ := rf1_13 hW0 ta0
  obtain ⟨a11, d12, ta11⟩ := rf1_14 hW0 ta0
  obtain ⟨v13, c14⟩ : ∃ v, I0 a1 0 = v := ⟨_, rfl⟩
  have b15 := iv2_0 hW0 ta1 c14
  obtain ⟨v16, c17⟩ : ∃ v, I0 a1 1 = v := ⟨_, rfl⟩
  have b18 := iv2_1 hW0 ta1 c17
  obtain ⟨v19, c20⟩ : ∃ v, I0 a1 3 = v := ⟨_, rfl⟩
  have b21 := iv2_3 hW0 ta1 c20
  obtain ⟨v22, c23⟩ : ∃ v, I0 a1 5 = v := ⟨_, rfl⟩
  have b24 := iv2_5 hW0 ta1 c23
  obtain ⟨v25, c26⟩ : ∃ v, I0 a1 9 = v := ⟨_, rfl⟩
  have b27 := iv2_9 hW0 ta1 c26
  obtain ⟨v28, c29⟩ : ∃ v, I0 a1 11 = v := ⟨_, rfl⟩
  have b30 := iv2_11 hW0 ta1 c29
  obtain ⟨v31, c32⟩ : ∃ v, I0 a3 0 = v := ⟨_, rfl⟩
  obtain ⟨v33, c34⟩ : ∃ v, I0 a3 2 = v := ⟨_, rfl⟩
  have b35 := iv8_2 hW0 ta3 c34
  have hc36 := (hEa _ d2).ct
  rw [c14, c17, c23, c26, c29] at hc36
  have hc36m := hMs _ d4
  have hc36g := hGd.own hc36m gX (-1) ((I0 a1 3).toInt.toNat + (I0 a3 2).toInt.toNat)
  rw [c32] at hc36m
  have hc36z0 : nzc ((NgZ I0 a1 a3 gX gE gc)) 0 = gc 0 := rfl
  have hc36z1 : nzc ((NgZ I0 a1 a3 gX gE gc)) 1 = gc 1 := rfl
  have hc36z3 : nzc ((NgZ I0 a1 a3 gX gE gc)) 3 = gc 3 := rfl
  have hc36z4 : nzc ((NgZ I0 a1 a3 gX gE gc)) 4 = gc 4 := rfl
  have hc36z5 : nzc ((NgZ I0 a1 a3 gX gE gc)) 5 = gc 5 := rfl
  refine tr_aload_n dX10_fewest_0 rfl ?_
  obtain ⟨v37, c38⟩ : ∃ v, I0 a0 5 = v := ⟨_, rfl⟩
  have b39 := iv1_5 hW0 ta0 c38
  refine q_getZ dX10_fewest_1 fl10_95 (kR1 hS0.1 ta0) c38 ?_
  refine q_if_ne 13 dX10_fewest_4 (by decide) (fun h40 => ?_) (fun h40 => ?_)
  · skip
    refine tr_aload_n dX10_fewest_13 rfl ?_
    refine q_callVi hE (M' := mX10_fewestTurners) (as := []) dX10_fewest_14 lk10_244 inX10_fewestTurners seX10_fewestTurners myX10_fewestTurners (by decide) ⟨by decide, by decide⟩ rfl (kR1 hS0.1 ta0) (Nat.le_of_ble_eq_true rfl) rfl rfl (by decide) (by decide) (fk_X10_fewestTurners hS0.1 (gX) (gE) (gc) ta0 hX hK hD (fun al ha => hEa al ha) hGd hMs hNg hDn h1) ?_
    rintro v46 cn' K' N' I41 R42 L43 ⟨rfl, rfl, rfl, rfl, g44, h47, rp48, rp49, dj50, -⟩
    have hS51 := hS0.tr g44 (by decide +kernel) (by decide +kernel)
    rcases dj50 with ⟨p52, p53, p54, -⟩
    · skip
      refine tr_istore_n dX10_fewest_17 (by decide) (by decide) ?_
      refine tr_aload_n dX10_fewest_18 rfl ?_
      refine tr_iload_n dX10_fewest_19 rfl ?_
      refine q_bipush dX10_fewest_20 (by decide +kernel) ?_
      intro v55 h56
      refine q_icmp_ne 30 dX10_fewest_22 (by decide) (fun h57 => ?_) (fun h57 => ?_)
      · skip
        refine tr_iload_n dX10_fewest_30 rfl ?_
        refine q_callSi hE (M' := mJ6_bitCount_0f7a4) (as := [_]) dX10_fewest_31 lk10_247 inJ6_bitCount_0f7a4 myJ6_bitCount_0f7a4 ⟨by decide, by decide⟩ rfl (Nat.le_of_ble_eq_true rfl) rfl rfl (by decide) (by decide) (fk_J6_bitCount_0f7a4 hS51.1  (by omega)) ?_
        rintro v63 cn' K' N' I58 R59 L60 ⟨rfl, rfl, rfl, rfl, rfl, rfl, rp64, -⟩
        have pcv63 := pcI_b (x := v46.toInt)
        rw [← rp64] at pcv63
        refine q_callVi hE (M' := mX10_answered) (as := [_]) dX10_fewest_34 lk10_109 inX10_answered seX10_answered myX10_answered (by decide) ⟨by decide, by decide⟩ rfl (kR1 hS51.1 ta0) (Nat.le_of_ble_eq_true rfl) rfl rfl (by decide) (by decide) (fk_X10_answered hS51.1  ta0) ?_
        rintro v70 cn' K' N' I65 R66 L67 ⟨rfl, rfl, rfl, rfl, rfl, g68, p71, p72, -⟩
        have hS73 := hS51.tr g68 (by decide +kernel) (by decide +kernel)
        obtain ⟨v74, c75⟩ : ∃ v, I65 a0 17 = v := ⟨_, rfl⟩
        rw [c75] at p72
        exact tr_iret hZ dX10_fewest_37 rfl (by decide) (by decide) ⟨v70, rfl, rfl, rfl, rfl, rfl, hS73, (SkQ.st rp48 hW0 ta0 g68 (by decide +kernel) (by decide +kernel)), (NgQ.st rp49 hS73.1 ta0 g68 (by decide +kernel) (by decide +kernel) (by decide +kernel)), (⟨(by first | done | with_reducible assumption | omega), (by first | done | with_reducible assumption | omega), trivial⟩), trivial⟩
      · skip
        refine q_bipush dX10_fewest_25 (by decide +kernel) ?_
        intro v76 h77
        refine tr_goto 34 dX10_fewest_27 (by decide) ?_
        refine q_callVi hE (M' := mX10_answered) (as := [_]) dX10_fewest_34 lk10_109 inX10_answered seX10_answered myX10_answered (by decide) ⟨by decide, by decide⟩ rfl (kR1 hS51.1 ta0) (Nat.le_of_ble_eq_true rfl) rfl rfl (by decide) (by decide) (fk_X10_answered hS51.1  ta0) ?_
        rintro v83 cn' K' N' I78 R79 L80 ⟨rfl, rfl, rfl, rfl, rfl, g81, p84, p85, -⟩
        have hS86 := hS51.tr g81 (by decide +kernel) (by decide +kernel)
        obtain ⟨v87, c88⟩ : ∃ v, I78 a0 17 = v := ⟨_, rfl⟩
        rw [c88] at p85
        exact tr_iret hZ dX10_fewest_37 rfl (by decide) (by decide) ⟨v83, rfl, rfl, rfl, rfl, rfl, hS86, (SkQ.st rp48 hW0 ta0 g81 (by decide +kernel) (by decide +kernel)), (NgQ.st rp49 hS86.1 ta0 g81 (by decide +kernel) (by decide +kernel) (by decide +kernel)), (⟨(by first | done | with_reducible assumption | omega), (by first | done | with_reducible assumption | omega), trivial⟩), trivial⟩
  · skip
    refine tr_aload_n dX10_fewest_7 rfl ?_
    refine q_iconst dX10_fewest_8 (by decide) ?_
    intro v89 h90
    refine q_callVi hE (M' := mX10_refused) (as := [_]) dX10_fewest_9 lk10_79 inX10_refused seX10_refused myX10_refused (by decide) ⟨by decide, by decide⟩ rfl (kR1 hS0.1 ta0) (Nat.le_of_ble_eq_true rfl) rfl rfl (by decide) (by decide) (fk_X10_refused hS0.1  ta0) ?_
    rintro v96 cn' K' N' I91 R92 L93 ⟨rfl, rfl, rfl, rfl, rfl, g94, p97, p98, -⟩
    have hS99 := hS0.tr g94 (by decide +kernel) (by decide +kernel)
    obtain ⟨v100, c101⟩ : ∃ v, I91 a0 17 = v := ⟨_, rfl⟩
    rw [c101] at p98
    exact tr_iret hZ dX10_fewest_12 rfl (by decide) (by decide) ⟨v96, rfl, rfl, rfl, rfl, rfl, hS99, (SkQ.st hK hW0 ta0 g94 (by decide +kernel) (by decide +kernel)), (NgQ.st hNg hW0 ta0 g94 (by decide +kernel) (by decide +kernel) (by decide +kernel)), (⟨(by first | done | with_reducible assumption | omega), (by first | done | with_reducible assumption | omega), trivial⟩), trivial⟩
def wik_X10_fewestBy : List Nat := [73, 75, 81, 768, 769, 778, 834, 2303, 2367, 2431, 2495, 2559, 2623, 2687, 2751, 2815, 2879, 2943, 3007, 3071, 3135, 3199, 3263, 3327, 3391]
def wrk_X10_fewestBy : List Nat := [832, 833]
def Cs_X10_fewestBy (T : Nat → Nat) (I0 : cz_I) (R0 : cz_R) (a0 : Nat) (gX : Nat → Nat → Int) (gE : Nat → Nat → Int) (gc : Nat → Int) (v : Int32) (I' : cz_I) (R' : cz_R) : Prop :=
  ((-2 ≤ v.toInt) ∧ (v.toInt ≤ 63) ∧ True)
set_option maxHeartbeats 4000000 in
theorem fk_X10_fewestBy {l : Launch} {T : Nat → Nat} {cn : Nat} {K N : Nat → Nat} {I0 : cz_I} {R0 : cz_R} {L0 : cz_L} {d : Int} (hW0 : Wf T cn K N I0 R0 d) (gX : Nat → Nat → Int) (gE : Nat → Nat → Int) (gc : Nat → Int) {a0 : Nat} (ta0 : T a0 = 1) (hX : EvQ I0 R0 a0 gX) (hK : SkQ I0 R0 a0 gX) (hD : DjS R0 a0) (hEa : ∀ al, R0 a0 2 = some al → CVa I0 R0 al gc gE) (hGd : GdE gc gE) (hMs : ∀ nw, R0 a0 6 = some nw → 0 ≤ (I0 nw 0).toInt ∧ (I0 nw 0).toInt ≤ 63) (hNg : NgQ I0 R0 a0 gX gE gc) (hDn : DjN R0 a0) (h1 : 1 ≤ gc 0 ∨ ∀ i, gc i = 0) : ConE l mX10_fewestBy [.ref a0] cn K N I0 R0 L0 (ca_i (fun v cn' K' N' I' R' L' => cn = cn' ∧ K = K' ∧ N = N' ∧ L0 = L' ∧ St T cn K N d wik_X10_fewestBy wrk_X10_fewestBy I0 R0 I' R' ∧ (SkQ I' R0 a0 gX) ∧ (NgQ I' R' a0 gX gE gc) ∧ Cs_X10_fewestBy T I0 R0 a0 gX gE gc v I' R' ∧ True)) := by
  refine ConE.of (by decide +kernel) rfl (Nat.le_of_ble_eq_true rfl) rfl (fun X hX hZ hE => ?_)
  subst hX
  have hS0 : St T cn K N d wik_X10_fewestBy wrk_X10_fewestBy I0 R0 I0 R0 := St.rf0 hW0
  obtain ⟨a1, d2, ta1⟩ := rf1_2 hW0 ta0
  obtain ⟨a3, d4, ta3⟩ := rf1_6 hW0 ta0
  obtain ⟨a5, d6, ta5⟩ := rf1_8 hW0 ta0
  obtain ⟨a7, d8, ta7⟩ := rf1_10 hW0 ta0
  obtain ⟨a9, d10, ta9⟩ := rf1_13 hW0 ta0
  obtain ⟨a11, d12, ta11⟩ := rf1_14 hW0 ta0
  obtain ⟨v13, c14⟩ : ∃ v, I0 a1 0 = v := ⟨_, rfl⟩
  have b15 := iv2_0 hW0 ta1 c14
  obtain ⟨v16, c17⟩ : ∃ v, I0 a1 1 = v := ⟨_, rfl⟩
  have b18 := iv2_1 hW0 ta1 c17
  obtain ⟨v19, c20⟩ : ∃ v, I0 a1 3 = v := ⟨_, rfl⟩
  have b21 := iv2_3 hW0 ta1 c20
  obtain ⟨v22, c23⟩ : ∃ v, I0 a1 5 = v := ⟨_, rfl⟩
  have b24 := iv2_5 hW0 ta1 c23
  obtain ⟨v25, c26⟩ : ∃ v, I0 a1 9 = v := ⟨_, rfl⟩
  have b27 := iv2_9 hW0 ta1 c26
  obtain ⟨v28, c29⟩ : ∃ v, I0 a1 11 = v := ⟨_, rfl⟩
  have b30 := iv2_11 hW0 ta1 c29
  obtain ⟨v31, c32⟩ : ∃ v, I0 a3 0 = v := ⟨_, rfl⟩
  obtain ⟨v33, c34⟩ : ∃ v, I0 a3 2 = v := ⟨_, rfl⟩
  have b35 := iv8_2 hW0 ta3 c34
  have hc36 := (hEa _ d2).ct
  rw [c14, c17, c23, c26, c29] at hc36
  have hc36m := hMs _ d4
  have hc36g := hGd.own hc36m gX (-1) ((I0 a1 3).toInt.toNat + (I0 a3 2).toInt.toNat)
  rw [c32] at hc36m
  have hc36z0 : nzc ((NgZ I0 a1 a3 gX gE gc)) 0 = gc 0 := rfl
  have hc36z1 : nzc ((NgZ I0 a1 a3 gX gE gc)) 1 = gc 1 := rfl
  have hc36z3 : nzc ((NgZ I0 a1 a3 gX gE gc)) 3 = gc 3 := rfl
  have hc36z4 : nzc ((NgZ I0 a1 a3 gX gE gc)) 4 = gc 4 := rfl
  have hc36z5 : nzc ((NgZ I0 a1 a3 gX gE gc)) 5 = gc 5 := rfl
  refine tr_aload_n dX10_fewestBy_0 rfl ?_
  obtain ⟨v37, c38⟩ : ∃ v, I0 a0 5 = v := ⟨_, rfl⟩
  have b39 := iv1_5 hW0 ta0 c38
  refine q_getZ dX10_fewestBy_1 fl10_95 (kR1 hS0.1 ta0) c38 ?_
  refine q_if_eq 18 dX10_fewestBy_4 (by decide) (fun h40 => ?_) (fun h40 => ?_)
  · skip
    refine tr_aload_n dX10_fewestBy_18 rfl ?_
    refine q_iconst dX10_fewestBy_19 (by decide) ?_
    intro v41 h42
    refine q_callVi hE (M' := mX10_refused) (as := [_]) dX10_fewestBy_20 lk10_79 inX10_refused seX10_refused myX10_refused (by decide) ⟨by decide, by decide⟩ rfl (kR1 hS0.1 ta0) (Nat.le_of_ble_eq_true rfl) rfl rfl (by decide) (by decide) (fk_X10_refused hS0.1  ta0) ?_
    rintro v48 cn' K' N' I43 R44 L45 ⟨rfl, rfl, rfl, rfl, rfl, g46, p49, p50, -⟩
    have hS51 := hS0.tr g46 (by decide +kernel) (by decide +kernel)
    obtain ⟨v52, c53⟩ : ∃ v, I43 a0 17 = v := ⟨_, rfl⟩
    rw [c53] at p50
    exact tr_iret hZ dX10_fewestBy_23 rfl (by decide) (by decide) ⟨v48, rfl, rfl, rfl, rfl, rfl, hS51, (SkQ.st hK hW0 ta0 g46 (by decide +kernel) (by decide +kernel)), (NgQ.st hNg hW0 ta0 g46 (by decide +kernel) (by decide +kernel) (by decide +kernel)), (⟨(by first | done | with_reducible assumption | omega), (by first | done | with_reducible assumption | omega), trivial⟩), trivial⟩
  · skip
    refine tr_aload_n dX10_fewestBy_7 rfl ?_
    refine tr_aload_n dX10_fewestBy_8 rfl ?_
    refine q_callVi hE (M' := mX10_fewestTurners) (as := []) dX10_fewestBy_9 lk10_244 inX10_fewestTurners seX10_fewestTurners myX10_fewestTurners (by decide) ⟨by decide, by decide⟩ rfl (kR1 hS0.1 ta0) (Nat.le_of_ble_eq_true rfl) rfl rfl (by decide) (by decide) (fk_X10_fewestTurners hS0.1 (gX) (gE) (gc) ta0 hX hK hD (fun al ha => hEa al ha) hGd hMs hNg hDn h1) ?_
    rintro v59 cn' K' N' I54 R55 L56 ⟨rfl, rfl, rfl, rfl, g57, h60, rp61, rp62, dj63, -⟩
    have hS64 := hS0.tr g57 (by decide +kernel) (by decide +kernel)
    rcases dj63 with ⟨p65, p66, p67, -⟩
    · skip
      refine q_callVi hE (M' := mX10_answered) (as := [_]) dX10_fewestBy_12 lk10_109 inX10_answered seX10_answered myX10_answered (by decide) ⟨by decide, by decide⟩ rfl (kR1 hS64.1 ta0) (Nat.le_of_ble_eq_true rfl) rfl rfl (by decide) (by decide) (fk_X10_answered hS64.1  ta0) ?_
      rintro v73 cn' K' N' I68 R69 L70 ⟨rfl, rfl, rfl, rfl, rfl, g71, p74, p75, -⟩
      have hS76 := hS64.tr g71 (by decide +kernel) (by decide +kernel)
      obtain ⟨v77, c78⟩ : ∃ v, I68 a0 17 = v := ⟨_, rfl⟩
      rw [c78] at p75
      refine tr_goto 23 dX10_fewestBy_15 (by decide) ?_
      exact tr_iret hZ dX10_fewestBy_23 rfl (by decide) (by decide) ⟨v73, rfl, rfl, rfl, rfl, rfl, hS76, (SkQ.st rp61 hW0 ta0 g71 (by decide +kernel) (by decide +kernel)), (NgQ.st rp62 hS76.1 ta0 g71 (by decide +kernel) (by decide +kernel) (by decide +kernel)), (⟨(by first | done | with_reducible assumption | omega), (by first | done | with_reducible assumption | omega), trivial⟩), trivial⟩
set_option maxHeartbeats 4000000 in
theorem fk_X10_isSlice {l : Launch} {T : Nat → Nat} {cn : Nat} {K N : Nat → Nat} {I0 : cz_I} {R0 : cz_R} {L0 : cz_L} {d : Int} (hW0 : Wf T cn K N I0 R0 d)  {a0 : Nat} (ta0 : T a0 = 1) {x1 : Int32} : ConE l mX10_isSlice [.ref a0, .int x1] cn K N I0 R0 L0 (ca_i (fun v cn' K' N' I' R' L' => cn = cn' ∧ K = K' ∧ N = N' ∧ I0 = I' ∧ R0 = R' ∧ L0 = L' ∧ (0 ≤ v.toInt ∧ v.toInt ≤ 1) ∧ (∀ b1, R0 a0 2 = some b1 → (v.toInt = 1 → (0 ≤ x1.toInt ∧ x1.toInt < (I0 b1 13).toInt))) ∧ (∀ b1, R0 a0 2 = some b1 → (v.toInt = 0 → (x1.toInt < 0 ∨ x1.toInt ≥ (I0 b1 13).toInt))) ∧ True)) := by
  refine ConE.of (by decide +kernel) rfl (Nat.le_of_ble_eq_true rfl) rfl (fun X hX hZ hE => ?_)
  subst hX
  obtain ⟨a1, d2, ta1⟩ := rf1_2 hW0 ta0
  obtain ⟨v3, c4⟩ : ∃ v, I0 a1 13 = v := ⟨_, rfl⟩
  have b5 := iv2_13 hW0 ta1 c4
  refine tr_iload_n dX10_isSlice_0 rfl ?_
  refine q_if_lt 19 dX10_isSlice_1 (by decide) (fun h6 => ?_) (fun h6 => ?_)
  · skip
    refine q_iconst dX10_isSlice_19 (by decide) ?_
    intro v7 h8
    exact tr_zret hZ dX10_isSlice_20 rfl (ti_b01 (by omega) (by omega)) (by decide) (by decide) ⟨v7, rfl, rfl, rfl, rfl, rfl, rfl, rfl, (by omega), (fun q0 z0 => by obtain rfl := Option.some.inj ((d2).symm.trans z0); (try rw [c4]); first | done | with_reducible assumption | omega), (fun q0 z0 => by obtain rfl := Option.some.inj ((d2).symm.trans z0); (try rw [c4]); first | done | with_reducible assumption | omega), trivial⟩
  · skip
    refine tr_iload_n dX10_isSlice_4 rfl ?_
    refine tr_aload_n dX10_isSlice_5 rfl ?_
    refine tr_getR dX10_isSlice_6 fl10_16 (kR1 hW0 ta0) d2 ?_
    refine q_getI dX10_isSlice_9 fl10_338 (kR2 hW0 ta1) c4 ?_
    refine q_icmp_ge 19 dX10_isSlice_12 (by decide) (fun h9 => ?_) (fun h9 => ?_)
    · skip
      refine q_iconst dX10_isSlice_19 (by decide) ?_
      intro v10 h11
      exact tr_zret hZ dX10_isSlice_20 rfl (ti_b01 (by omega) (by omega)) (by decide) (by decide) ⟨v10, rfl, rfl, rfl, rfl, rfl, rfl, rfl, (by omega), (fun q0 z0 => by obtain rfl := Option.some.inj ((d2).symm.trans z0); (try rw [c4]); first | done | with_reducible assumption | omega), (fun q0 z0 => by obtain rfl := Option.some.inj ((d2).symm.trans z0); (try rw [c4]); first | done | with_reducible assumption | omega), trivial⟩
    · skip
      refine q_iconst dX10_isSlice_15 (by decide) ?_
      intro v12 h13
      refine tr_goto 20 dX10_isSlice_16 (by decide) ?_
      exact tr_zret hZ dX10_isSlice_20 rfl (ti_b01 (by omega) (by omega)) (by decide) (by decide) ⟨v12, rfl, rfl, rfl, rfl, rfl, rfl, rfl, (by omega), (fun q0 z0 => by obtain rfl := Option.some.inj ((d2).symm.trans z0); (try rw [c4]); first | done | with_reducible assumption | omega), (fun q0 z0 => by obtain rfl := Option.some.inj ((d2).symm.trans z0); (try rw [c4]); first | done | with_reducible assumption | omega), trivial⟩
set_option maxHeartbeats 4000000 in
theorem fk_X5_hasJustVeins {l : Launch} {T : Nat → Nat} {cn : Nat} {K N : Nat → Nat} {I0 : cz_I} {R0 : cz_R} {L0 : cz_L} {d : Int} (hW0 : Wf T cn K N I0 R0 d) (gZ : cz_N) (gi : Nat) {a0 : Nat} (ta0 : T a0 = 13) {x1 : Int32} (hx1 : 0 ≤ x1.toInt ∧ x1.toInt ≤ 7) {a2 : Nat} (ta2 : T a2 = 6) (hP : NgP I0 R0 a0 gZ) (hG : GdN gZ) (hR : NgR I0 R0 a0 gZ (nzc gZ 0).toNat) (hSl : (I0 a2 0).toInt = nzT gZ (25 + gi) 0 ∧ ∀ r, R0 a2 1 = some r → ∀ j : Nat, (j : Int) < nzT gZ (25 + gi) 0 → (I0 r j).toInt = nzT gZ (30 + gi) j ∧ nzT gZ (30 + gi) j < nzc gZ 0) (pre0 : x1.toInt < (nzc gZ 3)) : ConE l mX5_hasJustVeins [.ref a0, .int x1, .ref a2] cn K N I0 R0 L0 (ca_i (fun v cn' K' N' I' R' L' => cn = cn' ∧ K = K' ∧ N = N' ∧ I0 = I' ∧ R0 = R' ∧ L0 = L' ∧ (0 ≤ v.toInt ∧ v.toInt ≤ 1) ∧ (v.toInt = fiZ gZ gi x1.toInt.toNat) ∧ True)) := by
  refine ConE.of (by decide +kernel) rfl (Nat.le_of_ble_eq_true rfl) rfl (fun X hX hZ hE => ?_)
  subst hX
  have p11 := pre0
  obtain ⟨a12, d13, ta12⟩ := rf13_0 hW0 ta0
  obtain ⟨a14, d15, ta14⟩ := rf13_1 hW0 ta0
  obtain ⟨a16, d17, ta16⟩ := rf2_2 hW0 ta12
  obtain ⟨a18, d19, ta18⟩ := rf2_6 hW0 ta12
  obtain ⟨a20, d21, ta20⟩ := rf2_8 hW0 ta12
  obtain ⟨a22, d23, ta22⟩ := rf2_10 hW0 ta12
  obtain ⟨a24, d25, ta24⟩ := rf2_12 hW0 ta12
  obtain ⟨a26, d27, ta26⟩ := rf12_2 hW0 ta14
  obtain ⟨a28, d29, ta28⟩ := rf12_3 hW0 ta14
  obtain ⟨a30, d31, ta30⟩ := rf12_5 hW0 ta14
  obtain ⟨a32, d33, ta32⟩ := rf12_8 hW0 ta14
  obtain ⟨a34, d35, ta34⟩ := rf12_9 hW0 ta14
  obtain ⟨a36, d37, ta36⟩ := rf12_11 hW0 ta14
  obtain ⟨a38, d39, ta38⟩ := rf13_3 hW0 ta0
  obtain ⟨a40, d41, ta40⟩ := rf13_4 hW0 ta0
  obtain ⟨a42, d43, ta42⟩ := rf13_5 hW0 ta0
  obtain ⟨a44, d45, ta44⟩ := rf13_6 hW0 ta0
  obtain ⟨a46, d47, ta46⟩ := rf13_7 hW0 ta0
  obtain ⟨a48, d49, ta48⟩ := rf13_8 hW0 ta0
  obtain ⟨a50, d51, ta50⟩ := rf13_9 hW0 ta0
  obtain ⟨a52, d53, ta52⟩ := rf13_10 hW0 ta0
  obtain ⟨a54, d55, ta54⟩ := rf13_11 hW0 ta0
  obtain ⟨v56, c57⟩ : ∃ v, I0 a12 0 = v := ⟨_, rfl⟩
  have b58 := iv2_0 hW0 ta12 c57
  obtain ⟨v59, c60⟩ : ∃ v, I0 a12 1 = v := ⟨_, rfl⟩
  have b61 := iv2_1 hW0 ta12 c60
  obtain ⟨v62, c63⟩ : ∃ v, I0 a12 5 = v := ⟨_, rfl⟩
  have b64 := iv2_5 hW0 ta12 c63
  obtain ⟨v65, c66⟩ : ∃ v, I0 a12 7 = v := ⟨_, rfl⟩
  obtain ⟨v67, c68⟩ : ∃ v, I0 a12 9 = v := ⟨_, rfl⟩
  have b69 := iv2_9 hW0 ta12 c68
  obtain ⟨v70, c71⟩ : ∃ v, I0 a12 11 = v := ⟨_, rfl⟩
  have b72 := iv2_11 hW0 ta12 c71
  obtain ⟨v73, c74⟩ : ∃ v, I0 a0 2 = v := ⟨_, rfl⟩
  have hA75 := hP _ _ d13 d15
  have hc76 := hA75.1.ct
  rw [c57, c60, c63, c68, c71, c66] at hc76
  have hc76g := hG.cs
  have hc76m := hA75.2.2
  rw [c74] at hc76m
  have hc76n := hG.ms
  obtain ⟨a77, d78, ta77⟩ := rf6_1 hW0 ta2
  obtain ⟨v79, c80⟩ : ∃ v, I0 a2 0 = v := ⟨_, rfl⟩
  have b81 := iv6_0 hW0 ta2 c80
  have hs0 := hSl.1
  rw [c80] at hs0
  refine tr_aload_n dX5_hasJustVeins_0 rfl ?_
  refine tr_getR dX5_hasJustVeins_1 fl5_15 (kR13 hW0 ta0) d41 ?_
  refine tr_iload_n dX5_hasJustVeins_4 rfl ?_
  refine q_iald dX5_hasJustVeins_5 (kR45 hW0 ta40) (ti_in (nR45 hW0 ta40) (by omega) (by omega)) ?_
  intro v82 c83
  have hq84 : v82.toInt = qR gZ x1.toInt.toNat (nzc gZ 0).toNat := by have z := hR.2.1 _ d41 x1.toInt.toNat (by omega); rw [show I0 a40 x1.toInt.toNat = v82 from c83] at z; exact z
  have hq84b := qR_b (Z := gZ) x1.toInt.toNat (nzc gZ 0).toNat
  rw [← hq84] at hq84b
  refine tr_aload_n dX5_hasJustVeins_6 rfl ?_
  refine tr_getR dX5_hasJustVeins_7 fl5_18 (kR13 hW0 ta0) d43 ?_
  refine tr_iload_n dX5_hasJustVeins_10 rfl ?_
  refine q_iald dX5_hasJustVeins_11 (kR46 hW0 ta42) (ti_in (nR46 hW0 ta42) (by omega) (by omega)) ?_
  intro v85 c86
  have hq87 : v85.toInt = qW gZ x1.toInt.toNat (nzc gZ 0).toNat := by have z := hR.2.2.1 _ d43 x1.toInt.toNat (by omega); rw [show I0 a42 x1.toInt.toNat = v85 from c86] at z; exact z
  have hq87b := qW_b (Z := gZ) x1.toInt.toNat (nzc gZ 0).toNat
  rw [← hq87] at hq87b
  refine q_iaddE dX5_hasJustVeins_12 (by intros; omega) ?_
  intro v88 h89
  refine tr_aload_n dX5_hasJustVeins_13 rfl ?_
  refine q_getI dX5_hasJustVeins_14 fl5_187 (kR6 hW0 ta2) c80 ?_
  refine q_icmp_eq 22 dX5_hasJustVeins_17 (by decide) (fun h90 => ?_) (fun h90 => ?_)
  · skip
    refine q_iconst dX5_hasJustVeins_22 (by decide) ?_
    intro v91 h92
    refine tr_istore_n dX5_hasJustVeins_23 (by decide) (by decide) ?_
    have lp102 : ∀ (fu : Nat) (ls : Nat → Option Value) (v93 : Int32), ls 0 = some (.ref a0) → ls 1 = some (.int x1) → ls 2 = some (.ref a2) → ls 3 = some (.int v93) → 0 ≤ v93.toInt → v93.toInt ≤ 8 → v93.toInt ≤ v79.toInt → (exI (fun j => if nB gZ (nzT gZ (30 + gi) j).toNat x1.toInt.toNat = -2 then 1 else 0) v93.toInt.toNat = 0) → (-v93.toInt + 2147483647).toNat < fu → Tr X mX5_hasJustVeins 24 ls [] cn K N I0 R0 L0 0 0 := by
      intro fu
      induction fu with
      | zero => intros; rename_i hz; exact absurd hz (Nat.not_lt_zero _)
      | succ fu ih102 =>
        intro ls v93 hl94 hl95 hl96 hl97 g98 g99 g100 rw101 hm102
        refine tr_iload_n dX5_hasJustVeins_24 hl97 ?_
        refine tr_aload_n dX5_hasJustVeins_25 hl96 ?_
        refine q_getI dX5_hasJustVeins_26 fl5_187 (kR6 hW0 ta2) c80 ?_
        refine q_icmp_ge 54 dX5_hasJustVeins_29 (by decide) (fun h104 => ?_) (fun h104 => ?_)
        · skip
          refine q_iconst dX5_hasJustVeins_54 (by decide) ?_
          intro v105 h106
          exact tr_zret hZ dX5_hasJustVeins_55 rfl (ti_b01 (by omega) (by omega)) (by decide) (by decide) ⟨v105, rfl, rfl, rfl, rfl, rfl, rfl, rfl, (by omega), (by unfold fiZ; have z := rw101; rw [show v93.toInt.toNat = (nzT gZ (25 + gi) 0).toNat from congrArg Int.toNat (by omega)] at z; rw [if_pos ⟨by omega, z⟩]; omega), trivial⟩
        · skip
          refine tr_aload_n dX5_hasJustVeins_32 hl94 ?_
          refine tr_iload_n dX5_hasJustVeins_33 hl95 ?_
          refine tr_aload_n dX5_hasJustVeins_34 hl96 ?_
          refine tr_getR dX5_hasJustVeins_35 fl5_190 (kR6 hW0 ta2) d78 ?_
          refine tr_iload_n dX5_hasJustVeins_38 hl97 ?_
          refine q_iald dX5_hasJustVeins_39 (kR24 hW0 ta77) (ti_in (nR24 hW0 ta77) (by omega) (by omega)) ?_
          intro v107 c108
          have b109 := iv24 hW0 ta77 c108
          have hj110 := hSl.2 _ d78 v93.toInt.toNat (by omega)
          rw [show I0 a77 v93.toInt.toNat = v107 from c108] at hj110
          refine q_callVi hE (M' := mX5_isTurned) (as := [_, _]) dX5_hasJustVeins_40 lk5_180 inX5_isTurned seX5_isTurned myX5_isTurned (by decide) ⟨by decide, by decide⟩ rfl (kR13 hW0 ta0) (Nat.le_of_ble_eq_true rfl) rfl rfl (by decide) (by decide) (fk_X5_isTurned hW0 (gZ) ta0 (by omega) (by omega) hP hG hR (by first | done | with_reducible assumption | omega) (by first | done | with_reducible assumption | omega)) ?_
          rintro v116 cn' K' N' I111 R112 L113 ⟨rfl, rfl, rfl, rfl, rfl, rfl, h117, rp118, -⟩
          refine q_if_ne 48 dX5_hasJustVeins_43 (by decide) (fun h119 => ?_) (fun h119 => ?_)
          · skip
            refine q_iincE dX5_hasJustVeins_48 hl97 (by decide) (by decide) (by intros; omega) ?_
            intro v120 h121
            refine tr_goto 24 dX5_hasJustVeins_51 (by decide) ?_
            exact ih102 _ v120 hl94 hl95 hl96 rfl (by omega) (by omega) (by omega) (by rw [show v120.toInt.toNat = v93.toInt.toNat + 1 by omega]; exact exI_s rw101 (by show ¬ (if nB gZ (nzT gZ (30 + gi) v93.toInt.toNat).toNat x1.toInt.toNat = -2 then (1 : Int) else 0) = 1; rw [← hj110.1]; have e := rp118; split at e <;> split <;> omega)) (by omega)
          · skip
            refine q_iconst dX5_hasJustVeins_46 (by decide) ?_
            intro v122 h123
            exact tr_zret hZ dX5_hasJustVeins_47 rfl (ti_b01 (by omega) (by omega)) (by decide) (by decide) ⟨v122, rfl, rfl, rfl, rfl, rfl, rfl, rfl, (by omega), (by unfold fiZ; rw [exI_1 (f := (fun j => if nB gZ (nzT gZ (30 + gi) j).toNat x1.toInt.toNat = -2 then 1 else 0)) (nzT gZ (25 + gi) 0).toNat v93.toInt.toNat (by omega) (by show (if nB gZ (nzT gZ (30 + gi) v93.toInt.toNat).toNat x1.toInt.toNat = -2 then (1 : Int) else 0) = 1; rw [← hj110.1]; have e := rp118; split at e <;> split <;> omega), if_neg (fun w => by have z := w.2; omega)]; omega), trivial⟩
    exact lp102 _ _ v91 rfl rfl rfl rfl (by omega) (by omega) (by omega) (by rw [show v91.toInt.toNat = 0 by omega]; rfl) (Nat.lt_succ_self _)
  · skip
    refine q_iconst dX5_hasJustVeins_20 (by decide) ?_
    intro v124 h125
    exact tr_zret hZ dX5_hasJustVeins_21 rfl (ti_b01 (by omega) (by omega)) (by decide) (by decide) ⟨v124, rfl, rfl, rfl, rfl, rfl, rfl, rfl, (by omega), (by unfold fiZ; rw [if_neg (fun w => by have z := w.1; omega)]; omega), trivial⟩
set_option maxHeartbeats 4000000 in
theorem fk_X5_cheesesWithVeins {l : Launch} {T : Nat → Nat} {cn : Nat} {K N : Nat → Nat} {I0 : cz_I} {R0 : cz_R} {L0 : cz_L} {d : Int} (hW0 : Wf T cn K N I0 R0 d) (gZ : cz_N) (gi : Nat) {a0 : Nat} (ta0 : T a0 = 13) {a1 : Nat} (ta1 : T a1 = 6) (hP : NgP I0 R0 a0 gZ) (hG : GdN gZ) (hR : NgR I0 R0 a0 gZ (nzc gZ 0).toNat) (hSl : (I0 a1 0).toInt = nzT gZ (25 + gi) 0 ∧ ∀ r, R0 a1 1 = some r → ∀ j : Nat, (j : Int) < nzT gZ (25 + gi) 0 → (I0 r j).toInt = nzT gZ (30 + gi) j ∧ nzT gZ (30 + gi) j < nzc gZ 0) : ConE l mX5_cheesesWithVeins [.ref a0, .ref a1] cn K N I0 R0 L0 (ca_i (fun v cn' K' N' I' R' L' => cn = cn' ∧ K = K' ∧ N = N' ∧ I0 = I' ∧ R0 = R' ∧ L0 = L' ∧ (B8 v (fun k => if (k : Int) < nzc gZ 3 ∧ fiZ gZ gi k = 1 then 1 else 0)) ∧ True)) := by
  refine ConE.of (by decide +kernel) rfl (Nat.le_of_ble_eq_true rfl) rfl (fun X hX hZ hE => ?_)
  subst hX
  obtain ⟨a11, d12, ta11⟩ := rf13_0 hW0 ta0
  obtain ⟨v13, c14⟩ : ∃ v, I0 a11 5 = v := ⟨_, rfl⟩
  have b15 := iv2_5 hW0 ta11 c14
  obtain ⟨a16, d17, ta16⟩ := rf13_1 hW0 ta0
  obtain ⟨a18, d19, ta18⟩ := rf2_2 hW0 ta11
  obtain ⟨a20, d21, ta20⟩ := rf2_6 hW0 ta11
  obtain ⟨a22, d23, ta22⟩ := rf2_8 hW0 ta11
  obtain ⟨a24, d25, ta24⟩ := rf2_10 hW0 ta11
  obtain ⟨a26, d27, ta26⟩ := rf2_12 hW0 ta11
  obtain ⟨a28, d29, ta28⟩ := rf12_2 hW0 ta16
  obtain ⟨a30, d31, ta30⟩ := rf12_3 hW0 ta16
  obtain ⟨a32, d33, ta32⟩ := rf12_5 hW0 ta16
  obtain ⟨a34, d35, ta34⟩ := rf12_8 hW0 ta16
  obtain ⟨a36, d37, ta36⟩ := rf12_9 hW0 ta16
  obtain ⟨a38, d39, ta38⟩ := rf12_11 hW0 ta16
  obtain ⟨a40, d41, ta40⟩ := rf13_3 hW0 ta0
  obtain ⟨a42, d43, ta42⟩ := rf13_4 hW0 ta0
  obtain ⟨a44, d45, ta44⟩ := rf13_5 hW0 ta0
  obtain ⟨a46, d47, ta46⟩ := rf13_6 hW0 ta0
  obtain ⟨a48, d49, ta48⟩ := rf13_7 hW0 ta0
  obtain ⟨a50, d51, ta50⟩ := rf13_8 hW0 ta0
  obtain ⟨a52, d53, ta52⟩ := rf13_9 hW0 ta0
  obtain ⟨a54, d55, ta54⟩ := rf13_10 hW0 ta0
  obtain ⟨a56, d57, ta56⟩ := rf13_11 hW0 ta0
  obtain ⟨v58, c59⟩ : ∃ v, I0 a11 0 = v := ⟨_, rfl⟩
  have b60 := iv2_0 hW0 ta11 c59
  obtain ⟨v61, c62⟩ : ∃ v, I0 a11 1 = v := ⟨_, rfl⟩
  have b63 := iv2_1 hW0 ta11 c62
  obtain ⟨v64, c65⟩ : ∃ v, I0 a11 7 = v := ⟨_, rfl⟩
  obtain ⟨v66, c67⟩ : ∃ v, I0 a11 9 = v := ⟨_, rfl⟩
  have b68 := iv2_9 hW0 ta11 c67
  obtain ⟨v69, c70⟩ : ∃ v, I0 a11 11 = v := ⟨_, rfl⟩
  have b71 := iv2_11 hW0 ta11 c70
  obtain ⟨v72, c73⟩ : ∃ v, I0 a0 2 = v := ⟨_, rfl⟩
  have hA74 := hP _ _ d12 d17
  have hc75 := hA74.1.ct
  rw [c59, c62, c14, c67, c70, c65] at hc75
  have hc75g := hG.cs
  have hc75m := hA74.2.2
  rw [c73] at hc75m
  have hc75n := hG.ms
  refine q_iconst dX5_cheesesWithVeins_0 (by decide) ?_
  intro v76 h77
  refine tr_istore_n dX5_cheesesWithVeins_1 (by decide) (by decide) ?_
  refine q_iconst dX5_cheesesWithVeins_2 (by decide) ?_
  intro v78 h79
  refine tr_istore_n dX5_cheesesWithVeins_3 (by decide) (by decide) ?_
  have lp89 : ∀ (fu : Nat) (ls : Nat → Option Value) (v80 : Int32) (v81 : Int32), ls 0 = some (.ref a0) → ls 1 = some (.ref a1) → ls 2 = some (.int v80) → ls 3 = some (.int v81) → 0 ≤ v81.toInt → v81.toInt ≤ v13.toInt → (B8 v80 (fun k => if (k : Int) < v81.toInt ∧ fiZ gZ gi k = 1 then 1 else 0)) → (-v81.toInt + 2147483647).toNat < fu → Tr X mX5_cheesesWithVeins 4 ls [] cn K N I0 R0 L0 0 0 := by
    intro fu
    induction fu with
    | zero => intros; rename_i hz; exact absurd hz (Nat.not_lt_zero _)
    | succ fu ih89 =>
      intro ls v80 v81 hl82 hl83 hl84 hl85 g86 g87 rw88 hm89
      refine tr_iload_n dX5_cheesesWithVeins_4 hl85 ?_
      refine tr_aload_n dX5_cheesesWithVeins_5 hl82 ?_
      refine tr_getR dX5_cheesesWithVeins_6 fl5_39 (kR13 hW0 ta0) d12 ?_
      refine q_getI dX5_cheesesWithVeins_9 fl5_107 (kR2 hW0 ta11) c14 ?_
      refine q_icmp_ge 36 dX5_cheesesWithVeins_12 (by decide) (fun h91 => ?_) (fun h91 => ?_)
      · skip
        refine tr_iload_n dX5_cheesesWithVeins_36 hl84 ?_
        exact tr_iret hZ dX5_cheesesWithVeins_37 rfl (by decide) (by decide) ⟨v80, rfl, rfl, rfl, rfl, rfl, rfl, rfl, (B8.cg rw88 (fun k hk => by rw [show v81.toInt = nzc gZ 3 by omega])), trivial⟩
      · skip
        refine tr_aload_n dX5_cheesesWithVeins_15 hl82 ?_
        refine tr_iload_n dX5_cheesesWithVeins_16 hl85 ?_
        refine tr_aload_n dX5_cheesesWithVeins_17 hl83 ?_
        refine q_callVi hE (M' := mX5_hasJustVeins) (as := [_, _]) dX5_cheesesWithVeins_18 lk5_183 inX5_hasJustVeins seX5_hasJustVeins myX5_hasJustVeins (by decide) ⟨by decide, by decide⟩ rfl (kR13 hW0 ta0) (Nat.le_of_ble_eq_true rfl) rfl rfl (by decide) (by decide) (fk_X5_hasJustVeins hW0 (gZ) (gi) ta0 (by omega) ta1 hP hG hR hSl (by first | done | with_reducible assumption | omega)) ?_
        rintro v97 cn' K' N' I92 R93 L94 ⟨rfl, rfl, rfl, rfl, rfl, rfl, h98, rp99, -⟩
        refine q_if_eq 30 dX5_cheesesWithVeins_21 (by decide) (fun h100 => ?_) (fun h100 => ?_)
        · skip
          refine q_iincE dX5_cheesesWithVeins_30 hl85 (by decide) (by decide) (by intros; omega) ?_
          intro v101 h102
          refine tr_goto 4 dX5_cheesesWithVeins_33 (by decide) ?_
          exact ih89 _ v80 v101 hl82 hl83 hl84 rfl (by omega) (by omega) (TS2n (g := fiZ gZ gi) rw88 (by omega) (by omega) (by have e := rp99; have b := fiZ_01 (Z := gZ) gi v81.toInt.toNat; omega)) (by omega)
        · skip
          refine tr_iload_n dX5_cheesesWithVeins_24 hl84 ?_
          refine q_iconst dX5_cheesesWithVeins_25 (by decide) ?_
          intro v103 h104
          refine tr_iload_n dX5_cheesesWithVeins_26 hl85 ?_
          refine tr_ishl dX5_cheesesWithVeins_27 ?_
          obtain ⟨v105, lx106⟩ : ∃ z, z = v103 <<< (v81 &&& 31) := ⟨_, rfl⟩
          rw [← lx106]
          refine tr_ior dX5_cheesesWithVeins_28 ?_
          obtain ⟨v107, lx108⟩ : ∃ z, z = v80 ||| v105 := ⟨_, rfl⟩
          rw [← lx108]
          refine tr_istore_n dX5_cheesesWithVeins_29 (by decide) (by decide) ?_
          refine q_iincE dX5_cheesesWithVeins_30 hl85 (by decide) (by decide) (by intros; omega) ?_
          intro v109 h110
          refine tr_goto 4 dX5_cheesesWithVeins_33 (by decide) ?_
          exact ih89 _ v107 v109 hl82 hl83 rfl rfl (by omega) (by omega) (TS2y (g := fiZ gZ gi) rw88 (by omega) (by omega) (by omega) (by have e := rp99; omega) (by rw [lx108, lx106]) (by omega) (by omega)) (by omega)
  exact lp89 _ _ v76 v78 rfl rfl rfl rfl (by omega) (by omega) ((B8.z (by omega)).cg (fun k hk => if_neg (fun w => by have z := w.1; omega))) (Nat.lt_succ_self _)
def wik_X10_fits : List Nat := [73, 75, 81, 768, 769, 778, 834, 2303, 2367, 2431, 2495, 2559, 2623, 2687, 2751, 2815, 2879, 2943, 3007, 3071, 3135, 3199, 3263, 3327, 3391]
def wrk_X10_fits : List Nat := [832, 833]
def Cs_X10_fits (T : Nat → Nat) (I0 : cz_I) (R0 : cz_R) (a0 : Nat) (gX : Nat → Nat → Int) (gE : Nat → Nat → Int) (gc : Nat → Int) (x1 : Int32) (v : Int32) (I' : cz_I) (R' : cz_R) : Prop :=
  ((∀ b1, R0 a0 2 = some b1 → (x1.toInt < 0 ∨ x1.toInt ≥ (I0 b1 13).toInt)) ∧ (v.toInt = -1) ∧ True) ∨
  ((0 ≤ x1.toInt) ∧ (∀ b1, R0 a0 2 = some b1 → x1.toInt < (I0 b1 13).toInt) ∧ (∀ al nw, R0 a0 2 = some al → R0 a0 6 = some nw → B8 v (fun k => if (k : Int) < gc 3 ∧ fiZ (NgZ I0 al nw gX gE gc) x1.toInt.toNat k = 1 then 1 else 0)) ∧ True)
set_option maxHeartbeats 4000000 in
theorem fk_X10_fits {l : Launch} {T : Nat → Nat} {cn : Nat} {K N : Nat → Nat} {I0 : cz_I} {R0 : cz_R} {L0 : cz_L} {d : Int} (hW0 : Wf T cn K N I0 R0 d) (gX : Nat → Nat → Int) (gE : Nat → Nat → Int) (gc : Nat → Int) {a0 : Nat} (ta0 : T a0 = 1) {x1 : Int32} (hX : EvQ I0 R0 a0 gX) (hK : SkQ I0 R0 a0 gX) (hD : DjS R0 a0) (hEa : ∀ al, R0 a0 2 = some al → CVa I0 R0 al gc gE) (hGd : GdE gc gE) (hMs : ∀ nw, R0 a0 6 = some nw → 0 ≤ (I0 nw 0).toInt ∧ (I0 nw 0).toInt ≤ 63) (hNg : NgQ I0 R0 a0 gX gE gc) (hDn : DjN R0 a0) (h1 : 1 ≤ gc 0 ∨ ∀ i, gc i = 0) (hGs : GdS gc gE) : ConE l mX10_fits [.ref a0, .int x1] cn K N I0 R0 L0 (ca_i (fun v cn' K' N' I' R' L' => cn = cn' ∧ K = K' ∧ N = N' ∧ L0 = L' ∧ St T cn K N d wik_X10_fits wrk_X10_fits I0 R0 I' R' ∧ (SkQ I' R0 a0 gX) ∧ (NgQ I' R' a0 gX gE gc) ∧ Cs_X10_fits T I0 R0 a0 gX gE gc x1 v I' R' ∧ True)) := by
  refine ConE.of (by decide +kernel) rfl (Nat.le_of_ble_eq_true rfl) rfl (fun X hX hZ hE => ?_)
  subst hX
  have hS0 : St T cn K N d wik_X10_fits wrk_X10_fits I0 R0 I0 R0 := St.rf0 hW0
  obtain ⟨a1, d2, ta1⟩ := rf1_2 hW0 ta0
  obtain ⟨v3, c4⟩ : ∃ v, I0 a1 13 = v := ⟨_, rfl⟩
  have b5 := iv2_13 hW0 ta1 c4
  obtain ⟨a6, d7, ta6⟩ := rf1_6 hW0 ta0
  obtain ⟨a8, d9, ta8⟩ := rf1_8 hW0 ta0
  obtain ⟨a10, d11, ta10⟩ := rf1_10 hW0 ta0
  obtain ⟨a12, d13, ta12⟩ := rf1_13 hW0 ta0
  obtain ⟨a14, d15, ta14⟩ := rf1_14 hW0 ta0
  obtain ⟨v16, c17⟩ : ∃ v, I0 a1 0 = v := ⟨_, rfl⟩
  have b18 := iv2_0 hW0 ta1 c17
  obtain ⟨v19, c20⟩ : ∃ v, I0 a1 1 = v := ⟨_, rfl⟩
  have b21 := iv2_1 hW0 ta1 c20
  obtain ⟨v22, c23⟩ : ∃ v, I0 a1 3 = v := ⟨_, rfl⟩
  have b24 := iv2_3 hW0 ta1 c23
  obtain ⟨v25, c26⟩ : ∃ v, I0 a1 5 = v := ⟨_, rfl⟩
  have b27 := iv2_5 hW0 ta1 c26
  obtain ⟨v28, c29⟩ : ∃ v, I0 a1 9 = v := ⟨_, rfl⟩
  have b30 := iv2_9 hW0 ta1 c29
  obtain ⟨v31, c32⟩ : ∃ v, I0 a1 11 = v := ⟨_, rfl⟩
  have b33 := iv2_11 hW0 ta1 c32
  obtain ⟨v34, c35⟩ : ∃ v, I0 a6 0 = v := ⟨_, rfl⟩
  obtain ⟨v36, c37⟩ : ∃ v, I0 a6 2 = v := ⟨_, rfl⟩
  have b38 := iv8_2 hW0 ta6 c37
  have hc39 := (hEa _ d2).ct
  rw [c17, c20, c26, c29, c32] at hc39
  have hc39m := hMs _ d7
  have hc39g := hGd.own hc39m gX (-1) ((I0 a1 3).toInt.toNat + (I0 a6 2).toInt.toNat)
  rw [c35] at hc39m
  have hc39z0 : nzc ((NgZ I0 a1 a6 gX gE gc)) 0 = gc 0 := rfl
  have hc39z1 : nzc ((NgZ I0 a1 a6 gX gE gc)) 1 = gc 1 := rfl
  have hc39z3 : nzc ((NgZ I0 a1 a6 gX gE gc)) 3 = gc 3 := rfl
  have hc39z4 : nzc ((NgZ I0 a1 a6 gX gE gc)) 4 = gc 4 := rfl
  have hc39z5 : nzc ((NgZ I0 a1 a6 gX gE gc)) 5 = gc 5 := rfl
  refine tr_aload_n dX10_fits_0 rfl ?_
  refine tr_iload_n dX10_fits_1 rfl ?_
  refine q_callVi hE (M' := mX10_isSlice) (as := [_]) dX10_fits_2 lk10_252 inX10_isSlice seX10_isSlice myX10_isSlice (by decide) ⟨by decide, by decide⟩ rfl (kR1 hS0.1 ta0) (Nat.le_of_ble_eq_true rfl) rfl rfl (by decide) (by decide) (fk_X10_isSlice hS0.1  ta0) ?_
  rintro v45 cn' K' N' I40 R41 L42 ⟨rfl, rfl, rfl, rfl, rfl, rfl, h46, p47, p48, -⟩
  have p49 := p47 _ d2
  clear p47
  rw [c4] at p49
  have p50 := p48 _ d2
  clear p48
  rw [c4] at p50
  refine q_if_ne 14 dX10_fits_5 (by decide) (fun h51 => ?_) (fun h51 => ?_)
  · skip
    refine tr_aload_n dX10_fits_14 rfl ?_
    refine tr_aload_n dX10_fits_15 rfl ?_
    refine q_callVr hE (M' := mX10_presentNight) (as := []) dX10_fits_16 lk10_155 inX10_presentNight seX10_presentNight myX10_presentNight (by decide) ⟨by decide, by decide⟩ rfl (kR1 hS0.1 ta0) (Nat.le_of_ble_eq_true rfl) rfl rfl (by decide) (by decide) (fk_X10_presentNight hS0.1 (gX) (gE) (gc) ta0 hX hK hD (fun al ha => hEa al ha) hGd hMs hNg hDn h1) ?_
    rintro a57 cn' K' N' I52 R53 L54 ⟨rfl, rfl, rfl, rfl, g55, ta57, p58, rp59, rp60, rp61, rp62, rp63, -⟩
    have hS64 := hS0.tr g55 (by decide +kernel) (by decide +kernel)
    obtain ⟨v65, c66⟩ : ∃ v, I52 a0 11 = v := ⟨_, rfl⟩
    have b67 := iv1_11 hS64.1 ta0 c66
    rw [c66] at p58
    have hq68 := NgP.own (n := a57) rp60 (SkQ.rc rp59 hW0 ta0 (R13 hS64 (by decide +kernel))) (by rw [c66]; omega) ((g55.rcell ta0 (by decide +kernel)).trans rp61) ((hS64.rcell ta0 (by decide +kernel)).trans d9) ((hS64.rcell ta0 (by decide +kernel)).trans d2) ((hS64.rcell ta0 (by decide +kernel)).trans d7) ((hEa _ d2).gs hW0 ta1 hS64 (by decide +kernel) (by decide +kernel)) hGd
    have hq68z : NgZ I52 a1 a6 gX gE gc = (NgZ I0 a1 a6 gX gE gc) := by unfold NgZ; rw [hS64.cell ta1 (by decide +kernel), hS64.cell ta6 (by decide +kernel), hS64.cell ta6 (by decide +kernel)]
    rw [hq68z] at hq68
    refine tr_aload_n dX10_fits_19 rfl ?_
    refine tr_getR dX10_fits_20 fl10_16 (kR1 hS64.1 ta0) ((hS64.rcell ta0 (by decide +kernel)).trans d2) ?_
    obtain ⟨a69, d70, ta69⟩ := rf2_14 hW0 ta1
    refine tr_getR dX10_fits_23 fl10_255 (kR2 hS64.1 ta1) ((hS64.rcell ta1 (by decide +kernel)).trans d70) ?_
    refine tr_iload_n dX10_fits_26 rfl ?_
    obtain ⟨a71, d72, ta71⟩ := rf23 hS64.1 ta69 (j := x1.toNatClampNeg) (ti_lt (by omega) (by omega))
    refine tr_aald dX10_fits_27 (kR23 hS64.1 ta69) (by decide) (by decide) (ti_in (nR23 hS64.1 ta69) (by omega) (by omega)) d72 ?_
    have h673 : (I52 a1 13).toInt = gc 6 := ((hEa _ d2).gs hW0 ta1 hS64 (by decide +kernel) (by decide +kernel)).2.1 6 (by omega)
    rw [((hS64.cell ta1 (by decide +kernel)).trans c4)] at h673
    have h673z : nzc (NgZ I0 a1 a6 gX gE gc) 6 = gc 6 := rfl
    refine q_callVi hE (M' := mX5_cheesesWithVeins) (as := [_]) dX10_fits_28 lk10_259 inX5_cheesesWithVeins seX5_cheesesWithVeins myX5_cheesesWithVeins (by decide) ⟨by decide, by decide⟩ rfl (kR13 hS64.1 ta57) (Nat.le_of_ble_eq_true rfl) rfl rfl (by decide) (by decide) (fk_X5_cheesesWithVeins hS64.1 ((NgZ I0 a1 a6 gX gE gc)) (x1.toInt.toNat) ta57 ta71 hq68.1 hc39g hq68.2 (slH ((hEa _ d2).gs hW0 ta1 hS64 (by decide +kernel) (by decide +kernel)) hGs ((hS64.rcell ta1 (by decide +kernel)).trans d70) (by omega) (by omega) d72)) ?_
    rintro v79 cn' K' N' I74 R75 L76 ⟨rfl, rfl, rfl, rfl, rfl, rfl, rp80, -⟩
    have hw81 := rp80
    have hw81b := And.intro hw81.1 hw81.2.1
    refine q_callVi hE (M' := mX10_answered) (as := [_]) dX10_fits_31 lk10_109 inX10_answered seX10_answered myX10_answered (by decide) ⟨by decide, by decide⟩ rfl (kR1 hS64.1 ta0) (Nat.le_of_ble_eq_true rfl) rfl rfl (by decide) (by decide) (fk_X10_answered hS64.1  ta0) ?_
    rintro v87 cn' K' N' I82 R83 L84 ⟨rfl, rfl, rfl, rfl, rfl, g85, p88, p89, -⟩
    have hS90 := hS64.tr g85 (by decide +kernel) (by decide +kernel)
    have c91 : I82 a0 11 = v65 := (g85.cell ta0 (by decide +kernel)).trans c66
    obtain ⟨v92, c93⟩ : ∃ v, I82 a0 17 = v := ⟨_, rfl⟩
    rw [c93] at p89
    exact tr_iret hZ dX10_fits_34 rfl (by decide) (by decide) ⟨v87, rfl, rfl, rfl, rfl, rfl, hS90, (SkQ.st rp59 hW0 ta0 g85 (by decide +kernel) (by decide +kernel)), (NgQ.st rp60 hS90.1 ta0 g85 (by decide +kernel) (by decide +kernel) (by decide +kernel)), (Or.inr (⟨(by first | done | with_reducible assumption | omega), (fun q0 z0 => by obtain rfl := Option.some.inj ((d2).symm.trans z0); (try rw [c4]); first | done | with_reducible assumption | omega), (fun al nw h2 h6 => by obtain rfl := Option.some.inj (d2.symm.trans h2); obtain rfl := Option.some.inj (d7.symm.trans h6); rw [show v87 = v79 from Int32.toInt_inj.mp (by omega)]; exact hw81), trivial⟩)), trivial⟩
  · skip
    refine tr_aload_n dX10_fits_8 rfl ?_
    refine q_iconst dX10_fits_9 (by decide) ?_
    intro v94 h95
    refine q_callVi hE (M' := mX10_refused) (as := [_]) dX10_fits_10 lk10_79 inX10_refused seX10_refused myX10_refused (by decide) ⟨by decide, by decide⟩ rfl (kR1 hS0.1 ta0) (Nat.le_of_ble_eq_true rfl) rfl rfl (by decide) (by decide) (fk_X10_refused hS0.1  ta0) ?_
    rintro v101 cn' K' N' I96 R97 L98 ⟨rfl, rfl, rfl, rfl, rfl, g99, p102, p103, -⟩
    have hS104 := hS0.tr g99 (by decide +kernel) (by decide +kernel)
    obtain ⟨v105, c106⟩ : ∃ v, I96 a0 17 = v := ⟨_, rfl⟩
    rw [c106] at p103
    exact tr_iret hZ dX10_fits_13 rfl (by decide) (by decide) ⟨v101, rfl, rfl, rfl, rfl, rfl, hS104, (SkQ.st hK hW0 ta0 g99 (by decide +kernel) (by decide +kernel)), (NgQ.st hNg hW0 ta0 g99 (by decide +kernel) (by decide +kernel) (by decide +kernel)), (by first | exact Or.inl ⟨(fun q0 z0 => by obtain rfl := Option.some.inj ((d2).symm.trans z0); (try rw [c4]); first | done | with_reducible assumption | omega), (by first | done | with_reducible assumption | omega), trivial⟩ | exact Or.inr (⟨(by first | done | with_reducible assumption | omega), (fun q0 z0 => by obtain rfl := Option.some.inj ((d2).symm.trans z0); (try rw [c4]); first | done | with_reducible assumption | omega), (by exfalso; omega), trivial⟩)), trivial⟩
