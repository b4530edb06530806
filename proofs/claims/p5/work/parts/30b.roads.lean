section CzLaw2
variable {X : cz_X} {M : cz_M} {pc : Nat} {ls : Nat → Option Value} {st : List Value} {cn : Nat} {K N : Nat → Nat} {I : cz_I} {R : cz_R} {L : cz_L} {n w : Nat}
theorem q_sld {Ln : Nat} {xs : Nat → Int32} {i : Int32} (hs : cz_scr X Ln xs) (hd : decode (cz_cc M) pc = .ok (.iaload, 1)) (h0 : 0 ≤ i.toInt) (h1 : i.toInt < (Ln : Int)) (k : ∀ v : Int32, Tr X M (pc + 1) ls (.int v :: st) cn K N I R L n w) : Tr X M pc ls (.int i :: .float 1000000 :: st) cn K N I R L n w := tr_sld hs hd (ti_in rfl h0 h1) (k _)
theorem q_sldE {Ln : Nat} {xs : Nat → Int32} {i v : Int32} (hs : cz_scr X Ln xs) (hd : decode (cz_cc M) pc = .ok (.iaload, 1)) (h0 : 0 ≤ i.toInt) (h1 : i.toInt < (Ln : Int)) (hv : xs i.toNatClampNeg = v) (k : Tr X M (pc + 1) ls (.int v :: st) cn K N I R L n w) : Tr X M pc ls (.int i :: .float 1000000 :: st) cn K N I R L n w := tr_sld hs hd (ti_in rfl h0 h1) (by rw [hv]; exact k)
theorem q_slen {Ln : Nat} {xs : Nat → Int32} (hs : cz_scr X Ln xs) (hL : Ln ≤ 3072) (hd : decode (cz_cc M) pc = .ok (.arraylength, 1)) (k : ∀ v : Int32, v.toInt = (Ln : Int) → Tr X M (pc + 1) ls (.int v :: st) cn K N I R L n w) : Tr X M pc ls (.float 1000000 :: st) cn K N I R L n w := tr_slen hs hd (k _ (by
  exact Int32.toInt_ofNat_of_lt (by omega)))
end CzLaw2
def wi_road2 : List Nat := [960]
def wr_road2 : List Nat := []
set_option maxHeartbeats 4000000 in
theorem s_road2 {X : cz_X} (hE : cz_env X) {T : Nat → Nat} {cn : Nat} {K N : Nat → Nat} {I0 : cz_I} {R0 : cz_R} {L0 : cz_L} {d : Int} (hW0 : Wf T cn K N I0 R0 d) {x : Nat} (tx : T x = 1) {m : Nat} (tm : T m = 15) {o : Nat} (tox : T o = 94) {i0 : Int32} {Ln : Nat} {xs : Nat → Int32} (hs : cz_scr X Ln xs) (hi0 : 0 ≤ i0.toInt ∧ i0.toInt + 6 ≤ (Ln : Int) ∧ (Ln : Int) ≤ 3072) {n w : Nat} (hn : n ≤ (cz_rm mL_law).cells) (hw : w ≤ (cz_rm mL_law).slots) (pre0 : (I0 x 1).toInt = (I0 m 6).toInt) {ls : Nat → Option Value} (hl0 : ls 0 = some (.float 1000000)) (hl1 : ls 1 = some (.ref x)) (hl2 : ls 2 = some (.ref m)) (hl3 : ls 3 = some (.ref o)) (hl4 : ls 4 = some (.int i0)) (hk : ∀ (I' : cz_I) (R' : cz_R) (L' : cz_L), St T cn K N d wi_road2 wr_road2 I0 R0 I' R' ∧ ((I' x 1).toInt = (I' m 6).toInt) ∧ True → Tr X mL_law 1392 ls [] cn K N I' R' L' n w) : Tr X mL_law 318 ls [] cn K N I0 R0 L0 n w := by
  have hS0 : St T cn K N d wi_road2 wr_road2 I0 R0 I0 R0 := St.rf0 hW0
  obtain ⟨v1, c2⟩ : ∃ v, I0 x 1 = v := ⟨_, rfl⟩
  have b3 := iv1_1 hW0 tx c2
  obtain ⟨v4, c5⟩ : ∃ v, I0 m 6 = v := ⟨_, rfl⟩
  have b6 := iv15_6 hW0 tm c5
  have p7 := pre0
  rw [c2] at p7
  rw [c5] at p7
  refine tr_aload_n dL_law_318 hl1 ?_
  obtain ⟨v8, c9⟩ : ∃ v, I0 x 15 = v := ⟨_, rfl⟩
  refine q_callVi hE (M' := mX10_fault) (as := []) dL_law_319 lk13_28 inX10_fault seX10_fault myX10_fault (by decide) ⟨by decide, by decide⟩ rfl (kR1 hS0.1 tx) (Nat.le_of_ble_eq_true rfl) rfl rfl hn hw (k_X10_fault hS0.1 tx) ?_
  rintro v14 cn' K' N' I10 R11 L12 ⟨rfl, rfl, rfl, rfl, rfl, rfl, p15, -⟩
  rw [c9] at p15
  refine tr_pop dL_law_322 rfl ?_
  refine tr_aload_n dL_law_323 hl2 ?_
  obtain ⟨v16, c17⟩ : ∃ v, I0 m 13 = v := ⟨_, rfl⟩
  refine q_callVi hE (M' := mX12_fault) (as := []) dL_law_324 lk13_32 inX12_fault seX12_fault myX12_fault (by decide) ⟨by decide, by decide⟩ rfl (kR15 hS0.1 tm) (Nat.le_of_ble_eq_true rfl) rfl rfl hn hw (k_X12_fault hS0.1 tm) ?_
  rintro v22 cn' K' N' I18 R19 L20 ⟨rfl, rfl, rfl, rfl, rfl, g21, p23, -⟩
  have hS24 := hS0.tr g21 (by decide +kernel) (by decide +kernel)
  rw [c17] at p23
  refine tr_pop dL_law_327 rfl ?_
  refine tr_goto 1392 dL_law_328 (by decide) ?_
  exact hk _ _ _ ⟨hS24, (by (try rw [((hS24.cell tx (by decide +kernel)).trans c2)]); (try rw [((hS24.cell tm (by decide +kernel)).trans c5)]); (try omega)), trivial⟩
def wi_road4 : List Nat := [73, 81, 768, 769, 778, 960, 961, 962, 2303, 2367, 2431, 2495, 2559, 2623, 2687, 2751, 2815, 5247, 5311, 5375, 5439, 5503, 5567]
def wr_road4 : List Nat := []
set_option maxHeartbeats 4000000 in
theorem s_road4 {X : cz_X} (hE : cz_env X) {T : Nat → Nat} {cn : Nat} {K N : Nat → Nat} {I0 : cz_I} {R0 : cz_R} {L0 : cz_L} {d : Int} (hW0 : Wf T cn K N I0 R0 d) {x : Nat} (tx : T x = 1) {m : Nat} (tm : T m = 15) {o : Nat} (tox : T o = 94) {i0 : Int32} {Ln : Nat} {xs : Nat → Int32} (hs : cz_scr X Ln xs) (hi0 : 0 ≤ i0.toInt ∧ i0.toInt + 6 ≤ (Ln : Int) ∧ (Ln : Int) ≤ 3072) {n w : Nat} (hn : n ≤ (cz_rm mL_law).cells) (hw : w ≤ (cz_rm mL_law).slots) (pre0 : (I0 x 1).toInt = (I0 m 6).toInt) {ls : Nat → Option Value} (hl0 : ls 0 = some (.float 1000000)) (hl1 : ls 1 = some (.ref x)) (hl2 : ls 2 = some (.ref m)) (hl3 : ls 3 = some (.ref o)) (hl4 : ls 4 = some (.int i0)) (hk : ∀ (I' : cz_I) (R' : cz_R) (L' : cz_L), St T cn K N d wi_road4 wr_road4 I0 R0 I' R' ∧ ((I' x 1).toInt = (I' m 6).toInt) ∧ ((I' x 17).toInt ≠ 4) ∧ ((I' m 2).toInt = -1) ∧ True → Tr X mL_law 1392 ls [] cn K N I' R' L' n w) : Tr X mL_law 344 ls [] cn K N I0 R0 L0 n w := by
  have hS0 : St T cn K N d wi_road4 wr_road4 I0 R0 I0 R0 := St.rf0 hW0
  obtain ⟨v1, c2⟩ : ∃ v, I0 x 1 = v := ⟨_, rfl⟩
  have b3 := iv1_1 hW0 tx c2
  obtain ⟨v4, c5⟩ : ∃ v, I0 m 6 = v := ⟨_, rfl⟩
  have b6 := iv15_6 hW0 tm c5
  have p7 := pre0
  rw [c2] at p7
  rw [c5] at p7
  refine tr_aload_n dL_law_344 hl1 ?_
  refine tr_aload_nS dL_law_345 hl0 ?_
  refine tr_iload dL_law_346 hl4 ?_
  refine q_iconst dL_law_348 (by decide) ?_
  intro v8 h9
  refine q_iaddE dL_law_349 (by intros; omega) ?_
  intro v10 h11
  refine q_sld hs dL_law_350 (by omega) (by omega) ?_
  intro v12
  refine q_callVi hE (M' := mX10_sky) (as := [_]) dL_law_351 lk13_37 inX10_sky seX10_sky myX10_sky (by decide) ⟨by decide, by decide⟩ rfl (kR1 hS0.1 tx) (Nat.le_of_ble_eq_true rfl) rfl rfl hn hw (k_X10_sky hS0.1 tx) ?_
  rintro v17 cn' K' N' I13 R14 L15 ⟨rfl, rfl, rfl, rfl, rfl, g16, p18, -⟩
  have hS19 := hS0.tr g16 (by decide +kernel) (by decide +kernel)
  obtain ⟨v20, c21⟩ : ∃ v, I13 x 17 = v := ⟨_, rfl⟩
  rw [c21] at p18
  refine tr_pop dL_law_354 rfl ?_
  refine tr_aload_n dL_law_355 hl2 ?_
  refine tr_aload_nS dL_law_356 hl0 ?_
  refine tr_iload dL_law_357 hl4 ?_
  refine q_iconst dL_law_359 (by decide) ?_
  intro v22 h23
  refine q_iaddE dL_law_360 (by intros; omega) ?_
  intro v24 h25
  refine q_sld hs dL_law_361 (by omega) (by omega) ?_
  intro v26
  refine q_callVi hE (M' := mX12_sky) (as := [_]) dL_law_362 lk13_40 inX12_sky seX12_sky myX12_sky (by decide) ⟨by decide, by decide⟩ rfl (kR15 hS19.1 tm) (Nat.le_of_ble_eq_true rfl) rfl rfl hn hw (k_X12_sky hS19.1 tm) ?_
  rintro v31 cn' K' N' I27 R28 L29 ⟨rfl, rfl, rfl, rfl, rfl, g30, p32, -⟩
  have hS33 := hS19.tr g30 (by decide +kernel) (by decide +kernel)
  have c34 : I27 x 17 = v20 := (g30.cell tx (by decide +kernel)).trans c21
  obtain ⟨v35, c36⟩ : ∃ v, I27 m 2 = v := ⟨_, rfl⟩
  rw [c36] at p32
  refine tr_pop dL_law_365 rfl ?_
  refine tr_goto 1392 dL_law_366 (by decide) ?_
  exact hk _ _ _ ⟨hS33, (by (try rw [((hS33.cell tx (by decide +kernel)).trans c2)]); (try rw [((hS33.cell tm (by decide +kernel)).trans c5)]); (try omega)), (by (try rw [c34]); (try omega)), (by (try rw [c36]); (try omega)), trivial⟩
def wi_road5 : List Nat := [73, 81, 768, 769, 778, 960, 961, 962, 2303, 2367, 2431, 2495, 2559, 2623, 2687, 2751, 2815, 5247, 5311, 5375, 5439, 5503, 5567]
def wr_road5 : List Nat := []
set_option maxHeartbeats 4000000 in
theorem s_road5 {X : cz_X} (hE : cz_env X) {T : Nat → Nat} {cn : Nat} {K N : Nat → Nat} {I0 : cz_I} {R0 : cz_R} {L0 : cz_L} {d : Int} (hW0 : Wf T cn K N I0 R0 d) {x : Nat} (tx : T x = 1) {m : Nat} (tm : T m = 15) {o : Nat} (tox : T o = 94) {i0 : Int32} {Ln : Nat} {xs : Nat → Int32} (hs : cz_scr X Ln xs) (hi0 : 0 ≤ i0.toInt ∧ i0.toInt + 6 ≤ (Ln : Int) ∧ (Ln : Int) ≤ 3072) {n w : Nat} (hn : n ≤ (cz_rm mL_law).cells) (hw : w ≤ (cz_rm mL_law).slots) (pre0 : (I0 x 1).toInt = (I0 m 6).toInt) {ls : Nat → Option Value} (hl0 : ls 0 = some (.float 1000000)) (hl1 : ls 1 = some (.ref x)) (hl2 : ls 2 = some (.ref m)) (hl3 : ls 3 = some (.ref o)) (hl4 : ls 4 = some (.int i0)) (hk : ∀ (I' : cz_I) (R' : cz_R) (L' : cz_L), St T cn K N d wi_road5 wr_road5 I0 R0 I' R' ∧ ((I' x 1).toInt = (I' m 6).toInt) ∧ ((I' x 17).toInt ≠ 4) ∧ ((I' m 2).toInt = -1) ∧ True → Tr X mL_law 1392 ls [] cn K N I' R' L' n w) : Tr X mL_law 369 ls [] cn K N I0 R0 L0 n w := by
  have hS0 : St T cn K N d wi_road5 wr_road5 I0 R0 I0 R0 := St.rf0 hW0
  obtain ⟨v1, c2⟩ : ∃ v, I0 x 1 = v := ⟨_, rfl⟩
  have b3 := iv1_1 hW0 tx c2
  obtain ⟨v4, c5⟩ : ∃ v, I0 m 6 = v := ⟨_, rfl⟩
  have b6 := iv15_6 hW0 tm c5
  have p7 := pre0
  rw [c2] at p7
  rw [c5] at p7
  refine tr_aload_n dL_law_369 hl1 ?_
  refine tr_aload_nS dL_law_370 hl0 ?_
  refine tr_iload dL_law_371 hl4 ?_
  refine q_iconst dL_law_373 (by decide) ?_
  intro v8 h9
  refine q_iaddE dL_law_374 (by intros; omega) ?_
  intro v10 h11
  refine q_sld hs dL_law_375 (by omega) (by omega) ?_
  intro v12
  refine tr_aload_nS dL_law_376 hl0 ?_
  refine tr_iload dL_law_377 hl4 ?_
  refine q_iconst dL_law_379 (by decide) ?_
  intro v13 h14
  refine q_iaddE dL_law_380 (by intros; omega) ?_
  intro v15 h16
  refine q_sld hs dL_law_381 (by omega) (by omega) ?_
  intro v17
  refine tr_aload_nS dL_law_382 hl0 ?_
  refine tr_iload dL_law_383 hl4 ?_
  refine q_iconst dL_law_385 (by decide) ?_
  intro v18 h19
  refine q_iaddE dL_law_386 (by intros; omega) ?_
  intro v20 h21
  refine q_sld hs dL_law_387 (by omega) (by omega) ?_
  intro v22
  refine q_if_eq 395 dL_law_388 (by decide) (fun h23 => ?_) (fun h23 => ?_)
  · skip
    refine q_iconst dL_law_395 (by decide) ?_
    intro v24 h25
    refine q_callVi hE (M' := mX10_light) (as := [_, _, _]) dL_law_396 lk13_41 inX10_light seX10_light myX10_light (by decide) ⟨by decide, by decide⟩ rfl (kR1 hS0.1 tx) (Nat.le_of_ble_eq_true rfl) rfl rfl hn hw (k_X10_light hS0.1 tx) ?_
    rintro v30 cn' K' N' I26 R27 L28 ⟨rfl, rfl, rfl, rfl, rfl, g29, p31, -⟩
    have hS32 := hS0.tr g29 (by decide +kernel) (by decide +kernel)
    obtain ⟨v33, c34⟩ : ∃ v, I26 x 17 = v := ⟨_, rfl⟩
    rw [c34] at p31
    refine tr_pop dL_law_399 rfl ?_
    refine tr_aload_n dL_law_400 hl2 ?_
    refine tr_aload_nS dL_law_401 hl0 ?_
    refine tr_iload dL_law_402 hl4 ?_
    refine q_iconst dL_law_404 (by decide) ?_
    intro v35 h36
    refine q_iaddE dL_law_405 (by intros; omega) ?_
    intro v37 h38
    refine q_sld hs dL_law_406 (by omega) (by omega) ?_
    intro v39
    refine tr_aload_nS dL_law_407 hl0 ?_
    refine tr_iload dL_law_408 hl4 ?_
    refine q_iconst dL_law_410 (by decide) ?_
    intro v40 h41
    refine q_iaddE dL_law_411 (by intros; omega) ?_
    intro v42 h43
    refine q_sld hs dL_law_412 (by omega) (by omega) ?_
    intro v44
    refine tr_aload_nS dL_law_413 hl0 ?_
    refine tr_iload dL_law_414 hl4 ?_
    refine q_iconst dL_law_416 (by decide) ?_
    intro v45 h46
    refine q_iaddE dL_law_417 (by intros; omega) ?_
    intro v47 h48
    refine q_sld hs dL_law_418 (by omega) (by omega) ?_
    intro v49
    refine q_if_eq 426 dL_law_419 (by decide) (fun h50 => ?_) (fun h50 => ?_)
    · skip
      refine q_iconst dL_law_426 (by decide) ?_
      intro v51 h52
      refine q_callVi hE (M' := mX12_light) (as := [_, _, _]) dL_law_427 lk13_45 inX12_light seX12_light myX12_light (by decide) ⟨by decide, by decide⟩ rfl (kR15 hS32.1 tm) (Nat.le_of_ble_eq_true rfl) rfl rfl hn hw (k_X12_light hS32.1 tm) ?_
      rintro v57 cn' K' N' I53 R54 L55 ⟨rfl, rfl, rfl, rfl, rfl, g56, p58, -⟩
      have hS59 := hS32.tr g56 (by decide +kernel) (by decide +kernel)
      have c60 : I53 x 17 = v33 := (g56.cell tx (by decide +kernel)).trans c34
      obtain ⟨v61, c62⟩ : ∃ v, I53 m 2 = v := ⟨_, rfl⟩
      rw [c62] at p58
      refine tr_pop dL_law_430 rfl ?_
      refine tr_goto 1392 dL_law_431 (by decide) ?_
      exact hk _ _ _ ⟨hS59, (by (try rw [((hS59.cell tx (by decide +kernel)).trans c2)]); (try rw [((hS59.cell tm (by decide +kernel)).trans c5)]); (try omega)), (by (try rw [c60]); (try omega)), (by (try rw [c62]); (try omega)), trivial⟩
    · skip
      refine q_iconst dL_law_422 (by decide) ?_
      intro v63 h64
      refine tr_goto 427 dL_law_423 (by decide) ?_
      refine q_callVi hE (M' := mX12_light) (as := [_, _, _]) dL_law_427 lk13_45 inX12_light seX12_light myX12_light (by decide) ⟨by decide, by decide⟩ rfl (kR15 hS32.1 tm) (Nat.le_of_ble_eq_true rfl) rfl rfl hn hw (k_X12_light hS32.1 tm) ?_
      rintro v69 cn' K' N' I65 R66 L67 ⟨rfl, rfl, rfl, rfl, rfl, g68, p70, -⟩
      have hS71 := hS32.tr g68 (by decide +kernel) (by decide +kernel)
      have c72 : I65 x 17 = v33 := (g68.cell tx (by decide +kernel)).trans c34
      obtain ⟨v73, c74⟩ : ∃ v, I65 m 2 = v := ⟨_, rfl⟩
      rw [c74] at p70
      refine tr_pop dL_law_430 rfl ?_
      refine tr_goto 1392 dL_law_431 (by decide) ?_
      exact hk _ _ _ ⟨hS71, (by (try rw [((hS71.cell tx (by decide +kernel)).trans c2)]); (try rw [((hS71.cell tm (by decide +kernel)).trans c5)]); (try omega)), (by (try rw [c72]); (try omega)), (by (try rw [c74]); (try omega)), trivial⟩
  · skip
    refine q_iconst dL_law_391 (by decide) ?_
    intro v75 h76
    refine tr_goto 396 dL_law_392 (by decide) ?_
    refine q_callVi hE (M' := mX10_light) (as := [_, _, _]) dL_law_396 lk13_41 inX10_light seX10_light myX10_light (by decide) ⟨by decide, by decide⟩ rfl (kR1 hS0.1 tx) (Nat.le_of_ble_eq_true rfl) rfl rfl hn hw (k_X10_light hS0.1 tx) ?_
    rintro v81 cn' K' N' I77 R78 L79 ⟨rfl, rfl, rfl, rfl, rfl, g80, p82, -⟩
    have hS83 := hS0.tr g80 (by decide +kernel) (by decide +kernel)
    obtain ⟨v84, c85⟩ : ∃ v, I77 x 17 = v := ⟨_, rfl⟩
    rw [c85] at p82
    refine tr_pop dL_law_399 rfl ?_
    refine tr_aload_n dL_law_400 hl2 ?_
    refine tr_aload_nS dL_law_401 hl0 ?_
    refine tr_iload dL_law_402 hl4 ?_
    refine q_iconst dL_law_404 (by decide) ?_
    intro v86 h87
    refine q_iaddE dL_law_405 (by intros; omega) ?_
    intro v88 h89
    refine q_sld hs dL_law_406 (by omega) (by omega) ?_
    intro v90
    refine tr_aload_nS dL_law_407 hl0 ?_
    refine tr_iload dL_law_408 hl4 ?_
    refine q_iconst dL_law_410 (by decide) ?_
    intro v91 h92
    refine q_iaddE dL_law_411 (by intros; omega) ?_
    intro v93 h94
    refine q_sld hs dL_law_412 (by omega) (by omega) ?_
    intro v95
    refine tr_aload_nS dL_law_413 hl0 ?_
    refine tr_iload dL_law_414 hl4 ?_
    refine q_iconst dL_law_416 (by decide) ?_
    intro v96 h97
    refine q_iaddE dL_law_417 (by intros; omega) ?_
    intro v98 h99
    refine q_sld hs dL_law_418 (by omega) (by omega) ?_
    intro v100
    refine q_if_eq 426 dL_law_419 (by decide) (fun h101 => ?_) (fun h101 => ?_)
    · skip
      refine q_iconst dL_law_426 (by decide) ?_
      intro v102 h103
      refine q_callVi hE (M' := mX12_light) (as := [_, _, _]) dL_law_427 lk13_45 inX12_light seX12_light myX12_light (by decide) ⟨by decide, by decide⟩ rfl (kR15 hS83.1 tm) (Nat.le_of_ble_eq_true rfl) rfl rfl hn hw (k_X12_light hS83.1 tm) ?_
      rintro v108 cn' K' N' I104 R105 L106 ⟨rfl, rfl, rfl, rfl, rfl, g107, p109, -⟩
      have hS110 := hS83.tr g107 (by decide +kernel) (by decide +kernel)
      have c111 : I104 x 17 = v84 := (g107.cell tx (by decide +kernel)).trans c85
      obtain ⟨v112, c113⟩ : ∃ v, I104 m 2 = v := ⟨_, rfl⟩
      rw [c113] at p109
      refine tr_pop dL_law_430 rfl ?_
      refine tr_goto 1392 dL_law_431 (by decide) ?_
      exact hk _ _ _ ⟨hS110, (by (try rw [((hS110.cell tx (by decide +kernel)).trans c2)]); (try rw [((hS110.cell tm (by decide +kernel)).trans c5)]); (try omega)), (by (try rw [c111]); (try omega)), (by (try rw [c113]); (try omega)), trivial⟩
    · skip
      refine q_iconst dL_law_422 (by decide) ?_
      intro v114 h115
      refine tr_goto 427 dL_law_423 (by decide) ?_
      refine q_callVi hE (M' := mX12_light) (as := [_, _, _]) dL_law_427 lk13_45 inX12_light seX12_light myX12_light (by decide) ⟨by decide, by decide⟩ rfl (kR15 hS83.1 tm) (Nat.le_of_ble_eq_true rfl) rfl rfl hn hw (k_X12_light hS83.1 tm) ?_
      rintro v120 cn' K' N' I116 R117 L118 ⟨rfl, rfl, rfl, rfl, rfl, g119, p121, -⟩
      have hS122 := hS83.tr g119 (by decide +kernel) (by decide +kernel)
      have c123 : I116 x 17 = v84 := (g119.cell tx (by decide +kernel)).trans c85
      obtain ⟨v124, c125⟩ : ∃ v, I116 m 2 = v := ⟨_, rfl⟩
      rw [c125] at p121
      refine tr_pop dL_law_430 rfl ?_
      refine tr_goto 1392 dL_law_431 (by decide) ?_
      exact hk _ _ _ ⟨hS122, (by (try rw [((hS122.cell tx (by decide +kernel)).trans c2)]); (try rw [((hS122.cell tm (by decide +kernel)).trans c5)]); (try omega)), (by (try rw [c123]); (try omega)), (by (try rw [c125]); (try omega)), trivial⟩
def wi_road6 : List Nat := [73, 81, 768, 769, 778, 960, 961, 962, 2303, 2367, 2431, 2495, 2559, 2623, 2687, 2751, 2815, 5247, 5311, 5375, 5439, 5503, 5567]
def wr_road6 : List Nat := []
set_option maxHeartbeats 4000000 in
theorem s_road6 {X : cz_X} (hE : cz_env X) {T : Nat → Nat} {cn : Nat} {K N : Nat → Nat} {I0 : cz_I} {R0 : cz_R} {L0 : cz_L} {d : Int} (hW0 : Wf T cn K N I0 R0 d) {x : Nat} (tx : T x = 1) {m : Nat} (tm : T m = 15) {o : Nat} (tox : T o = 94) {i0 : Int32} {Ln : Nat} {xs : Nat → Int32} (hs : cz_scr X Ln xs) (hi0 : 0 ≤ i0.toInt ∧ i0.toInt + 6 ≤ (Ln : Int) ∧ (Ln : Int) ≤ 3072) {n w : Nat} (hn : n ≤ (cz_rm mL_law).cells) (hw : w ≤ (cz_rm mL_law).slots) (pre0 : (I0 x 1).toInt = (I0 m 6).toInt) {ls : Nat → Option Value} (hl0 : ls 0 = some (.float 1000000)) (hl1 : ls 1 = some (.ref x)) (hl2 : ls 2 = some (.ref m)) (hl3 : ls 3 = some (.ref o)) (hl4 : ls 4 = some (.int i0)) (hk : ∀ (I' : cz_I) (R' : cz_R) (L' : cz_L), St T cn K N d wi_road6 wr_road6 I0 R0 I' R' ∧ ((I' x 1).toInt = (I' m 6).toInt) ∧ ((I' x 17).toInt ≠ 4) ∧ ((I' m 2).toInt = -1) ∧ True → Tr X mL_law 1392 ls [] cn K N I' R' L' n w) : Tr X mL_law 434 ls [] cn K N I0 R0 L0 n w := by
  have hS0 : St T cn K N d wi_road6 wr_road6 I0 R0 I0 R0 := St.rf0 hW0
  obtain ⟨v1, c2⟩ : ∃ v, I0 x 1 = v := ⟨_, rfl⟩
  have b3 := iv1_1 hW0 tx c2
  obtain ⟨v4, c5⟩ : ∃ v, I0 m 6 = v := ⟨_, rfl⟩
  have b6 := iv15_6 hW0 tm c5
  have p7 := pre0
  rw [c2] at p7
  rw [c5] at p7
  refine tr_aload_n dL_law_434 hl1 ?_
  refine tr_aload_nS dL_law_435 hl0 ?_
  refine tr_iload dL_law_436 hl4 ?_
  refine q_iconst dL_law_438 (by decide) ?_
  intro v8 h9
  refine q_iaddE dL_law_439 (by intros; omega) ?_
  intro v10 h11
  refine q_sld hs dL_law_440 (by omega) (by omega) ?_
  intro v12
  refine tr_aload_nS dL_law_441 hl0 ?_
  refine tr_iload dL_law_442 hl4 ?_
  refine q_iconst dL_law_444 (by decide) ?_
  intro v13 h14
  refine q_iaddE dL_law_445 (by intros; omega) ?_
  intro v15 h16
  refine q_sld hs dL_law_446 (by omega) (by omega) ?_
  intro v17
  refine q_if_eq 454 dL_law_447 (by decide) (fun h18 => ?_) (fun h18 => ?_)
  · skip
    refine q_iconst dL_law_454 (by decide) ?_
    intro v19 h20
    refine q_callVi hE (M' := mX10_changes) (as := [_, _]) dL_law_455 lk13_46 inX10_changes seX10_changes myX10_changes (by decide) ⟨by decide, by decide⟩ rfl (kR1 hS0.1 tx) (Nat.le_of_ble_eq_true rfl) rfl rfl hn hw (k_X10_changes hS0.1 tx) ?_
    rintro v25 cn' K' N' I21 R22 L23 ⟨rfl, rfl, rfl, rfl, rfl, g24, p26, -⟩
    have hS27 := hS0.tr g24 (by decide +kernel) (by decide +kernel)
    obtain ⟨v28, c29⟩ : ∃ v, I21 x 17 = v := ⟨_, rfl⟩
    rw [c29] at p26
    refine tr_pop dL_law_458 rfl ?_
    refine tr_aload_n dL_law_459 hl2 ?_
    refine tr_aload_nS dL_law_460 hl0 ?_
    refine tr_iload dL_law_461 hl4 ?_
    refine q_iconst dL_law_463 (by decide) ?_
    intro v30 h31
    refine q_iaddE dL_law_464 (by intros; omega) ?_
    intro v32 h33
    refine q_sld hs dL_law_465 (by omega) (by omega) ?_
    intro v34
    refine tr_aload_nS dL_law_466 hl0 ?_
    refine tr_iload dL_law_467 hl4 ?_
    refine q_iconst dL_law_469 (by decide) ?_
    intro v35 h36
    refine q_iaddE dL_law_470 (by intros; omega) ?_
    intro v37 h38
    refine q_sld hs dL_law_471 (by omega) (by omega) ?_
    intro v39
    refine q_if_eq 479 dL_law_472 (by decide) (fun h40 => ?_) (fun h40 => ?_)
    · skip
      refine q_iconst dL_law_479 (by decide) ?_
      intro v41 h42
      refine q_callVi hE (M' := mX12_changes) (as := [_, _]) dL_law_480 lk13_50 inX12_changes seX12_changes myX12_changes (by decide) ⟨by decide, by decide⟩ rfl (kR15 hS27.1 tm) (Nat.le_of_ble_eq_true rfl) rfl rfl hn hw (k_X12_changes hS27.1 tm) ?_
      rintro v47 cn' K' N' I43 R44 L45 ⟨rfl, rfl, rfl, rfl, rfl, g46, p48, -⟩
      have hS49 := hS27.tr g46 (by decide +kernel) (by decide +kernel)
      have c50 : I43 x 17 = v28 := (g46.cell tx (by decide +kernel)).trans c29
      obtain ⟨v51, c52⟩ : ∃ v, I43 m 2 = v := ⟨_, rfl⟩
      rw [c52] at p48
      refine tr_pop dL_law_483 rfl ?_
      refine tr_goto 1392 dL_law_484 (by decide) ?_
      exact hk _ _ _ ⟨hS49, (by (try rw [((hS49.cell tx (by decide +kernel)).trans c2)]); (try rw [((hS49.cell tm (by decide +kernel)).trans c5)]); (try omega)), (by (try rw [c50]); (try omega)), (by (try rw [c52]); (try omega)), trivial⟩
    · skip
      refine q_iconst dL_law_475 (by decide) ?_
      intro v53 h54
      refine tr_goto 480 dL_law_476 (by decide) ?_
      refine q_callVi hE (M' := mX12_changes) (as := [_, _]) dL_law_480 lk13_50 inX12_changes seX12_changes myX12_changes (by decide) ⟨by decide, by decide⟩ rfl (kR15 hS27.1 tm) (Nat.le_of_ble_eq_true rfl) rfl rfl hn hw (k_X12_changes hS27.1 tm) ?_
      rintro v59 cn' K' N' I55 R56 L57 ⟨rfl, rfl, rfl, rfl, rfl, g58, p60, -⟩
      have hS61 := hS27.tr g58 (by decide +kernel) (by decide +kernel)
      have c62 : I55 x 17 = v28 := (g58.cell tx (by decide +kernel)).trans c29
      obtain ⟨v63, c64⟩ : ∃ v, I55 m 2 = v := ⟨_, rfl⟩
      rw [c64] at p60
      refine tr_pop dL_law_483 rfl ?_
      refine tr_goto 1392 dL_law_484 (by decide) ?_
      exact hk _ _ _ ⟨hS61, (by (try rw [((hS61.cell tx (by decide +kernel)).trans c2)]); (try rw [((hS61.cell tm (by decide +kernel)).trans c5)]); (try omega)), (by (try rw [c62]); (try omega)), (by (try rw [c64]); (try omega)), trivial⟩
  · skip
    refine q_iconst dL_law_450 (by decide) ?_
    intro v65 h66
    refine tr_goto 455 dL_law_451 (by decide) ?_
    refine q_callVi hE (M' := mX10_changes) (as := [_, _]) dL_law_455 lk13_46 inX10_changes seX10_changes myX10_changes (by decide) ⟨by decide, by decide⟩ rfl (kR1 hS0.1 tx) (Nat.le_of_ble_eq_true rfl) rfl rfl hn hw (k_X10_changes hS0.1 tx) ?_
    rintro v71 cn' K' N' I67 R68 L69 ⟨rfl, rfl, rfl, rfl, rfl, g70, p72, -⟩
    have hS73 := hS0.tr g70 (by decide +kernel) (by decide +kernel)
    obtain ⟨v74, c75⟩ : ∃ v, I67 x 17 = v := ⟨_, rfl⟩
    rw [c75] at p72
    refine tr_pop dL_law_458 rfl ?_
    refine tr_aload_n dL_law_459 hl2 ?_
    refine tr_aload_nS dL_law_460 hl0 ?_
    refine tr_iload dL_law_461 hl4 ?_
    refine q_iconst dL_law_463 (by decide) ?_
    intro v76 h77
    refine q_iaddE dL_law_464 (by intros; omega) ?_
    intro v78 h79
    refine q_sld hs dL_law_465 (by omega) (by omega) ?_
    intro v80
    refine tr_aload_nS dL_law_466 hl0 ?_
    refine tr_iload dL_law_467 hl4 ?_
    refine q_iconst dL_law_469 (by decide) ?_
    intro v81 h82
    refine q_iaddE dL_law_470 (by intros; omega) ?_
    intro v83 h84
    refine q_sld hs dL_law_471 (by omega) (by omega) ?_
    intro v85
    refine q_if_eq 479 dL_law_472 (by decide) (fun h86 => ?_) (fun h86 => ?_)
    · skip
      refine q_iconst dL_law_479 (by decide) ?_
      intro v87 h88
      refine q_callVi hE (M' := mX12_changes) (as := [_, _]) dL_law_480 lk13_50 inX12_changes seX12_changes myX12_changes (by decide) ⟨by decide, by decide⟩ rfl (kR15 hS73.1 tm) (Nat.le_of_ble_eq_true rfl) rfl rfl hn hw (k_X12_changes hS73.1 tm) ?_
      rintro v93 cn' K' N' I89 R90 L91 ⟨rfl, rfl, rfl, rfl, rfl, g92, p94, -⟩
      have hS95 := hS73.tr g92 (by decide +kernel) (by decide +kernel)
      have c96 : I89 x 17 = v74 := (g92.cell tx (by decide +kernel)).trans c75
      obtain ⟨v97, c98⟩ : ∃ v, I89 m 2 = v := ⟨_, rfl⟩
      rw [c98] at p94
      refine tr_pop dL_law_483 rfl ?_
      refine tr_goto 1392 dL_law_484 (by decide) ?_
      exact hk _ _ _ ⟨hS95, (by (try rw [((hS95.cell tx (by decide +kernel)).trans c2)]); (try rw [((hS95.cell tm (by decide +kernel)).trans c5)]); (try omega)), (by (try rw [c96]); (try omega)), (by (try rw [c98]); (try omega)), trivial⟩
    · skip
      refine q_iconst dL_law_475 (by decide) ?_
      intro v99 h100
      refine tr_goto 480 dL_law_476 (by decide) ?_
      refine q_callVi hE (M' := mX12_changes) (as := [_, _]) dL_law_480 lk13_50 inX12_changes seX12_changes myX12_changes (by decide) ⟨by decide, by decide⟩ rfl (kR15 hS73.1 tm) (Nat.le_of_ble_eq_true rfl) rfl rfl hn hw (k_X12_changes hS73.1 tm) ?_
      rintro v105 cn' K' N' I101 R102 L103 ⟨rfl, rfl, rfl, rfl, rfl, g104, p106, -⟩
      have hS107 := hS73.tr g104 (by decide +kernel) (by decide +kernel)
      have c108 : I101 x 17 = v74 := (g104.cell tx (by decide +kernel)).trans c75
      obtain ⟨v109, c110⟩ : ∃ v, I101 m 2 = v := ⟨_, rfl⟩
      rw [c110] at p106
      refine tr_pop dL_law_483 rfl ?_
      refine tr_goto 1392 dL_law_484 (by decide) ?_
      exact hk _ _ _ ⟨hS107, (by (try rw [((hS107.cell tx (by decide +kernel)).trans c2)]); (try rw [((hS107.cell tm (by decide +kernel)).trans c5)]); (try omega)), (by (try rw [c108]); (try omega)), (by (try rw [c110]); (try omega)), trivial⟩
def wi_road7 : List Nat := [73, 81, 768, 769, 778, 960, 961, 962, 2303, 2367, 2431, 2495, 2559, 2623, 2687, 2751, 2815, 5247, 5311, 5375, 5439, 5503, 5567]
def wr_road7 : List Nat := []
set_option maxHeartbeats 4000000 in
theorem s_road7 {X : cz_X} (hE : cz_env X) {T : Nat → Nat} {cn : Nat} {K N : Nat → Nat} {I0 : cz_I} {R0 : cz_R} {L0 : cz_L} {d : Int} (hW0 : Wf T cn K N I0 R0 d) {x : Nat} (tx : T x = 1) {m : Nat} (tm : T m = 15) {o : Nat} (tox : T o = 94) {i0 : Int32} {Ln : Nat} {xs : Nat → Int32} (hs : cz_scr X Ln xs) (hi0 : 0 ≤ i0.toInt ∧ i0.toInt + 6 ≤ (Ln : Int) ∧ (Ln : Int) ≤ 3072) {n w : Nat} (hn : n ≤ (cz_rm mL_law).cells) (hw : w ≤ (cz_rm mL_law).slots) (pre0 : (I0 x 1).toInt = (I0 m 6).toInt) {ls : Nat → Option Value} (hl0 : ls 0 = some (.float 1000000)) (hl1 : ls 1 = some (.ref x)) (hl2 : ls 2 = some (.ref m)) (hl3 : ls 3 = some (.ref o)) (hl4 : ls 4 = some (.int i0)) (hk : ∀ (I' : cz_I) (R' : cz_R) (L' : cz_L), St T cn K N d wi_road7 wr_road7 I0 R0 I' R' ∧ ((I' x 1).toInt = (I' m 6).toInt) ∧ ((I' x 17).toInt ≠ 4) ∧ ((I' m 2).toInt = -1) ∧ True → Tr X mL_law 1392 ls [] cn K N I' R' L' n w) : Tr X mL_law 487 ls [] cn K N I0 R0 L0 n w := by
  have hS0 : St T cn K N d wi_road7 wr_road7 I0 R0 I0 R0 := St.rf0 hW0
  obtain ⟨v1, c2⟩ : ∃ v, I0 x 1 = v := ⟨_, rfl⟩
  have b3 := iv1_1 hW0 tx c2
  obtain ⟨v4, c5⟩ : ∃ v, I0 m 6 = v := ⟨_, rfl⟩
  have b6 := iv15_6 hW0 tm c5
  have p7 := pre0
  rw [c2] at p7
  rw [c5] at p7
  refine tr_aload_n dL_law_487 hl1 ?_
  refine tr_aload_nS dL_law_488 hl0 ?_
  refine tr_iload dL_law_489 hl4 ?_
  refine q_iconst dL_law_491 (by decide) ?_
  intro v8 h9
  refine q_iaddE dL_law_492 (by intros; omega) ?_
  intro v10 h11
  refine q_sld hs dL_law_493 (by omega) (by omega) ?_
  intro v12
  refine tr_aload_nS dL_law_494 hl0 ?_
  refine tr_iload dL_law_495 hl4 ?_
  refine q_iconst dL_law_497 (by decide) ?_
  intro v13 h14
  refine q_iaddE dL_law_498 (by intros; omega) ?_
  intro v15 h16
  refine q_sld hs dL_law_499 (by omega) (by omega) ?_
  intro v17
  refine q_callVi hE (M' := mX10_change) (as := [_, _]) dL_law_500 lk13_51 inX10_change seX10_change myX10_change (by decide) ⟨by decide, by decide⟩ rfl (kR1 hS0.1 tx) (Nat.le_of_ble_eq_true rfl) rfl rfl hn hw (k_X10_change hS0.1 tx) ?_
  rintro v22 cn' K' N' I18 R19 L20 ⟨rfl, rfl, rfl, rfl, rfl, g21, p23, -⟩
  have hS24 := hS0.tr g21 (by decide +kernel) (by decide +kernel)
  obtain ⟨v25, c26⟩ : ∃ v, I18 x 17 = v := ⟨_, rfl⟩
  rw [c26] at p23
  refine tr_pop dL_law_503 rfl ?_
  refine tr_aload_n dL_law_504 hl2 ?_
  refine tr_aload_nS dL_law_505 hl0 ?_
  refine tr_iload dL_law_506 hl4 ?_
  refine q_iconst dL_law_508 (by decide) ?_
  intro v27 h28
  refine q_iaddE dL_law_509 (by intros; omega) ?_
  intro v29 h30
  refine q_sld hs dL_law_510 (by omega) (by omega) ?_
  intro v31
  refine tr_aload_nS dL_law_511 hl0 ?_
  refine tr_iload dL_law_512 hl4 ?_
  refine q_iconst dL_law_514 (by decide) ?_
  intro v32 h33
  refine q_iaddE dL_law_515 (by intros; omega) ?_
  intro v34 h35
  refine q_sld hs dL_law_516 (by omega) (by omega) ?_
  intro v36
  refine q_callVi hE (M' := mX12_change) (as := [_, _]) dL_law_517 lk13_55 inX12_change seX12_change myX12_change (by decide) ⟨by decide, by decide⟩ rfl (kR15 hS24.1 tm) (Nat.le_of_ble_eq_true rfl) rfl rfl hn hw (k_X12_change hS24.1 tm) ?_
  rintro v41 cn' K' N' I37 R38 L39 ⟨rfl, rfl, rfl, rfl, rfl, g40, p42, -⟩
  have hS43 := hS24.tr g40 (by decide +kernel) (by decide +kernel)
  have c44 : I37 x 17 = v25 := (g40.cell tx (by decide +kernel)).trans c26
  obtain ⟨v45, c46⟩ : ∃ v, I37 m 2 = v := ⟨_, rfl⟩
  rw [c46] at p42
  refine tr_pop dL_law_520 rfl ?_
  refine tr_goto 1392 dL_law_521 (by decide) ?_
  exact hk _ _ _ ⟨hS43, (by (try rw [((hS43.cell tx (by decide +kernel)).trans c2)]); (try rw [((hS43.cell tm (by decide +kernel)).trans c5)]); (try omega)), (by (try rw [c44]); (try omega)), (by (try rw [c46]); (try omega)), trivial⟩
def wi_road8 : List Nat := [73, 81, 768, 769, 778, 960, 961, 962, 2303, 2367, 2431, 2495, 2559, 2623, 2687, 2751, 2815, 5247, 5311, 5375, 5439, 5503, 5567]
def wr_road8 : List Nat := []
set_option maxHeartbeats 4000000 in
theorem s_road8 {X : cz_X} (hE : cz_env X) {T : Nat → Nat} {cn : Nat} {K N : Nat → Nat} {I0 : cz_I} {R0 : cz_R} {L0 : cz_L} {d : Int} (hW0 : Wf T cn K N I0 R0 d) {x : Nat} (tx : T x = 1) {m : Nat} (tm : T m = 15) {o : Nat} (tox : T o = 94) {i0 : Int32} {Ln : Nat} {xs : Nat → Int32} (hs : cz_scr X Ln xs) (hi0 : 0 ≤ i0.toInt ∧ i0.toInt + 6 ≤ (Ln : Int) ∧ (Ln : Int) ≤ 3072) {n w : Nat} (hn : n ≤ (cz_rm mL_law).cells) (hw : w ≤ (cz_rm mL_law).slots) (pre0 : (I0 x 1).toInt = (I0 m 6).toInt) {ls : Nat → Option Value} (hl0 : ls 0 = some (.float 1000000)) (hl1 : ls 1 = some (.ref x)) (hl2 : ls 2 = some (.ref m)) (hl3 : ls 3 = some (.ref o)) (hl4 : ls 4 = some (.int i0)) (hk : ∀ (I' : cz_I) (R' : cz_R) (L' : cz_L), St T cn K N d wi_road8 wr_road8 I0 R0 I' R' ∧ ((I' x 1).toInt = (I' m 6).toInt) ∧ ((I' x 17).toInt ≠ 4) ∧ ((I' m 2).toInt = -1) ∧ True → Tr X mL_law 1392 ls [] cn K N I' R' L' n w) : Tr X mL_law 524 ls [] cn K N I0 R0 L0 n w := by
  have hS0 : St T cn K N d wi_road8 wr_road8 I0 R0 I0 R0 := St.rf0 hW0
  obtain ⟨v1, c2⟩ : ∃ v, I0 x 1 = v := ⟨_, rfl⟩
  have b3 := iv1_1 hW0 tx c2
  obtain ⟨v4, c5⟩ : ∃ v, I0 m 6 = v := ⟨_, rfl⟩
  have b6 := iv15_6 hW0 tm c5
  have p7 := pre0
  rw [c2] at p7
  rw [c5] at p7
  refine tr_aload_n dL_law_524 hl1 ?_
  refine q_callVi hE (M' := mX10_peak) (as := []) dL_law_525 lk13_56 inX10_peak seX10_peak myX10_peak (by decide) ⟨by decide, by decide⟩ rfl (kR1 hS0.1 tx) (Nat.le_of_ble_eq_true rfl) rfl rfl hn hw (k_X10_peak hS0.1 tx) ?_
  rintro v12 cn' K' N' I8 R9 L10 ⟨rfl, rfl, rfl, rfl, rfl, g11, p13, -⟩
  have hS14 := hS0.tr g11 (by decide +kernel) (by decide +kernel)
  obtain ⟨v15, c16⟩ : ∃ v, I8 x 17 = v := ⟨_, rfl⟩
  rw [c16] at p13
  refine tr_pop dL_law_528 rfl ?_
  refine tr_aload_n dL_law_529 hl2 ?_
  refine q_callVi hE (M' := mX12_peak) (as := []) dL_law_530 lk13_59 inX12_peak seX12_peak myX12_peak (by decide) ⟨by decide, by decide⟩ rfl (kR15 hS14.1 tm) (Nat.le_of_ble_eq_true rfl) rfl rfl hn hw (k_X12_peak hS14.1 tm) ?_
  rintro v21 cn' K' N' I17 R18 L19 ⟨rfl, rfl, rfl, rfl, rfl, g20, p22, -⟩
  have hS23 := hS14.tr g20 (by decide +kernel) (by decide +kernel)
  have c24 : I17 x 17 = v15 := (g20.cell tx (by decide +kernel)).trans c16
  obtain ⟨v25, c26⟩ : ∃ v, I17 m 2 = v := ⟨_, rfl⟩
  rw [c26] at p22
  refine tr_pop dL_law_533 rfl ?_
  refine tr_goto 1392 dL_law_534 (by decide) ?_
  exact hk _ _ _ ⟨hS23, (by (try rw [((hS23.cell tx (by decide +kernel)).trans c2)]); (try rw [((hS23.cell tm (by decide +kernel)).trans c5)]); (try omega)), (by (try rw [c24]); (try omega)), (by (try rw [c26]); (try omega)), trivial⟩
def wi_road9 : List Nat := [73, 81, 768, 769, 778, 960, 961, 962, 2303, 2367, 2431, 2495, 2559, 2623, 2687, 2751, 2815, 5247, 5311, 5375, 5439, 5503, 5567]
def wr_road9 : List Nat := []
set_option maxHeartbeats 4000000 in
theorem s_road9 {X : cz_X} (hE : cz_env X) {T : Nat → Nat} {cn : Nat} {K N : Nat → Nat} {I0 : cz_I} {R0 : cz_R} {L0 : cz_L} {d : Int} (hW0 : Wf T cn K N I0 R0 d) {x : Nat} (tx : T x = 1) {m : Nat} (tm : T m = 15) {o : Nat} (tox : T o = 94) {i0 : Int32} {Ln : Nat} {xs : Nat → Int32} (hs : cz_scr X Ln xs) (hi0 : 0 ≤ i0.toInt ∧ i0.toInt + 6 ≤ (Ln : Int) ∧ (Ln : Int) ≤ 3072) {n w : Nat} (hn : n ≤ (cz_rm mL_law).cells) (hw : w ≤ (cz_rm mL_law).slots) (pre0 : (I0 x 1).toInt = (I0 m 6).toInt) {ls : Nat → Option Value} (hl0 : ls 0 = some (.float 1000000)) (hl1 : ls 1 = some (.ref x)) (hl2 : ls 2 = some (.ref m)) (hl3 : ls 3 = some (.ref o)) (hl4 : ls 4 = some (.int i0)) (hk : ∀ (I' : cz_I) (R' : cz_R) (L' : cz_L), St T cn K N d wi_road9 wr_road9 I0 R0 I' R' ∧ ((I' x 1).toInt = (I' m 6).toInt) ∧ ((I' x 17).toInt ≠ 4) ∧ ((I' m 2).toInt = -1) ∧ True → Tr X mL_law 1392 ls [] cn K N I' R' L' n w) : Tr X mL_law 537 ls [] cn K N I0 R0 L0 n w := by
  have hS0 : St T cn K N d wi_road9 wr_road9 I0 R0 I0 R0 := St.rf0 hW0
  obtain ⟨v1, c2⟩ : ∃ v, I0 x 1 = v := ⟨_, rfl⟩
  have b3 := iv1_1 hW0 tx c2
  obtain ⟨v4, c5⟩ : ∃ v, I0 m 6 = v := ⟨_, rfl⟩
  have b6 := iv15_6 hW0 tm c5
  have p7 := pre0
  rw [c2] at p7
  rw [c5] at p7
  refine tr_aload_n dL_law_537 hl1 ?_
  refine tr_aload_nS dL_law_538 hl0 ?_
  refine tr_iload dL_law_539 hl4 ?_
  refine q_iconst dL_law_541 (by decide) ?_
  intro v8 h9
  refine q_iaddE dL_law_542 (by intros; omega) ?_
  intro v10 h11
  refine q_sld hs dL_law_543 (by omega) (by omega) ?_
  intro v12
  refine q_callVi hE (M' := mX10_due) (as := [_]) dL_law_544 lk13_60 inX10_due seX10_due myX10_due (by decide) ⟨by decide, by decide⟩ rfl (kR1 hS0.1 tx) (Nat.le_of_ble_eq_true rfl) rfl rfl hn hw (k_X10_due hS0.1 tx) ?_
  rintro v17 cn' K' N' I13 R14 L15 ⟨rfl, rfl, rfl, rfl, rfl, g16, p18, -⟩
  have hS19 := hS0.tr g16 (by decide +kernel) (by decide +kernel)
  obtain ⟨v20, c21⟩ : ∃ v, I13 x 17 = v := ⟨_, rfl⟩
  rw [c21] at p18
  refine tr_pop dL_law_547 rfl ?_
  refine tr_aload_n dL_law_548 hl2 ?_
  refine tr_aload_nS dL_law_549 hl0 ?_
  refine tr_iload dL_law_550 hl4 ?_
  refine q_iconst dL_law_552 (by decide) ?_
  intro v22 h23
  refine q_iaddE dL_law_553 (by intros; omega) ?_
  intro v24 h25
  refine q_sld hs dL_law_554 (by omega) (by omega) ?_
  intro v26
  refine q_callVi hE (M' := mX12_due) (as := [_]) dL_law_555 lk13_63 inX12_due seX12_due myX12_due (by decide) ⟨by decide, by decide⟩ rfl (kR15 hS19.1 tm) (Nat.le_of_ble_eq_true rfl) rfl rfl hn hw (k_X12_due hS19.1 tm) ?_
  rintro v31 cn' K' N' I27 R28 L29 ⟨rfl, rfl, rfl, rfl, rfl, g30, p32, -⟩
  have hS33 := hS19.tr g30 (by decide +kernel) (by decide +kernel)
  have c34 : I27 x 17 = v20 := (g30.cell tx (by decide +kernel)).trans c21
  obtain ⟨v35, c36⟩ : ∃ v, I27 m 2 = v := ⟨_, rfl⟩
  rw [c36] at p32
  refine tr_pop dL_law_558 rfl ?_
  refine tr_goto 1392 dL_law_559 (by decide) ?_
  exact hk _ _ _ ⟨hS33, (by (try rw [((hS33.cell tx (by decide +kernel)).trans c2)]); (try rw [((hS33.cell tm (by decide +kernel)).trans c5)]); (try omega)), (by (try rw [c34]); (try omega)), (by (try rw [c36]); (try omega)), trivial⟩
def wi_road10 : List Nat := [73, 75, 81, 768, 769, 778, 834, 960, 961, 962, 2303, 2367, 2431, 2495, 2559, 2623, 2687, 2751, 2815, 2879, 2943, 3007, 3071, 3135, 3199, 3263, 3327, 3391, 5247, 5311, 5375, 5439, 5503, 5567]
def wr_road10 : List Nat := [832, 833]
set_option maxHeartbeats 4000000 in
theorem s_road10 {X : cz_X} (hE : cz_env X) {T : Nat → Nat} {cn : Nat} {K N : Nat → Nat} {I0 : cz_I} {R0 : cz_R} {L0 : cz_L} {d : Int} (hW0 : Wf T cn K N I0 R0 d) {x : Nat} (tx : T x = 1) {m : Nat} (tm : T m = 15) {o : Nat} (tox : T o = 94) {i0 : Int32} {Ln : Nat} {xs : Nat → Int32} (hs : cz_scr X Ln xs) (hi0 : 0 ≤ i0.toInt ∧ i0.toInt + 6 ≤ (Ln : Int) ∧ (Ln : Int) ≤ 3072) {n w : Nat} (hn : n ≤ (cz_rm mL_law).cells) (hw : w ≤ (cz_rm mL_law).slots) (pre0 : (I0 x 1).toInt = (I0 m 6).toInt) {ls : Nat → Option Value} (hl0 : ls 0 = some (.float 1000000)) (hl1 : ls 1 = some (.ref x)) (hl2 : ls 2 = some (.ref m)) (hl3 : ls 3 = some (.ref o)) (hl4 : ls 4 = some (.int i0)) (hk : ∀ (I' : cz_I) (R' : cz_R) (L' : cz_L), St T cn K N d wi_road10 wr_road10 I0 R0 I' R' ∧ ((I' x 1).toInt = (I' m 6).toInt) ∧ ((I' x 17).toInt ≠ 4) ∧ ((I' m 2).toInt = -1) ∧ True → Tr X mL_law 1392 ls [] cn K N I' R' L' n w) : Tr X mL_law 562 ls [] cn K N I0 R0 L0 n w := by
  have hS0 : St T cn K N d wi_road10 wr_road10 I0 R0 I0 R0 := St.rf0 hW0
  obtain ⟨v1, c2⟩ : ∃ v, I0 x 1 = v := ⟨_, rfl⟩
  have b3 := iv1_1 hW0 tx c2
  obtain ⟨v4, c5⟩ : ∃ v, I0 m 6 = v := ⟨_, rfl⟩
  have b6 := iv15_6 hW0 tm c5
  have p7 := pre0
  rw [c2] at p7
  rw [c5] at p7
  refine tr_aload_n dL_law_562 hl1 ?_
  refine tr_aload_nS dL_law_563 hl0 ?_
  refine tr_iload dL_law_564 hl4 ?_
  refine q_iconst dL_law_566 (by decide) ?_
  intro v8 h9
  refine q_iaddE dL_law_567 (by intros; omega) ?_
  intro v10 h11
  refine q_sld hs dL_law_568 (by omega) (by omega) ?_
  intro v12
  refine tr_aload_nS dL_law_569 hl0 ?_
  refine tr_iload dL_law_570 hl4 ?_
  refine q_iconst dL_law_572 (by decide) ?_
  intro v13 h14
  refine q_iaddE dL_law_573 (by intros; omega) ?_
  intro v15 h16
  refine q_sld hs dL_law_574 (by omega) (by omega) ?_
  intro v17
  refine q_callVi hE (M' := mX10_awake) (as := [_, _]) dL_law_575 lk13_64 inX10_awake seX10_awake myX10_awake (by decide) ⟨by decide, by decide⟩ rfl (kR1 hS0.1 tx) (Nat.le_of_ble_eq_true rfl) rfl rfl hn hw (k_X10_awake hS0.1 tx) ?_
  rintro v22 cn' K' N' I18 R19 L20 ⟨rfl, rfl, rfl, rfl, g21, p23, -⟩
  have hS24 := hS0.tr g21 (by decide +kernel) (by decide +kernel)
  obtain ⟨v25, c26⟩ : ∃ v, I18 x 17 = v := ⟨_, rfl⟩
  rw [c26] at p23
  refine tr_pop dL_law_578 rfl ?_
  refine tr_aload_n dL_law_579 hl2 ?_
  refine tr_aload_nS dL_law_580 hl0 ?_
  refine tr_iload dL_law_581 hl4 ?_
  refine q_iconst dL_law_583 (by decide) ?_
  intro v27 h28
  refine q_iaddE dL_law_584 (by intros; omega) ?_
  intro v29 h30
  refine q_sld hs dL_law_585 (by omega) (by omega) ?_
  intro v31
  refine tr_aload_nS dL_law_586 hl0 ?_
  refine tr_iload dL_law_587 hl4 ?_
  refine q_iconst dL_law_589 (by decide) ?_
  intro v32 h33
  refine q_iaddE dL_law_590 (by intros; omega) ?_
  intro v34 h35
  refine q_sld hs dL_law_591 (by omega) (by omega) ?_
  intro v36
  refine q_callVi hE (M' := mX12_awake) (as := [_, _]) dL_law_592 lk13_67 inX12_awake seX12_awake myX12_awake (by decide) ⟨by decide, by decide⟩ rfl (kR15 hS24.1 tm) (Nat.le_of_ble_eq_true rfl) rfl rfl hn hw (k_X12_awake hS24.1 tm) ?_
  rintro v41 cn' K' N' I37 R38 L39 ⟨rfl, rfl, rfl, rfl, rfl, g40, p42, -⟩
  have hS43 := hS24.tr g40 (by decide +kernel) (by decide +kernel)
  have c44 : I37 x 17 = v25 := (g40.cell tx (by decide +kernel)).trans c26
  obtain ⟨v45, c46⟩ : ∃ v, I37 m 2 = v := ⟨_, rfl⟩
  rw [c46] at p42
  refine tr_pop dL_law_595 rfl ?_
  refine tr_goto 1392 dL_law_596 (by decide) ?_
  exact hk _ _ _ ⟨hS43, (by (try rw [((hS43.cell tx (by decide +kernel)).trans c2)]); (try rw [((hS43.cell tm (by decide +kernel)).trans c5)]); (try omega)), (by (try rw [c44]); (try omega)), (by (try rw [c46]); (try omega)), trivial⟩
def wi_road11 : List Nat := [73, 75, 81, 768, 769, 778, 834, 960, 961, 962, 2303, 2367, 2431, 2495, 2559, 2623, 2687, 2751, 2815, 2879, 2943, 3007, 3071, 3135, 3199, 3263, 3327, 3391, 5247, 5311, 5375, 5439, 5503, 5567]
def wr_road11 : List Nat := [832, 833]
set_option maxHeartbeats 4000000 in
theorem s_road11 {X : cz_X} (hE : cz_env X) {T : Nat → Nat} {cn : Nat} {K N : Nat → Nat} {I0 : cz_I} {R0 : cz_R} {L0 : cz_L} {d : Int} (hW0 : Wf T cn K N I0 R0 d) {x : Nat} (tx : T x = 1) {m : Nat} (tm : T m = 15) {o : Nat} (tox : T o = 94) {i0 : Int32} {Ln : Nat} {xs : Nat → Int32} (hs : cz_scr X Ln xs) (hi0 : 0 ≤ i0.toInt ∧ i0.toInt + 6 ≤ (Ln : Int) ∧ (Ln : Int) ≤ 3072) {n w : Nat} (hn : n ≤ (cz_rm mL_law).cells) (hw : w ≤ (cz_rm mL_law).slots) (pre0 : (I0 x 1).toInt = (I0 m 6).toInt) {ls : Nat → Option Value} (hl0 : ls 0 = some (.float 1000000)) (hl1 : ls 1 = some (.ref x)) (hl2 : ls 2 = some (.ref m)) (hl3 : ls 3 = some (.ref o)) (hl4 : ls 4 = some (.int i0)) (hk : ∀ (I' : cz_I) (R' : cz_R) (L' : cz_L), St T cn K N d wi_road11 wr_road11 I0 R0 I' R' ∧ ((I' x 1).toInt = (I' m 6).toInt) ∧ ((I' x 17).toInt ≠ 4) ∧ ((I' m 2).toInt = -1) ∧ True → Tr X mL_law 1392 ls [] cn K N I' R' L' n w) : Tr X mL_law 599 ls [] cn K N I0 R0 L0 n w := by
  have hS0 : St T cn K N d wi_road11 wr_road11 I0 R0 I0 R0 := St.rf0 hW0
  obtain ⟨v1, c2⟩ : ∃ v, I0 x 1 = v := ⟨_, rfl⟩
  have b3 := iv1_1 hW0 tx c2
  obtain ⟨v4, c5⟩ : ∃ v, I0 m 6 = v := ⟨_, rfl⟩
  have b6 := iv15_6 hW0 tm c5
  have p7 := pre0
  rw [c2] at p7
  rw [c5] at p7
  refine tr_aload_n dL_law_599 hl1 ?_
  refine tr_aload_nS dL_law_600 hl0 ?_
  refine tr_iload dL_law_601 hl4 ?_
  refine q_iconst dL_law_603 (by decide) ?_
  intro v8 h9
  refine q_iaddE dL_law_604 (by intros; omega) ?_
  intro v10 h11
  refine q_sld hs dL_law_605 (by omega) (by omega) ?_
  intro v12
  refine tr_aload_nS dL_law_606 hl0 ?_
  refine tr_iload dL_law_607 hl4 ?_
  refine q_iconst dL_law_609 (by decide) ?_
  intro v13 h14
  refine q_iaddE dL_law_610 (by intros; omega) ?_
  intro v15 h16
  refine q_sld hs dL_law_611 (by omega) (by omega) ?_
  intro v17
  refine tr_aload_nS dL_law_612 hl0 ?_
  refine tr_iload dL_law_613 hl4 ?_
  refine q_iconst dL_law_615 (by decide) ?_
  intro v18 h19
  refine q_iaddE dL_law_616 (by intros; omega) ?_
  intro v20 h21
  refine q_sld hs dL_law_617 (by omega) (by omega) ?_
  intro v22
  refine q_callVi hE (M' := mX10_notices) (as := [_, _, _]) dL_law_618 lk13_68 inX10_notices seX10_notices myX10_notices (by decide) ⟨by decide, by decide⟩ rfl (kR1 hS0.1 tx) (Nat.le_of_ble_eq_true rfl) rfl rfl hn hw (k_X10_notices hS0.1 tx) ?_
  rintro v27 cn' K' N' I23 R24 L25 ⟨rfl, rfl, rfl, rfl, g26, p28, -⟩
  have hS29 := hS0.tr g26 (by decide +kernel) (by decide +kernel)
  obtain ⟨v30, c31⟩ : ∃ v, I23 x 17 = v := ⟨_, rfl⟩
  rw [c31] at p28
  refine tr_pop dL_law_621 rfl ?_
  refine tr_aload_n dL_law_622 hl2 ?_
  refine tr_aload_nS dL_law_623 hl0 ?_
  refine tr_iload dL_law_624 hl4 ?_
  refine q_iconst dL_law_626 (by decide) ?_
  intro v32 h33
  refine q_iaddE dL_law_627 (by intros; omega) ?_
  intro v34 h35
  refine q_sld hs dL_law_628 (by omega) (by omega) ?_
  intro v36
  refine tr_aload_nS dL_law_629 hl0 ?_
  refine tr_iload dL_law_630 hl4 ?_
  refine q_iconst dL_law_632 (by decide) ?_
  intro v37 h38
  refine q_iaddE dL_law_633 (by intros; omega) ?_
  intro v39 h40
  refine q_sld hs dL_law_634 (by omega) (by omega) ?_
  intro v41
  refine tr_aload_nS dL_law_635 hl0 ?_
  refine tr_iload dL_law_636 hl4 ?_
  refine q_iconst dL_law_638 (by decide) ?_
  intro v42 h43
  refine q_iaddE dL_law_639 (by intros; omega) ?_
  intro v44 h45
  refine q_sld hs dL_law_640 (by omega) (by omega) ?_
  intro v46
  refine q_callVi hE (M' := mX12_notices) (as := [_, _, _]) dL_law_641 lk13_72 inX12_notices seX12_notices myX12_notices (by decide) ⟨by decide, by decide⟩ rfl (kR15 hS29.1 tm) (Nat.le_of_ble_eq_true rfl) rfl rfl hn hw (k_X12_notices hS29.1 tm) ?_
  rintro v51 cn' K' N' I47 R48 L49 ⟨rfl, rfl, rfl, rfl, rfl, g50, p52, -⟩
  have hS53 := hS29.tr g50 (by decide +kernel) (by decide +kernel)
  have c54 : I47 x 17 = v30 := (g50.cell tx (by decide +kernel)).trans c31
  obtain ⟨v55, c56⟩ : ∃ v, I47 m 2 = v := ⟨_, rfl⟩
  rw [c56] at p52
  refine tr_pop dL_law_644 rfl ?_
  refine tr_goto 1392 dL_law_645 (by decide) ?_
  exact hk _ _ _ ⟨hS53, (by (try rw [((hS53.cell tx (by decide +kernel)).trans c2)]); (try rw [((hS53.cell tm (by decide +kernel)).trans c5)]); (try omega)), (by (try rw [c54]); (try omega)), (by (try rw [c56]); (try omega)), trivial⟩
def wi_road12 : List Nat := [73, 75, 81, 768, 769, 778, 834, 960, 961, 962, 2303, 2367, 2431, 2495, 2559, 2623, 2687, 2751, 2815, 2879, 2943, 3007, 3071, 3135, 3199, 3263, 3327, 3391, 5247, 5311, 5375, 5439, 5503, 5567, 5631, 5695, 5759, 5823, 5887, 5951, 6015]
def wr_road12 : List Nat := [832, 833]
set_option maxHeartbeats 4000000 in
theorem s_road12 {X : cz_X} (hE : cz_env X) {T : Nat → Nat} {cn : Nat} {K N : Nat → Nat} {I0 : cz_I} {R0 : cz_R} {L0 : cz_L} {d : Int} (hW0 : Wf T cn K N I0 R0 d) {x : Nat} (tx : T x = 1) {m : Nat} (tm : T m = 15) {o : Nat} (tox : T o = 94) {i0 : Int32} {Ln : Nat} {xs : Nat → Int32} (hs : cz_scr X Ln xs) (hi0 : 0 ≤ i0.toInt ∧ i0.toInt + 6 ≤ (Ln : Int) ∧ (Ln : Int) ≤ 3072) {n w : Nat} (hn : n ≤ (cz_rm mL_law).cells) (hw : w ≤ (cz_rm mL_law).slots) (pre0 : (I0 x 1).toInt = (I0 m 6).toInt) {ls : Nat → Option Value} (hl0 : ls 0 = some (.float 1000000)) (hl1 : ls 1 = some (.ref x)) (hl2 : ls 2 = some (.ref m)) (hl3 : ls 3 = some (.ref o)) (hl4 : ls 4 = some (.int i0)) (hk : ∀ (I' : cz_I) (R' : cz_R) (L' : cz_L), St T cn K N d wi_road12 wr_road12 I0 R0 I' R' ∧ ((I' x 1).toInt = (I' m 6).toInt) ∧ ((I' x 17).toInt ≠ 4) ∧ ((I' m 2).toInt = -1) ∧ True → Tr X mL_law 1392 ls [] cn K N I' R' L' n w) : Tr X mL_law 648 ls [] cn K N I0 R0 L0 n w := by
  have hS0 : St T cn K N d wi_road12 wr_road12 I0 R0 I0 R0 := St.rf0 hW0
  obtain ⟨v1, c2⟩ : ∃ v, I0 x 1 = v := ⟨_, rfl⟩
  have b3 := iv1_1 hW0 tx c2
  obtain ⟨v4, c5⟩ : ∃ v, I0 m 6 = v := ⟨_, rfl⟩
  have b6 := iv15_6 hW0 tm c5
  have p7 := pre0
  rw [c2] at p7
  rw [c5] at p7
  refine tr_aload_n dL_law_648 hl1 ?_
  refine tr_aload_nS dL_law_649 hl0 ?_
  refine tr_iload dL_law_650 hl4 ?_
  refine q_iconst dL_law_652 (by decide) ?_
  intro v8 h9
  refine q_iaddE dL_law_653 (by intros; omega) ?_
  intro v10 h11
  refine q_sld hs dL_law_654 (by omega) (by omega) ?_
  intro v12
  refine tr_aload_nS dL_law_655 hl0 ?_
  refine tr_iload dL_law_656 hl4 ?_
  refine q_iconst dL_law_658 (by decide) ?_
  intro v13 h14
  refine q_iaddE dL_law_659 (by intros; omega) ?_
  intro v15 h16
  refine q_sld hs dL_law_660 (by omega) (by omega) ?_
  intro v17
  refine q_callVi hE (M' := mX10_work) (as := [_, _]) dL_law_661 lk13_73 inX10_work seX10_work myX10_work (by decide) ⟨by decide, by decide⟩ rfl (kR1 hS0.1 tx) (Nat.le_of_ble_eq_true rfl) rfl rfl hn hw (k_X10_work hS0.1 tx) ?_
  rintro v22 cn' K' N' I18 R19 L20 ⟨rfl, rfl, rfl, rfl, g21, p23, -⟩
  have hS24 := hS0.tr g21 (by decide +kernel) (by decide +kernel)
  obtain ⟨v25, c26⟩ : ∃ v, I18 x 17 = v := ⟨_, rfl⟩
  rw [c26] at p23
  refine tr_pop dL_law_664 rfl ?_
  refine tr_aload_n dL_law_665 hl2 ?_
  refine tr_aload_nS dL_law_666 hl0 ?_
  refine tr_iload dL_law_667 hl4 ?_
  refine q_iconst dL_law_669 (by decide) ?_
  intro v27 h28
  refine q_iaddE dL_law_670 (by intros; omega) ?_
  intro v29 h30
  refine q_sld hs dL_law_671 (by omega) (by omega) ?_
  intro v31
  refine tr_aload_nS dL_law_672 hl0 ?_
  refine tr_iload dL_law_673 hl4 ?_
  refine q_iconst dL_law_675 (by decide) ?_
  intro v32 h33
  refine q_iaddE dL_law_676 (by intros; omega) ?_
  intro v34 h35
  refine q_sld hs dL_law_677 (by omega) (by omega) ?_
  intro v36
  refine q_callVi hE (M' := mX12_work) (as := [_, _]) dL_law_678 lk13_76 inX12_work seX12_work myX12_work (by decide) ⟨by decide, by decide⟩ rfl (kR15 hS24.1 tm) (Nat.le_of_ble_eq_true rfl) rfl rfl hn hw (k_X12_work hS24.1 tm) ?_
  rintro v41 cn' K' N' I37 R38 L39 ⟨rfl, rfl, rfl, rfl, rfl, g40, p42, -⟩
  have hS43 := hS24.tr g40 (by decide +kernel) (by decide +kernel)
  have c44 : I37 x 17 = v25 := (g40.cell tx (by decide +kernel)).trans c26
  obtain ⟨v45, c46⟩ : ∃ v, I37 m 2 = v := ⟨_, rfl⟩
  rw [c46] at p42
  refine tr_pop dL_law_681 rfl ?_
  refine tr_goto 1392 dL_law_682 (by decide) ?_
  exact hk _ _ _ ⟨hS43, (by (try rw [((hS43.cell tx (by decide +kernel)).trans c2)]); (try rw [((hS43.cell tm (by decide +kernel)).trans c5)]); (try omega)), (by (try rw [c44]); (try omega)), (by (try rw [c46]); (try omega)), trivial⟩
def wi_road13 : List Nat := [73, 75, 81, 768, 769, 778, 834, 960, 961, 962, 2303, 2367, 2431, 2495, 2559, 2623, 2687, 2751, 2815, 2879, 2943, 3007, 3071, 3135, 3199, 3263, 3327, 3391, 5247, 5311, 5375, 5439, 5503, 5567, 5631, 5695, 5759, 5823, 5887, 5951, 6015]
def wr_road13 : List Nat := [832, 833]
set_option maxHeartbeats 4000000 in
theorem s_road13 {X : cz_X} (hE : cz_env X) {T : Nat → Nat} {cn : Nat} {K N : Nat → Nat} {I0 : cz_I} {R0 : cz_R} {L0 : cz_L} {d : Int} (hW0 : Wf T cn K N I0 R0 d) {x : Nat} (tx : T x = 1) {m : Nat} (tm : T m = 15) {o : Nat} (tox : T o = 94) {i0 : Int32} {Ln : Nat} {xs : Nat → Int32} (hs : cz_scr X Ln xs) (hi0 : 0 ≤ i0.toInt ∧ i0.toInt + 6 ≤ (Ln : Int) ∧ (Ln : Int) ≤ 3072) {n w : Nat} (hn : n ≤ (cz_rm mL_law).cells) (hw : w ≤ (cz_rm mL_law).slots) (pre0 : (I0 x 1).toInt = (I0 m 6).toInt) {ls : Nat → Option Value} (hl0 : ls 0 = some (.float 1000000)) (hl1 : ls 1 = some (.ref x)) (hl2 : ls 2 = some (.ref m)) (hl3 : ls 3 = some (.ref o)) (hl4 : ls 4 = some (.int i0)) (hk : ∀ (I' : cz_I) (R' : cz_R) (L' : cz_L), St T cn K N d wi_road13 wr_road13 I0 R0 I' R' ∧ ((I' x 1).toInt = (I' m 6).toInt) ∧ ((I' x 17).toInt ≠ 4) ∧ ((I' m 2).toInt = -1) ∧ True → Tr X mL_law 1392 ls [] cn K N I' R' L' n w) : Tr X mL_law 685 ls [] cn K N I0 R0 L0 n w := by
  have hS0 : St T cn K N d wi_road13 wr_road13 I0 R0 I0 R0 := St.rf0 hW0
  obtain ⟨v1, c2⟩ : ∃ v, I0 x 1 = v := ⟨_, rfl⟩
  have b3 := iv1_1 hW0 tx c2
  obtain ⟨v4, c5⟩ : ∃ v, I0 m 6 = v := ⟨_, rfl⟩
  have b6 := iv15_6 hW0 tm c5
  have p7 := pre0
  rw [c2] at p7
  rw [c5] at p7
  refine tr_aload_n dL_law_685 hl1 ?_
  refine tr_aload_nS dL_law_686 hl0 ?_
  refine tr_iload dL_law_687 hl4 ?_
  refine q_iconst dL_law_689 (by decide) ?_
  intro v8 h9
  refine q_iaddE dL_law_690 (by intros; omega) ?_
  intro v10 h11
  refine q_sld hs dL_law_691 (by omega) (by omega) ?_
  intro v12
  refine q_callVi hE (M' := mX10_worth) (as := [_]) dL_law_692 lk13_77 inX10_worth seX10_worth myX10_worth (by decide) ⟨by decide, by decide⟩ rfl (kR1 hS0.1 tx) (Nat.le_of_ble_eq_true rfl) rfl rfl hn hw (k_X10_worth hS0.1 tx) ?_
  rintro v17 cn' K' N' I13 R14 L15 ⟨rfl, rfl, rfl, rfl, g16, p18, -⟩
  have hS19 := hS0.tr g16 (by decide +kernel) (by decide +kernel)
  obtain ⟨v20, c21⟩ : ∃ v, I13 x 17 = v := ⟨_, rfl⟩
  rw [c21] at p18
  refine tr_pop dL_law_695 rfl ?_
  refine tr_aload_n dL_law_696 hl2 ?_
  refine tr_aload_nS dL_law_697 hl0 ?_
  refine tr_iload dL_law_698 hl4 ?_
  refine q_iconst dL_law_700 (by decide) ?_
  intro v22 h23
  refine q_iaddE dL_law_701 (by intros; omega) ?_
  intro v24 h25
  refine q_sld hs dL_law_702 (by omega) (by omega) ?_
  intro v26
  refine q_callVi hE (M' := mX12_worth) (as := [_]) dL_law_703 lk13_80 inX12_worth seX12_worth myX12_worth (by decide) ⟨by decide, by decide⟩ rfl (kR15 hS19.1 tm) (Nat.le_of_ble_eq_true rfl) rfl rfl hn hw (k_X12_worth hS19.1 tm) ?_
  rintro v31 cn' K' N' I27 R28 L29 ⟨rfl, rfl, rfl, rfl, rfl, g30, p32, -⟩
  have hS33 := hS19.tr g30 (by decide +kernel) (by decide +kernel)
  have c34 : I27 x 17 = v20 := (g30.cell tx (by decide +kernel)).trans c21
  obtain ⟨v35, c36⟩ : ∃ v, I27 m 2 = v := ⟨_, rfl⟩
  rw [c36] at p32
  refine tr_pop dL_law_706 rfl ?_
  refine tr_goto 1392 dL_law_707 (by decide) ?_
  exact hk _ _ _ ⟨hS33, (by (try rw [((hS33.cell tx (by decide +kernel)).trans c2)]); (try rw [((hS33.cell tm (by decide +kernel)).trans c5)]); (try omega)), (by (try rw [c34]); (try omega)), (by (try rw [c36]); (try omega)), trivial⟩
def wi_road14 : List Nat := [73, 75, 81, 768, 769, 778, 834, 960, 961, 962, 2303, 2367, 2431, 2495, 2559, 2623, 2687, 2751, 2815, 2879, 2943, 3007, 3071, 3135, 3199, 3263, 3327, 3391, 5247, 5311, 5375, 5439, 5503, 5567, 5631, 5695, 5759, 5823, 5887, 5951, 6015]
def wr_road14 : List Nat := [832, 833]
set_option maxHeartbeats 4000000 in
theorem s_road14 {X : cz_X} (hE : cz_env X) {T : Nat → Nat} {cn : Nat} {K N : Nat → Nat} {I0 : cz_I} {R0 : cz_R} {L0 : cz_L} {d : Int} (hW0 : Wf T cn K N I0 R0 d) {x : Nat} (tx : T x = 1) {m : Nat} (tm : T m = 15) {o : Nat} (tox : T o = 94) {i0 : Int32} {Ln : Nat} {xs : Nat → Int32} (hs : cz_scr X Ln xs) (hi0 : 0 ≤ i0.toInt ∧ i0.toInt + 6 ≤ (Ln : Int) ∧ (Ln : Int) ≤ 3072) {n w : Nat} (hn : n ≤ (cz_rm mL_law).cells) (hw : w ≤ (cz_rm mL_law).slots) (pre0 : (I0 x 1).toInt = (I0 m 6).toInt) {ls : Nat → Option Value} (hl0 : ls 0 = some (.float 1000000)) (hl1 : ls 1 = some (.ref x)) (hl2 : ls 2 = some (.ref m)) (hl3 : ls 3 = some (.ref o)) (hl4 : ls 4 = some (.int i0)) (hk : ∀ (I' : cz_I) (R' : cz_R) (L' : cz_L), St T cn K N d wi_road14 wr_road14 I0 R0 I' R' ∧ ((I' x 1).toInt = (I' m 6).toInt) ∧ ((I' x 17).toInt ≠ 4) ∧ ((I' m 2).toInt = -1) ∧ True → Tr X mL_law 1392 ls [] cn K N I' R' L' n w) : Tr X mL_law 710 ls [] cn K N I0 R0 L0 n w := by
  have hS0 : St T cn K N d wi_road14 wr_road14 I0 R0 I0 R0 := St.rf0 hW0
  obtain ⟨v1, c2⟩ : ∃ v, I0 x 1 = v := ⟨_, rfl⟩
  have b3 := iv1_1 hW0 tx c2
  obtain ⟨v4, c5⟩ : ∃ v, I0 m 6 = v := ⟨_, rfl⟩
  have b6 := iv15_6 hW0 tm c5
  have p7 := pre0
  rw [c2] at p7
  rw [c5] at p7
  refine tr_aload_n dL_law_710 hl1 ?_
  refine tr_aload_nS dL_law_711 hl0 ?_
  refine tr_iload dL_law_712 hl4 ?_
  refine q_iconst dL_law_714 (by decide) ?_
  intro v8 h9
  refine q_iaddE dL_law_715 (by intros; omega) ?_
  intro v10 h11
  refine q_sld hs dL_law_716 (by omega) (by omega) ?_
  intro v12
  refine tr_aload_nS dL_law_717 hl0 ?_
  refine tr_iload dL_law_718 hl4 ?_
  refine q_iconst dL_law_720 (by decide) ?_
  intro v13 h14
  refine q_iaddE dL_law_721 (by intros; omega) ?_
  intro v15 h16
  refine q_sld hs dL_law_722 (by omega) (by omega) ?_
  intro v17
  refine q_callVi hE (M' := mX10_turned) (as := [_, _]) dL_law_723 lk13_81 inX10_turned seX10_turned myX10_turned (by decide) ⟨by decide, by decide⟩ rfl (kR1 hS0.1 tx) (Nat.le_of_ble_eq_true rfl) rfl rfl hn hw (k_X10_turned hS0.1 tx) ?_
  rintro v22 cn' K' N' I18 R19 L20 ⟨rfl, rfl, rfl, rfl, g21, p23, -⟩
  have hS24 := hS0.tr g21 (by decide +kernel) (by decide +kernel)
  obtain ⟨v25, c26⟩ : ∃ v, I18 x 17 = v := ⟨_, rfl⟩
  rw [c26] at p23
  refine tr_pop dL_law_726 rfl ?_
  refine tr_aload_n dL_law_727 hl2 ?_
  refine tr_aload_nS dL_law_728 hl0 ?_
  refine tr_iload dL_law_729 hl4 ?_
  refine q_iconst dL_law_731 (by decide) ?_
  intro v27 h28
  refine q_iaddE dL_law_732 (by intros; omega) ?_
  intro v29 h30
  refine q_sld hs dL_law_733 (by omega) (by omega) ?_
  intro v31
  refine tr_aload_nS dL_law_734 hl0 ?_
  refine tr_iload dL_law_735 hl4 ?_
  refine q_iconst dL_law_737 (by decide) ?_
  intro v32 h33
  refine q_iaddE dL_law_738 (by intros; omega) ?_
  intro v34 h35
  refine q_sld hs dL_law_739 (by omega) (by omega) ?_
  intro v36
  refine q_callVi hE (M' := mX12_turned) (as := [_, _]) dL_law_740 lk13_84 inX12_turned seX12_turned myX12_turned (by decide) ⟨by decide, by decide⟩ rfl (kR15 hS24.1 tm) (Nat.le_of_ble_eq_true rfl) rfl rfl hn hw (k_X12_turned hS24.1 tm) ?_
  rintro v41 cn' K' N' I37 R38 L39 ⟨rfl, rfl, rfl, rfl, rfl, g40, p42, -⟩
  have hS43 := hS24.tr g40 (by decide +kernel) (by decide +kernel)
  have c44 : I37 x 17 = v25 := (g40.cell tx (by decide +kernel)).trans c26
  obtain ⟨v45, c46⟩ : ∃ v, I37 m 2 = v := ⟨_, rfl⟩
  rw [c46] at p42
  refine tr_pop dL_law_743 rfl ?_
  refine tr_goto 1392 dL_law_744 (by decide) ?_
  exact hk _ _ _ ⟨hS43, (by (try rw [((hS43.cell tx (by decide +kernel)).trans c2)]); (try rw [((hS43.cell tm (by decide +kernel)).trans c5)]); (try omega)), (by (try rw [c44]); (try omega)), (by (try rw [c46]); (try omega)), trivial⟩
def wi_road15 : List Nat := [73, 75, 81, 768, 769, 778, 834, 960, 961, 962, 2303, 2367, 2431, 2495, 2559, 2623, 2687, 2751, 2815, 2879, 2943, 3007, 3071, 3135, 3199, 3263, 3327, 3391, 5247, 5311, 5375, 5439, 5503, 5567, 5631, 5695, 5759, 5823, 5887, 5951, 6015]
def wr_road15 : List Nat := [832, 833]
set_option maxHeartbeats 4000000 in
theorem s_road15 {X : cz_X} (hE : cz_env X) {T : Nat → Nat} {cn : Nat} {K N : Nat → Nat} {I0 : cz_I} {R0 : cz_R} {L0 : cz_L} {d : Int} (hW0 : Wf T cn K N I0 R0 d) {x : Nat} (tx : T x = 1) {m : Nat} (tm : T m = 15) {o : Nat} (tox : T o = 94) {i0 : Int32} {Ln : Nat} {xs : Nat → Int32} (hs : cz_scr X Ln xs) (hi0 : 0 ≤ i0.toInt ∧ i0.toInt + 6 ≤ (Ln : Int) ∧ (Ln : Int) ≤ 3072) {n w : Nat} (hn : n ≤ (cz_rm mL_law).cells) (hw : w ≤ (cz_rm mL_law).slots) (pre0 : (I0 x 1).toInt = (I0 m 6).toInt) {ls : Nat → Option Value} (hl0 : ls 0 = some (.float 1000000)) (hl1 : ls 1 = some (.ref x)) (hl2 : ls 2 = some (.ref m)) (hl3 : ls 3 = some (.ref o)) (hl4 : ls 4 = some (.int i0)) (hk : ∀ (I' : cz_I) (R' : cz_R) (L' : cz_L), St T cn K N d wi_road15 wr_road15 I0 R0 I' R' ∧ ((I' x 1).toInt = (I' m 6).toInt) ∧ ((I' x 17).toInt ≠ 4) ∧ ((I' m 2).toInt = -1) ∧ True → Tr X mL_law 1392 ls [] cn K N I' R' L' n w) : Tr X mL_law 747 ls [] cn K N I0 R0 L0 n w := by
  have hS0 : St T cn K N d wi_road15 wr_road15 I0 R0 I0 R0 := St.rf0 hW0
  obtain ⟨v1, c2⟩ : ∃ v, I0 x 1 = v := ⟨_, rfl⟩
  have b3 := iv1_1 hW0 tx c2
  obtain ⟨v4, c5⟩ : ∃ v, I0 m 6 = v := ⟨_, rfl⟩
  have b6 := iv15_6 hW0 tm c5
  have p7 := pre0
  rw [c2] at p7
  rw [c5] at p7
  refine tr_aload_n dL_law_747 hl1 ?_
  refine tr_aload_nS dL_law_748 hl0 ?_
  refine tr_iload dL_law_749 hl4 ?_
  refine q_iconst dL_law_751 (by decide) ?_
  intro v8 h9
  refine q_iaddE dL_law_752 (by intros; omega) ?_
  intro v10 h11
  refine q_sld hs dL_law_753 (by omega) (by omega) ?_
  intro v12
  refine tr_aload_nS dL_law_754 hl0 ?_
  refine tr_iload dL_law_755 hl4 ?_
  refine q_iconst dL_law_757 (by decide) ?_
  intro v13 h14
  refine q_iaddE dL_law_758 (by intros; omega) ?_
  intro v15 h16
  refine q_sld hs dL_law_759 (by omega) (by omega) ?_
  intro v17
  refine q_callVi hE (M' := mX10_up) (as := [_, _]) dL_law_760 lk13_85 inX10_up seX10_up myX10_up (by decide) ⟨by decide, by decide⟩ rfl (kR1 hS0.1 tx) (Nat.le_of_ble_eq_true rfl) rfl rfl hn hw (k_X10_up hS0.1 tx) ?_
  rintro v22 cn' K' N' I18 R19 L20 ⟨rfl, rfl, rfl, rfl, g21, p23, -⟩
  have hS24 := hS0.tr g21 (by decide +kernel) (by decide +kernel)
  obtain ⟨v25, c26⟩ : ∃ v, I18 x 17 = v := ⟨_, rfl⟩
  rw [c26] at p23
  refine tr_pop dL_law_763 rfl ?_
  refine tr_aload_n dL_law_764 hl2 ?_
  refine tr_aload_nS dL_law_765 hl0 ?_
  refine tr_iload dL_law_766 hl4 ?_
  refine q_iconst dL_law_768 (by decide) ?_
  intro v27 h28
  refine q_iaddE dL_law_769 (by intros; omega) ?_
  intro v29 h30
  refine q_sld hs dL_law_770 (by omega) (by omega) ?_
  intro v31
  refine tr_aload_nS dL_law_771 hl0 ?_
  refine tr_iload dL_law_772 hl4 ?_
  refine q_iconst dL_law_774 (by decide) ?_
  intro v32 h33
  refine q_iaddE dL_law_775 (by intros; omega) ?_
  intro v34 h35
  refine q_sld hs dL_law_776 (by omega) (by omega) ?_
  intro v36
  refine q_callVi hE (M' := mX12_up) (as := [_, _]) dL_law_777 lk13_88 inX12_up seX12_up myX12_up (by decide) ⟨by decide, by decide⟩ rfl (kR15 hS24.1 tm) (Nat.le_of_ble_eq_true rfl) rfl rfl hn hw (k_X12_up hS24.1 tm) ?_
  rintro v41 cn' K' N' I37 R38 L39 ⟨rfl, rfl, rfl, rfl, rfl, g40, p42, -⟩
  have hS43 := hS24.tr g40 (by decide +kernel) (by decide +kernel)
  have c44 : I37 x 17 = v25 := (g40.cell tx (by decide +kernel)).trans c26
  obtain ⟨v45, c46⟩ : ∃ v, I37 m 2 = v := ⟨_, rfl⟩
  rw [c46] at p42
  refine tr_pop dL_law_780 rfl ?_
  refine tr_goto 1392 dL_law_781 (by decide) ?_
  exact hk _ _ _ ⟨hS43, (by (try rw [((hS43.cell tx (by decide +kernel)).trans c2)]); (try rw [((hS43.cell tm (by decide +kernel)).trans c5)]); (try omega)), (by (try rw [c44]); (try omega)), (by (try rw [c46]); (try omega)), trivial⟩
def wi_road16 : List Nat := [73, 75, 81, 768, 769, 778, 834, 960, 961, 962, 2303, 2367, 2431, 2495, 2559, 2623, 2687, 2751, 2815, 2879, 2943, 3007, 3071, 3135, 3199, 3263, 3327, 3391, 5247, 5311, 5375, 5439, 5503, 5567, 5631, 5695, 5759, 5823, 5887, 5951, 6015]
def wr_road16 : List Nat := [832, 833]
set_option maxHeartbeats 4000000 in
theorem s_road16 {X : cz_X} (hE : cz_env X) {T : Nat → Nat} {cn : Nat} {K N : Nat → Nat} {I0 : cz_I} {R0 : cz_R} {L0 : cz_L} {d : Int} (hW0 : Wf T cn K N I0 R0 d) {x : Nat} (tx : T x = 1) {m : Nat} (tm : T m = 15) {o : Nat} (tox : T o = 94) {i0 : Int32} {Ln : Nat} {xs : Nat → Int32} (hs : cz_scr X Ln xs) (hi0 : 0 ≤ i0.toInt ∧ i0.toInt + 6 ≤ (Ln : Int) ∧ (Ln : Int) ≤ 3072) {n w : Nat} (hn : n ≤ (cz_rm mL_law).cells) (hw : w ≤ (cz_rm mL_law).slots) (pre0 : (I0 x 1).toInt = (I0 m 6).toInt) {ls : Nat → Option Value} (hl0 : ls 0 = some (.float 1000000)) (hl1 : ls 1 = some (.ref x)) (hl2 : ls 2 = some (.ref m)) (hl3 : ls 3 = some (.ref o)) (hl4 : ls 4 = some (.int i0)) (hk : ∀ (I' : cz_I) (R' : cz_R) (L' : cz_L), St T cn K N d wi_road16 wr_road16 I0 R0 I' R' ∧ ((I' x 1).toInt = (I' m 6).toInt) ∧ ((I' x 17).toInt ≠ 4) ∧ ((I' m 2).toInt = -1) ∧ True → Tr X mL_law 1392 ls [] cn K N I' R' L' n w) : Tr X mL_law 784 ls [] cn K N I0 R0 L0 n w := by
  have hS0 : St T cn K N d wi_road16 wr_road16 I0 R0 I0 R0 := St.rf0 hW0
  obtain ⟨v1, c2⟩ : ∃ v, I0 x 1 = v := ⟨_, rfl⟩
  have b3 := iv1_1 hW0 tx c2
  obtain ⟨v4, c5⟩ : ∃ v, I0 m 6 = v := ⟨_, rfl⟩
  have b6 := iv15_6 hW0 tm c5
  have p7 := pre0
  rw [c2] at p7
  rw [c5] at p7
  refine tr_aload_n dL_law_784 hl1 ?_
  refine tr_aload_nS dL_law_785 hl0 ?_
  refine tr_iload dL_law_786 hl4 ?_
  refine q_iconst dL_law_788 (by decide) ?_
  intro v8 h9
  refine q_iaddE dL_law_789 (by intros; omega) ?_
  intro v10 h11
  refine q_sld hs dL_law_790 (by omega) (by omega) ?_
  intro v12
  refine tr_aload_nS dL_law_791 hl0 ?_
  refine tr_iload dL_law_792 hl4 ?_
  refine q_iconst dL_law_794 (by decide) ?_
  intro v13 h14
  refine q_iaddE dL_law_795 (by intros; omega) ?_
  intro v15 h16
  refine q_sld hs dL_law_796 (by omega) (by omega) ?_
  intro v17
  refine q_callVi hE (M' := mX10_cheese) (as := [_, _]) dL_law_797 lk13_89 inX10_cheese seX10_cheese myX10_cheese (by decide) ⟨by decide, by decide⟩ rfl (kR1 hS0.1 tx) (Nat.le_of_ble_eq_true rfl) rfl rfl hn hw (k_X10_cheese hS0.1 tx) ?_
  rintro v22 cn' K' N' I18 R19 L20 ⟨rfl, rfl, rfl, rfl, g21, p23, -⟩
  have hS24 := hS0.tr g21 (by decide +kernel) (by decide +kernel)
  obtain ⟨v25, c26⟩ : ∃ v, I18 x 17 = v := ⟨_, rfl⟩
  rw [c26] at p23
  refine tr_pop dL_law_800 rfl ?_
  refine tr_aload_n dL_law_801 hl2 ?_
  refine tr_aload_nS dL_law_802 hl0 ?_
  refine tr_iload dL_law_803 hl4 ?_
  refine q_iconst dL_law_805 (by decide) ?_
  intro v27 h28
  refine q_iaddE dL_law_806 (by intros; omega) ?_
  intro v29 h30
  refine q_sld hs dL_law_807 (by omega) (by omega) ?_
  intro v31
  refine tr_aload_nS dL_law_808 hl0 ?_
  refine tr_iload dL_law_809 hl4 ?_
  refine q_iconst dL_law_811 (by decide) ?_
  intro v32 h33
  refine q_iaddE dL_law_812 (by intros; omega) ?_
  intro v34 h35
  refine q_sld hs dL_law_813 (by omega) (by omega) ?_
  intro v36
  refine q_callVi hE (M' := mX12_cheese) (as := [_, _]) dL_law_814 lk13_92 inX12_cheese seX12_cheese myX12_cheese (by decide) ⟨by decide, by decide⟩ rfl (kR15 hS24.1 tm) (Nat.le_of_ble_eq_true rfl) rfl rfl hn hw (k_X12_cheese hS24.1 tm) ?_
  rintro v41 cn' K' N' I37 R38 L39 ⟨rfl, rfl, rfl, rfl, rfl, g40, p42, -⟩
  have hS43 := hS24.tr g40 (by decide +kernel) (by decide +kernel)
  have c44 : I37 x 17 = v25 := (g40.cell tx (by decide +kernel)).trans c26
  obtain ⟨v45, c46⟩ : ∃ v, I37 m 2 = v := ⟨_, rfl⟩
  rw [c46] at p42
  refine tr_pop dL_law_817 rfl ?_
  refine tr_goto 1392 dL_law_818 (by decide) ?_
  exact hk _ _ _ ⟨hS43, (by (try rw [((hS43.cell tx (by decide +kernel)).trans c2)]); (try rw [((hS43.cell tm (by decide +kernel)).trans c5)]); (try omega)), (by (try rw [c44]); (try omega)), (by (try rw [c46]); (try omega)), trivial⟩
def wi_road17 : List Nat := [73, 75, 81, 768, 769, 778, 834, 960, 961, 962, 2303, 2367, 2431, 2495, 2559, 2623, 2687, 2751, 2815, 2879, 2943, 3007, 3071, 3135, 3199, 3263, 3327, 3391, 5247, 5311, 5375, 5439, 5503, 5567, 5631, 5695, 5759, 5823, 5887, 5951, 6015]
def wr_road17 : List Nat := [832, 833]
set_option maxHeartbeats 4000000 in
theorem s_road17 {X : cz_X} (hE : cz_env X) {T : Nat → Nat} {cn : Nat} {K N : Nat → Nat} {I0 : cz_I} {R0 : cz_R} {L0 : cz_L} {d : Int} (hW0 : Wf T cn K N I0 R0 d) {x : Nat} (tx : T x = 1) {m : Nat} (tm : T m = 15) {o : Nat} (tox : T o = 94) {i0 : Int32} {Ln : Nat} {xs : Nat → Int32} (hs : cz_scr X Ln xs) (hi0 : 0 ≤ i0.toInt ∧ i0.toInt + 6 ≤ (Ln : Int) ∧ (Ln : Int) ≤ 3072) {n w : Nat} (hn : n ≤ (cz_rm mL_law).cells) (hw : w ≤ (cz_rm mL_law).slots) (pre0 : (I0 x 1).toInt = (I0 m 6).toInt) {ls : Nat → Option Value} (hl0 : ls 0 = some (.float 1000000)) (hl1 : ls 1 = some (.ref x)) (hl2 : ls 2 = some (.ref m)) (hl3 : ls 3 = some (.ref o)) (hl4 : ls 4 = some (.int i0)) (hk : ∀ (I' : cz_I) (R' : cz_R) (L' : cz_L), St T cn K N d wi_road17 wr_road17 I0 R0 I' R' ∧ ((I' x 1).toInt = (I' m 6).toInt) ∧ ((I' x 17).toInt ≠ 4) ∧ ((I' m 2).toInt = -1) ∧ True → Tr X mL_law 1392 ls [] cn K N I' R' L' n w) : Tr X mL_law 821 ls [] cn K N I0 R0 L0 n w := by
  have hS0 : St T cn K N d wi_road17 wr_road17 I0 R0 I0 R0 := St.rf0 hW0
  obtain ⟨v1, c2⟩ : ∃ v, I0 x 1 = v := ⟨_, rfl⟩
  have b3 := iv1_1 hW0 tx c2
  obtain ⟨v4, c5⟩ : ∃ v, I0 m 6 = v := ⟨_, rfl⟩
  have b6 := iv15_6 hW0 tm c5
  have p7 := pre0
  rw [c2] at p7
  rw [c5] at p7
  refine tr_aload_n dL_law_821 hl1 ?_
  refine tr_aload_nS dL_law_822 hl0 ?_
  refine tr_iload dL_law_823 hl4 ?_
  refine q_iconst dL_law_825 (by decide) ?_
  intro v8 h9
  refine q_iaddE dL_law_826 (by intros; omega) ?_
  intro v10 h11
  refine q_sld hs dL_law_827 (by omega) (by omega) ?_
  intro v12
  refine tr_aload_nS dL_law_828 hl0 ?_
  refine tr_iload dL_law_829 hl4 ?_
  refine q_iconst dL_law_831 (by decide) ?_
  intro v13 h14
  refine q_iaddE dL_law_832 (by intros; omega) ?_
  intro v15 h16
  refine q_sld hs dL_law_833 (by omega) (by omega) ?_
  intro v17
  refine q_callVi hE (M' := mX10_vein) (as := [_, _]) dL_law_834 lk13_93 inX10_vein seX10_vein myX10_vein (by decide) ⟨by decide, by decide⟩ rfl (kR1 hS0.1 tx) (Nat.le_of_ble_eq_true rfl) rfl rfl hn hw (k_X10_vein hS0.1 tx) ?_
  rintro v22 cn' K' N' I18 R19 L20 ⟨rfl, rfl, rfl, rfl, g21, p23, -⟩
  have hS24 := hS0.tr g21 (by decide +kernel) (by decide +kernel)
  obtain ⟨v25, c26⟩ : ∃ v, I18 x 17 = v := ⟨_, rfl⟩
  rw [c26] at p23
  refine tr_pop dL_law_837 rfl ?_
  refine tr_aload_n dL_law_838 hl2 ?_
  refine tr_aload_nS dL_law_839 hl0 ?_
  refine tr_iload dL_law_840 hl4 ?_
  refine q_iconst dL_law_842 (by decide) ?_
  intro v27 h28
  refine q_iaddE dL_law_843 (by intros; omega) ?_
  intro v29 h30
  refine q_sld hs dL_law_844 (by omega) (by omega) ?_
  intro v31
  refine tr_aload_nS dL_law_845 hl0 ?_
  refine tr_iload dL_law_846 hl4 ?_
  refine q_iconst dL_law_848 (by decide) ?_
  intro v32 h33
  refine q_iaddE dL_law_849 (by intros; omega) ?_
  intro v34 h35
  refine q_sld hs dL_law_850 (by omega) (by omega) ?_
  intro v36
  refine q_callVi hE (M' := mX12_vein) (as := [_, _]) dL_law_851 lk13_96 inX12_vein seX12_vein myX12_vein (by decide) ⟨by decide, by decide⟩ rfl (kR15 hS24.1 tm) (Nat.le_of_ble_eq_true rfl) rfl rfl hn hw (k_X12_vein hS24.1 tm) ?_
  rintro v41 cn' K' N' I37 R38 L39 ⟨rfl, rfl, rfl, rfl, rfl, g40, p42, -⟩
  have hS43 := hS24.tr g40 (by decide +kernel) (by decide +kernel)
  have c44 : I37 x 17 = v25 := (g40.cell tx (by decide +kernel)).trans c26
  obtain ⟨v45, c46⟩ : ∃ v, I37 m 2 = v := ⟨_, rfl⟩
  rw [c46] at p42
  refine tr_pop dL_law_854 rfl ?_
  refine tr_goto 1392 dL_law_855 (by decide) ?_
  exact hk _ _ _ ⟨hS43, (by (try rw [((hS43.cell tx (by decide +kernel)).trans c2)]); (try rw [((hS43.cell tm (by decide +kernel)).trans c5)]); (try omega)), (by (try rw [c44]); (try omega)), (by (try rw [c46]); (try omega)), trivial⟩
def wi_road18 : List Nat := [73, 75, 81, 768, 769, 778, 834, 960, 961, 962, 2303, 2367, 2431, 2495, 2559, 2623, 2687, 2751, 2815, 2879, 2943, 3007, 3071, 3135, 3199, 3263, 3327, 3391, 5247, 5311, 5375, 5439, 5503, 5567, 5631, 5695, 5759, 5823, 5887, 5951, 6015]
def wr_road18 : List Nat := [832, 833]
set_option maxHeartbeats 4000000 in
theorem s_road18 {X : cz_X} (hE : cz_env X) {T : Nat → Nat} {cn : Nat} {K N : Nat → Nat} {I0 : cz_I} {R0 : cz_R} {L0 : cz_L} {d : Int} (hW0 : Wf T cn K N I0 R0 d) {x : Nat} (tx : T x = 1) {m : Nat} (tm : T m = 15) {o : Nat} (tox : T o = 94) {i0 : Int32} {Ln : Nat} {xs : Nat → Int32} (hs : cz_scr X Ln xs) (hi0 : 0 ≤ i0.toInt ∧ i0.toInt + 6 ≤ (Ln : Int) ∧ (Ln : Int) ≤ 3072) {n w : Nat} (hn : n ≤ (cz_rm mL_law).cells) (hw : w ≤ (cz_rm mL_law).slots) (pre0 : (I0 x 1).toInt = (I0 m 6).toInt) {ls : Nat → Option Value} (hl0 : ls 0 = some (.float 1000000)) (hl1 : ls 1 = some (.ref x)) (hl2 : ls 2 = some (.ref m)) (hl3 : ls 3 = some (.ref o)) (hl4 : ls 4 = some (.int i0)) (hk : ∀ (I' : cz_I) (R' : cz_R) (L' : cz_L), St T cn K N d wi_road18 wr_road18 I0 R0 I' R' ∧ ((I' x 1).toInt = (I' m 6).toInt) ∧ ((I' x 17).toInt ≠ 4) ∧ ((I' m 2).toInt = -1) ∧ True → Tr X mL_law 1392 ls [] cn K N I' R' L' n w) : Tr X mL_law 858 ls [] cn K N I0 R0 L0 n w := by
  have hS0 : St T cn K N d wi_road18 wr_road18 I0 R0 I0 R0 := St.rf0 hW0
  obtain ⟨v1, c2⟩ : ∃ v, I0 x 1 = v := ⟨_, rfl⟩
  have b3 := iv1_1 hW0 tx c2
  obtain ⟨v4, c5⟩ : ∃ v, I0 m 6 = v := ⟨_, rfl⟩
  have b6 := iv15_6 hW0 tm c5
  have p7 := pre0
  rw [c2] at p7
  rw [c5] at p7
  refine tr_aload_n dL_law_858 hl1 ?_
  refine tr_aload_nS dL_law_859 hl0 ?_
  refine tr_iload dL_law_860 hl4 ?_
  refine q_iconst dL_law_862 (by decide) ?_
  intro v8 h9
  refine q_iaddE dL_law_863 (by intros; omega) ?_
  intro v10 h11
  refine q_sld hs dL_law_864 (by omega) (by omega) ?_
  intro v12
  refine tr_aload_nS dL_law_865 hl0 ?_
  refine tr_iload dL_law_866 hl4 ?_
  refine q_iconst dL_law_868 (by decide) ?_
  intro v13 h14
  refine q_iaddE dL_law_869 (by intros; omega) ?_
  intro v15 h16
  refine q_sld hs dL_law_870 (by omega) (by omega) ?_
  intro v17
  refine q_callVi hE (M' := mX10_cause) (as := [_, _]) dL_law_871 lk13_97 inX10_cause seX10_cause myX10_cause (by decide) ⟨by decide, by decide⟩ rfl (kR1 hS0.1 tx) (Nat.le_of_ble_eq_true rfl) rfl rfl hn hw (k_X10_cause hS0.1 tx) ?_
  rintro v22 cn' K' N' I18 R19 L20 ⟨rfl, rfl, rfl, rfl, g21, p23, -⟩
  have hS24 := hS0.tr g21 (by decide +kernel) (by decide +kernel)
  obtain ⟨v25, c26⟩ : ∃ v, I18 x 17 = v := ⟨_, rfl⟩
  rw [c26] at p23
  refine tr_pop dL_law_874 rfl ?_
  refine tr_aload_n dL_law_875 hl2 ?_
  refine tr_aload_nS dL_law_876 hl0 ?_
  refine tr_iload dL_law_877 hl4 ?_
  refine q_iconst dL_law_879 (by decide) ?_
  intro v27 h28
  refine q_iaddE dL_law_880 (by intros; omega) ?_
  intro v29 h30
  refine q_sld hs dL_law_881 (by omega) (by omega) ?_
  intro v31
  refine tr_aload_nS dL_law_882 hl0 ?_
  refine tr_iload dL_law_883 hl4 ?_
  refine q_iconst dL_law_885 (by decide) ?_
  intro v32 h33
  refine q_iaddE dL_law_886 (by intros; omega) ?_
  intro v34 h35
  refine q_sld hs dL_law_887 (by omega) (by omega) ?_
  intro v36
  refine q_callVi hE (M' := mX12_cause) (as := [_, _]) dL_law_888 lk13_100 inX12_cause seX12_cause myX12_cause (by decide) ⟨by decide, by decide⟩ rfl (kR15 hS24.1 tm) (Nat.le_of_ble_eq_true rfl) rfl rfl hn hw (k_X12_cause hS24.1 tm) ?_
  rintro v41 cn' K' N' I37 R38 L39 ⟨rfl, rfl, rfl, rfl, rfl, g40, p42, -⟩
  have hS43 := hS24.tr g40 (by decide +kernel) (by decide +kernel)
  have c44 : I37 x 17 = v25 := (g40.cell tx (by decide +kernel)).trans c26
  obtain ⟨v45, c46⟩ : ∃ v, I37 m 2 = v := ⟨_, rfl⟩
  rw [c46] at p42
  refine tr_pop dL_law_891 rfl ?_
  refine tr_goto 1392 dL_law_892 (by decide) ?_
  exact hk _ _ _ ⟨hS43, (by (try rw [((hS43.cell tx (by decide +kernel)).trans c2)]); (try rw [((hS43.cell tm (by decide +kernel)).trans c5)]); (try omega)), (by (try rw [c44]); (try omega)), (by (try rw [c46]); (try omega)), trivial⟩
def wi_road19 : List Nat := [73, 75, 81, 768, 769, 778, 834, 960, 961, 962, 2303, 2367, 2431, 2495, 2559, 2623, 2687, 2751, 2815, 2879, 2943, 3007, 3071, 3135, 3199, 3263, 3327, 3391, 5247, 5311, 5375, 5439, 5503, 5567, 5631, 5695, 5759, 5823, 5887, 5951, 6015]
def wr_road19 : List Nat := [832, 833]
set_option maxHeartbeats 4000000 in
theorem s_road19 {X : cz_X} (hE : cz_env X) {T : Nat → Nat} {cn : Nat} {K N : Nat → Nat} {I0 : cz_I} {R0 : cz_R} {L0 : cz_L} {d : Int} (hW0 : Wf T cn K N I0 R0 d) {x : Nat} (tx : T x = 1) {m : Nat} (tm : T m = 15) {o : Nat} (tox : T o = 94) {i0 : Int32} {Ln : Nat} {xs : Nat → Int32} (hs : cz_scr X Ln xs) (hi0 : 0 ≤ i0.toInt ∧ i0.toInt + 6 ≤ (Ln : Int) ∧ (Ln : Int) ≤ 3072) {n w : Nat} (hn : n ≤ (cz_rm mL_law).cells) (hw : w ≤ (cz_rm mL_law).slots) (pre0 : (I0 x 1).toInt = (I0 m 6).toInt) {ls : Nat → Option Value} (hl0 : ls 0 = some (.float 1000000)) (hl1 : ls 1 = some (.ref x)) (hl2 : ls 2 = some (.ref m)) (hl3 : ls 3 = some (.ref o)) (hl4 : ls 4 = some (.int i0)) (hk : ∀ (I' : cz_I) (R' : cz_R) (L' : cz_L), St T cn K N d wi_road19 wr_road19 I0 R0 I' R' ∧ ((I' x 1).toInt = (I' m 6).toInt) ∧ ((I' x 17).toInt ≠ 4) ∧ ((I' m 2).toInt = -1) ∧ True → Tr X mL_law 1392 ls [] cn K N I' R' L' n w) : Tr X mL_law 895 ls [] cn K N I0 R0 L0 n w := by
  have hS0 : St T cn K N d wi_road19 wr_road19 I0 R0 I0 R0 := St.rf0 hW0
  obtain ⟨v1, c2⟩ : ∃ v, I0 x 1 = v := ⟨_, rfl⟩
  have b3 := iv1_1 hW0 tx c2
  obtain ⟨v4, c5⟩ : ∃ v, I0 m 6 = v := ⟨_, rfl⟩
  have b6 := iv15_6 hW0 tm c5
  have p7 := pre0
  rw [c2] at p7
  rw [c5] at p7
  refine tr_aload_n dL_law_895 hl1 ?_
  refine q_callVi hE (M' := mX10_total) (as := []) dL_law_896 lk13_101 inX10_total seX10_total myX10_total (by decide) ⟨by decide, by decide⟩ rfl (kR1 hS0.1 tx) (Nat.le_of_ble_eq_true rfl) rfl rfl hn hw (k_X10_total hS0.1 tx) ?_
  rintro v12 cn' K' N' I8 R9 L10 ⟨rfl, rfl, rfl, rfl, g11, p13, -⟩
  have hS14 := hS0.tr g11 (by decide +kernel) (by decide +kernel)
  obtain ⟨v15, c16⟩ : ∃ v, I8 x 17 = v := ⟨_, rfl⟩
  rw [c16] at p13
  refine tr_pop dL_law_899 rfl ?_
  refine tr_aload_n dL_law_900 hl2 ?_
  refine q_callVi hE (M' := mX12_total) (as := []) dL_law_901 lk13_104 inX12_total seX12_total myX12_total (by decide) ⟨by decide, by decide⟩ rfl (kR15 hS14.1 tm) (Nat.le_of_ble_eq_true rfl) rfl rfl hn hw (k_X12_total hS14.1 tm) ?_
  rintro v21 cn' K' N' I17 R18 L19 ⟨rfl, rfl, rfl, rfl, rfl, g20, p22, -⟩
  have hS23 := hS14.tr g20 (by decide +kernel) (by decide +kernel)
  have c24 : I17 x 17 = v15 := (g20.cell tx (by decide +kernel)).trans c16
  obtain ⟨v25, c26⟩ : ∃ v, I17 m 2 = v := ⟨_, rfl⟩
  rw [c26] at p22
  refine tr_pop dL_law_904 rfl ?_
  refine tr_goto 1392 dL_law_905 (by decide) ?_
  exact hk _ _ _ ⟨hS23, (by (try rw [((hS23.cell tx (by decide +kernel)).trans c2)]); (try rw [((hS23.cell tm (by decide +kernel)).trans c5)]); (try omega)), (by (try rw [c24]); (try omega)), (by (try rw [c26]); (try omega)), trivial⟩
def wi_road20 : List Nat := [73, 75, 81, 768, 769, 778, 834, 960, 961, 962, 2303, 2367, 2431, 2495, 2559, 2623, 2687, 2751, 2815, 2879, 2943, 3007, 3071, 3135, 3199, 3263, 3327, 3391, 5247, 5311, 5375, 5439, 5503, 5567, 5631, 5695, 5759, 5823, 5887, 5951, 6015]
def wr_road20 : List Nat := [832, 833]
set_option maxHeartbeats 4000000 in
theorem s_road20 {X : cz_X} (hE : cz_env X) {T : Nat → Nat} {cn : Nat} {K N : Nat → Nat} {I0 : cz_I} {R0 : cz_R} {L0 : cz_L} {d : Int} (hW0 : Wf T cn K N I0 R0 d) {x : Nat} (tx : T x = 1) {m : Nat} (tm : T m = 15) {o : Nat} (tox : T o = 94) {i0 : Int32} {Ln : Nat} {xs : Nat → Int32} (hs : cz_scr X Ln xs) (hi0 : 0 ≤ i0.toInt ∧ i0.toInt + 6 ≤ (Ln : Int) ∧ (Ln : Int) ≤ 3072) {n w : Nat} (hn : n ≤ (cz_rm mL_law).cells) (hw : w ≤ (cz_rm mL_law).slots) (pre0 : (I0 x 1).toInt = (I0 m 6).toInt) {ls : Nat → Option Value} (hl0 : ls 0 = some (.float 1000000)) (hl1 : ls 1 = some (.ref x)) (hl2 : ls 2 = some (.ref m)) (hl3 : ls 3 = some (.ref o)) (hl4 : ls 4 = some (.int i0)) (hk : ∀ (I' : cz_I) (R' : cz_R) (L' : cz_L), St T cn K N d wi_road20 wr_road20 I0 R0 I' R' ∧ ((I' x 1).toInt = (I' m 6).toInt) ∧ ((I' x 17).toInt ≠ 4) ∧ ((I' m 2).toInt = -1) ∧ True → Tr X mL_law 1392 ls [] cn K N I' R' L' n w) : Tr X mL_law 908 ls [] cn K N I0 R0 L0 n w := by
  have hS0 : St T cn K N d wi_road20 wr_road20 I0 R0 I0 R0 := St.rf0 hW0
  obtain ⟨v1, c2⟩ : ∃ v, I0 x 1 = v := ⟨_, rfl⟩
  have b3 := iv1_1 hW0 tx c2
  obtain ⟨v4, c5⟩ : ∃ v, I0 m 6 = v := ⟨_, rfl⟩
  have b6 := iv15_6 hW0 tm c5
  have p7 := pre0
  rw [c2] at p7
  rw [c5] at p7
  refine tr_aload_n dL_law_908 hl1 ?_
  refine tr_aload_nS dL_law_909 hl0 ?_
  refine tr_iload dL_law_910 hl4 ?_
  refine q_iconst dL_law_912 (by decide) ?_
  intro v8 h9
  refine q_iaddE dL_law_913 (by intros; omega) ?_
  intro v10 h11
  refine q_sld hs dL_law_914 (by omega) (by omega) ?_
  intro v12
  refine q_callVi hE (M' := mX10_without) (as := [_]) dL_law_915 lk13_105 inX10_without seX10_without myX10_without (by decide) ⟨by decide, by decide⟩ rfl (kR1 hS0.1 tx) (Nat.le_of_ble_eq_true rfl) rfl rfl hn hw (k_X10_without hS0.1 tx) ?_
  rintro v17 cn' K' N' I13 R14 L15 ⟨rfl, rfl, rfl, rfl, g16, p18, -⟩
  have hS19 := hS0.tr g16 (by decide +kernel) (by decide +kernel)
  obtain ⟨v20, c21⟩ : ∃ v, I13 x 17 = v := ⟨_, rfl⟩
  rw [c21] at p18
  refine tr_pop dL_law_918 rfl ?_
  refine tr_aload_n dL_law_919 hl2 ?_
  refine tr_aload_nS dL_law_920 hl0 ?_
  refine tr_iload dL_law_921 hl4 ?_
  refine q_iconst dL_law_923 (by decide) ?_
  intro v22 h23
  refine q_iaddE dL_law_924 (by intros; omega) ?_
  intro v24 h25
  refine q_sld hs dL_law_925 (by omega) (by omega) ?_
  intro v26
  refine q_callVi hE (M' := mX12_without) (as := [_]) dL_law_926 lk13_108 inX12_without seX12_without myX12_without (by decide) ⟨by decide, by decide⟩ rfl (kR15 hS19.1 tm) (Nat.le_of_ble_eq_true rfl) rfl rfl hn hw (k_X12_without hS19.1 tm) ?_
  rintro v31 cn' K' N' I27 R28 L29 ⟨rfl, rfl, rfl, rfl, rfl, g30, p32, -⟩
  have hS33 := hS19.tr g30 (by decide +kernel) (by decide +kernel)
  have c34 : I27 x 17 = v20 := (g30.cell tx (by decide +kernel)).trans c21
  obtain ⟨v35, c36⟩ : ∃ v, I27 m 2 = v := ⟨_, rfl⟩
  rw [c36] at p32
  refine tr_pop dL_law_929 rfl ?_
  refine tr_goto 1392 dL_law_930 (by decide) ?_
  exact hk _ _ _ ⟨hS33, (by (try rw [((hS33.cell tx (by decide +kernel)).trans c2)]); (try rw [((hS33.cell tm (by decide +kernel)).trans c5)]); (try omega)), (by (try rw [c34]); (try omega)), (by (try rw [c36]); (try omega)), trivial⟩
def wi_road21 : List Nat := [73, 81, 768, 769, 778, 834, 960, 961, 962, 994, 2303, 2367, 2431, 2495, 2559, 2623, 2687, 2751, 2815, 2879, 2943, 3007, 3071, 3135, 3199, 3263, 3327, 3391, 5247, 5311, 5375, 5439, 5503, 5567, 5631, 5695, 5759, 5823, 5887, 5951, 6015]
def wr_road21 : List Nat := [832, 833]
set_option maxHeartbeats 4000000 in
theorem s_road21 {X : cz_X} (hE : cz_env X) {T : Nat → Nat} {cn : Nat} {K N : Nat → Nat} {I0 : cz_I} {R0 : cz_R} {L0 : cz_L} {d : Int} (hW0 : Wf T cn K N I0 R0 d) {x : Nat} (tx : T x = 1) {m : Nat} (tm : T m = 15) {o : Nat} (tox : T o = 94) {i0 : Int32} {Ln : Nat} {xs : Nat → Int32} (hs : cz_scr X Ln xs) (hi0 : 0 ≤ i0.toInt ∧ i0.toInt + 6 ≤ (Ln : Int) ∧ (Ln : Int) ≤ 3072) {n w : Nat} (hn : n ≤ (cz_rm mL_law).cells) (hw : w ≤ (cz_rm mL_law).slots) (pre0 : (I0 x 1).toInt = (I0 m 6).toInt) {ls : Nat → Option Value} (hl0 : ls 0 = some (.float 1000000)) (hl1 : ls 1 = some (.ref x)) (hl2 : ls 2 = some (.ref m)) (hl3 : ls 3 = some (.ref o)) (hl4 : ls 4 = some (.int i0)) (hk : ∀ (I' : cz_I) (R' : cz_R) (L' : cz_L), St T cn K N d wi_road21 wr_road21 I0 R0 I' R' ∧ ((I' x 1).toInt = (I' m 6).toInt) ∧ ((I' x 17).toInt ≠ 4) ∧ ((I' m 2).toInt = -1) ∧ True → Tr X mL_law 1392 ls [] cn K N I' R' L' n w) : Tr X mL_law 933 ls [] cn K N I0 R0 L0 n w := by
  have hS0 : St T cn K N d wi_road21 wr_road21 I0 R0 I0 R0 := St.rf0 hW0
  obtain ⟨v1, c2⟩ : ∃ v, I0 x 1 = v := ⟨_, rfl⟩
  have b3 := iv1_1 hW0 tx c2
  obtain ⟨v4, c5⟩ : ∃ v, I0 m 6 = v := ⟨_, rfl⟩
  have b6 := iv15_6 hW0 tm c5
  have p7 := pre0
  rw [c2] at p7
  rw [c5] at p7
  refine tr_aload_n dL_law_933 hl1 ?_
  refine q_callVi hE (M' := mX10_wake) (as := []) dL_law_934 lk13_109 inX10_wake seX10_wake myX10_wake (by decide) ⟨by decide, by decide⟩ rfl (kR1 hS0.1 tx) (Nat.le_of_ble_eq_true rfl) rfl rfl hn hw (k_X10_wake hS0.1 tx) ?_
  rintro v12 cn' K' N' I8 R9 L10 ⟨rfl, rfl, rfl, rfl, g11, p13, -⟩
  have hS14 := hS0.tr g11 (by decide +kernel) (by decide +kernel)
  obtain ⟨v15, c16⟩ : ∃ v, I8 x 17 = v := ⟨_, rfl⟩
  rw [c16] at p13
  refine tr_pop dL_law_937 rfl ?_
  refine tr_aload_n dL_law_938 hl2 ?_
  refine q_callVi hE (M' := mX12_wake) (as := []) dL_law_939 lk13_112 inX12_wake seX12_wake myX12_wake (by decide) ⟨by decide, by decide⟩ rfl (kR15 hS14.1 tm) (Nat.le_of_ble_eq_true rfl) rfl rfl hn hw (k_X12_wake hS14.1 tm) ?_
  rintro v21 cn' K' N' I17 R18 L19 ⟨rfl, rfl, rfl, rfl, rfl, g20, p22, -⟩
  have hS23 := hS14.tr g20 (by decide +kernel) (by decide +kernel)
  have c24 : I17 x 17 = v15 := (g20.cell tx (by decide +kernel)).trans c16
  obtain ⟨v25, c26⟩ : ∃ v, I17 m 2 = v := ⟨_, rfl⟩
  rw [c26] at p22
  refine tr_pop dL_law_942 rfl ?_
  refine tr_goto 1392 dL_law_943 (by decide) ?_
  exact hk _ _ _ ⟨hS23, (by (try rw [((hS23.cell tx (by decide +kernel)).trans c2)]); (try rw [((hS23.cell tm (by decide +kernel)).trans c5)]); (try omega)), (by (try rw [c24]); (try omega)), (by (try rw [c26]); (try omega)), trivial⟩
def wi_road22 : List Nat := [73, 81, 768, 769, 778, 834, 960, 961, 962, 994, 2303, 2367, 2431, 2495, 2559, 2623, 2687, 2751, 2815, 2879, 2943, 3007, 3071, 3135, 3199, 3263, 3327, 3391, 5247, 5311, 5375, 5439, 5503, 5567, 5631, 5695, 5759, 5823, 5887, 5951, 6015]
def wr_road22 : List Nat := [832, 833]
set_option maxHeartbeats 4000000 in
theorem s_road22 {X : cz_X} (hE : cz_env X) {T : Nat → Nat} {cn : Nat} {K N : Nat → Nat} {I0 : cz_I} {R0 : cz_R} {L0 : cz_L} {d : Int} (hW0 : Wf T cn K N I0 R0 d) {x : Nat} (tx : T x = 1) {m : Nat} (tm : T m = 15) {o : Nat} (tox : T o = 94) {i0 : Int32} {Ln : Nat} {xs : Nat → Int32} (hs : cz_scr X Ln xs) (hi0 : 0 ≤ i0.toInt ∧ i0.toInt + 6 ≤ (Ln : Int) ∧ (Ln : Int) ≤ 3072) {n w : Nat} (hn : n ≤ (cz_rm mL_law).cells) (hw : w ≤ (cz_rm mL_law).slots) (pre0 : (I0 x 1).toInt = (I0 m 6).toInt) {ls : Nat → Option Value} (hl0 : ls 0 = some (.float 1000000)) (hl1 : ls 1 = some (.ref x)) (hl2 : ls 2 = some (.ref m)) (hl3 : ls 3 = some (.ref o)) (hl4 : ls 4 = some (.int i0)) (hk : ∀ (I' : cz_I) (R' : cz_R) (L' : cz_L), St T cn K N d wi_road22 wr_road22 I0 R0 I' R' ∧ ((I' x 1).toInt = (I' m 6).toInt) ∧ ((I' x 17).toInt ≠ 4) ∧ ((I' m 2).toInt = -1) ∧ True → Tr X mL_law 1392 ls [] cn K N I' R' L' n w) : Tr X mL_law 946 ls [] cn K N I0 R0 L0 n w := by
  have hS0 : St T cn K N d wi_road22 wr_road22 I0 R0 I0 R0 := St.rf0 hW0
  obtain ⟨v1, c2⟩ : ∃ v, I0 x 1 = v := ⟨_, rfl⟩
  have b3 := iv1_1 hW0 tx c2
  obtain ⟨v4, c5⟩ : ∃ v, I0 m 6 = v := ⟨_, rfl⟩
  have b6 := iv15_6 hW0 tm c5
  have p7 := pre0
  rw [c2] at p7
  rw [c5] at p7
  refine tr_aload_n dL_law_946 hl1 ?_
  refine q_callVi hE (M' := mX10_wakeTotal) (as := []) dL_law_947 lk13_113 inX10_wakeTotal seX10_wakeTotal myX10_wakeTotal (by decide) ⟨by decide, by decide⟩ rfl (kR1 hS0.1 tx) (Nat.le_of_ble_eq_true rfl) rfl rfl hn hw (k_X10_wakeTotal hS0.1 tx) ?_
  rintro v12 cn' K' N' I8 R9 L10 ⟨rfl, rfl, rfl, rfl, g11, p13, -⟩
  have hS14 := hS0.tr g11 (by decide +kernel) (by decide +kernel)
  obtain ⟨v15, c16⟩ : ∃ v, I8 x 17 = v := ⟨_, rfl⟩
  rw [c16] at p13
  refine tr_pop dL_law_950 rfl ?_
  refine tr_aload_n dL_law_951 hl2 ?_
  refine q_callVi hE (M' := mX12_wakeTotal) (as := []) dL_law_952 lk13_116 inX12_wakeTotal seX12_wakeTotal myX12_wakeTotal (by decide) ⟨by decide, by decide⟩ rfl (kR15 hS14.1 tm) (Nat.le_of_ble_eq_true rfl) rfl rfl hn hw (k_X12_wakeTotal hS14.1 tm) ?_
  rintro v21 cn' K' N' I17 R18 L19 ⟨rfl, rfl, rfl, rfl, rfl, g20, p22, -⟩
  have hS23 := hS14.tr g20 (by decide +kernel) (by decide +kernel)
  have c24 : I17 x 17 = v15 := (g20.cell tx (by decide +kernel)).trans c16
  obtain ⟨v25, c26⟩ : ∃ v, I17 m 2 = v := ⟨_, rfl⟩
  rw [c26] at p22
  refine tr_pop dL_law_955 rfl ?_
  refine tr_goto 1392 dL_law_956 (by decide) ?_
  exact hk _ _ _ ⟨hS23, (by (try rw [((hS23.cell tx (by decide +kernel)).trans c2)]); (try rw [((hS23.cell tm (by decide +kernel)).trans c5)]); (try omega)), (by (try rw [c24]); (try omega)), (by (try rw [c26]); (try omega)), trivial⟩
def wi_road23 : List Nat := [73, 75, 81, 768, 769, 778, 834, 960, 961, 962, 2303, 2367, 2431, 2495, 2559, 2623, 2687, 2751, 2815, 2879, 2943, 3007, 3071, 3135, 3199, 3263, 3327, 3391, 5247, 5311, 5375, 5439, 5503, 5567, 5631, 5695, 5759, 5823, 5887, 5951, 6015]
def wr_road23 : List Nat := [832, 833]
set_option maxHeartbeats 4000000 in
theorem s_road23 {X : cz_X} (hE : cz_env X) {T : Nat → Nat} {cn : Nat} {K N : Nat → Nat} {I0 : cz_I} {R0 : cz_R} {L0 : cz_L} {d : Int} (hW0 : Wf T cn K N I0 R0 d) {x : Nat} (tx : T x = 1) {m : Nat} (tm : T m = 15) {o : Nat} (tox : T o = 94) {i0 : Int32} {Ln : Nat} {xs : Nat → Int32} (hs : cz_scr X Ln xs) (hi0 : 0 ≤ i0.toInt ∧ i0.toInt + 6 ≤ (Ln : Int) ∧ (Ln : Int) ≤ 3072) {n w : Nat} (hn : n ≤ (cz_rm mL_law).cells) (hw : w ≤ (cz_rm mL_law).slots) (pre0 : (I0 x 1).toInt = (I0 m 6).toInt) {ls : Nat → Option Value} (hl0 : ls 0 = some (.float 1000000)) (hl1 : ls 1 = some (.ref x)) (hl2 : ls 2 = some (.ref m)) (hl3 : ls 3 = some (.ref o)) (hl4 : ls 4 = some (.int i0)) (hk : ∀ (I' : cz_I) (R' : cz_R) (L' : cz_L), St T cn K N d wi_road23 wr_road23 I0 R0 I' R' ∧ ((I' x 1).toInt = (I' m 6).toInt) ∧ ((I' x 17).toInt ≠ 4) ∧ ((I' m 2).toInt = -1) ∧ True → Tr X mL_law 1392 ls [] cn K N I' R' L' n w) : Tr X mL_law 959 ls [] cn K N I0 R0 L0 n w := by
  have hS0 : St T cn K N d wi_road23 wr_road23 I0 R0 I0 R0 := St.rf0 hW0
  obtain ⟨v1, c2⟩ : ∃ v, I0 x 1 = v := ⟨_, rfl⟩
  have b3 := iv1_1 hW0 tx c2
  obtain ⟨v4, c5⟩ : ∃ v, I0 m 6 = v := ⟨_, rfl⟩
  have b6 := iv15_6 hW0 tm c5
  have p7 := pre0
  rw [c2] at p7
  rw [c5] at p7
  refine tr_aload_n dL_law_959 hl1 ?_
  refine q_callVi hE (M' := mX10_fewest) (as := []) dL_law_960 lk13_117 inX10_fewest seX10_fewest myX10_fewest (by decide) ⟨by decide, by decide⟩ rfl (kR1 hS0.1 tx) (Nat.le_of_ble_eq_true rfl) rfl rfl hn hw (k_X10_fewest hS0.1 tx) ?_
  rintro v12 cn' K' N' I8 R9 L10 ⟨rfl, rfl, rfl, rfl, g11, p13, -⟩
  have hS14 := hS0.tr g11 (by decide +kernel) (by decide +kernel)
  obtain ⟨v15, c16⟩ : ∃ v, I8 x 17 = v := ⟨_, rfl⟩
  rw [c16] at p13
  refine tr_pop dL_law_963 rfl ?_
  refine tr_aload_n dL_law_964 hl2 ?_
  refine q_callVi hE (M' := mX12_fewest) (as := []) dL_law_965 lk13_120 inX12_fewest seX12_fewest myX12_fewest (by decide) ⟨by decide, by decide⟩ rfl (kR15 hS14.1 tm) (Nat.le_of_ble_eq_true rfl) rfl rfl hn hw (k_X12_fewest hS14.1 tm) ?_
  rintro v21 cn' K' N' I17 R18 L19 ⟨rfl, rfl, rfl, rfl, rfl, g20, p22, -⟩
  have hS23 := hS14.tr g20 (by decide +kernel) (by decide +kernel)
  have c24 : I17 x 17 = v15 := (g20.cell tx (by decide +kernel)).trans c16
  obtain ⟨v25, c26⟩ : ∃ v, I17 m 2 = v := ⟨_, rfl⟩
  rw [c26] at p22
  refine tr_pop dL_law_968 rfl ?_
  refine tr_goto 1392 dL_law_969 (by decide) ?_
  exact hk _ _ _ ⟨hS23, (by (try rw [((hS23.cell tx (by decide +kernel)).trans c2)]); (try rw [((hS23.cell tm (by decide +kernel)).trans c5)]); (try omega)), (by (try rw [c24]); (try omega)), (by (try rw [c26]); (try omega)), trivial⟩
def wi_road24 : List Nat := [73, 75, 81, 768, 769, 778, 834, 960, 961, 962, 2303, 2367, 2431, 2495, 2559, 2623, 2687, 2751, 2815, 2879, 2943, 3007, 3071, 3135, 3199, 3263, 3327, 3391, 5247, 5311, 5375, 5439, 5503, 5567, 5631, 5695, 5759, 5823, 5887, 5951, 6015]
def wr_road24 : List Nat := [832, 833]
set_option maxHeartbeats 4000000 in
theorem s_road24 {X : cz_X} (hE : cz_env X) {T : Nat → Nat} {cn : Nat} {K N : Nat → Nat} {I0 : cz_I} {R0 : cz_R} {L0 : cz_L} {d : Int} (hW0 : Wf T cn K N I0 R0 d) {x : Nat} (tx : T x = 1) {m : Nat} (tm : T m = 15) {o : Nat} (tox : T o = 94) {i0 : Int32} {Ln : Nat} {xs : Nat → Int32} (hs : cz_scr X Ln xs) (hi0 : 0 ≤ i0.toInt ∧ i0.toInt + 6 ≤ (Ln : Int) ∧ (Ln : Int) ≤ 3072) {n w : Nat} (hn : n ≤ (cz_rm mL_law).cells) (hw : w ≤ (cz_rm mL_law).slots) (pre0 : (I0 x 1).toInt = (I0 m 6).toInt) {ls : Nat → Option Value} (hl0 : ls 0 = some (.float 1000000)) (hl1 : ls 1 = some (.ref x)) (hl2 : ls 2 = some (.ref m)) (hl3 : ls 3 = some (.ref o)) (hl4 : ls 4 = some (.int i0)) (hk : ∀ (I' : cz_I) (R' : cz_R) (L' : cz_L), St T cn K N d wi_road24 wr_road24 I0 R0 I' R' ∧ ((I' x 1).toInt = (I' m 6).toInt) ∧ ((I' x 17).toInt ≠ 4) ∧ ((I' m 2).toInt = -1) ∧ True → Tr X mL_law 1392 ls [] cn K N I' R' L' n w) : Tr X mL_law 972 ls [] cn K N I0 R0 L0 n w := by
  have hS0 : St T cn K N d wi_road24 wr_road24 I0 R0 I0 R0 := St.rf0 hW0
  obtain ⟨v1, c2⟩ : ∃ v, I0 x 1 = v := ⟨_, rfl⟩
  have b3 := iv1_1 hW0 tx c2
  obtain ⟨v4, c5⟩ : ∃ v, I0 m 6 = v := ⟨_, rfl⟩
  have b6 := iv15_6 hW0 tm c5
  have p7 := pre0
  rw [c2] at p7
  rw [c5] at p7
  refine tr_aload_n dL_law_972 hl1 ?_
  refine q_callVi hE (M' := mX10_fewestBy) (as := []) dL_law_973 lk13_121 inX10_fewestBy seX10_fewestBy myX10_fewestBy (by decide) ⟨by decide, by decide⟩ rfl (kR1 hS0.1 tx) (Nat.le_of_ble_eq_true rfl) rfl rfl hn hw (k_X10_fewestBy hS0.1 tx) ?_
  rintro v12 cn' K' N' I8 R9 L10 ⟨rfl, rfl, rfl, rfl, g11, p13, -⟩
  have hS14 := hS0.tr g11 (by decide +kernel) (by decide +kernel)
  obtain ⟨v15, c16⟩ : ∃ v, I8 x 17 = v := ⟨_, rfl⟩
  rw [c16] at p13
  refine tr_pop dL_law_976 rfl ?_
  refine tr_aload_n dL_law_977 hl2 ?_
  refine q_callVi hE (M' := mX12_fewestBy) (as := []) dL_law_978 lk13_124 inX12_fewestBy seX12_fewestBy myX12_fewestBy (by decide) ⟨by decide, by decide⟩ rfl (kR15 hS14.1 tm) (Nat.le_of_ble_eq_true rfl) rfl rfl hn hw (k_X12_fewestBy hS14.1 tm) ?_
  rintro v21 cn' K' N' I17 R18 L19 ⟨rfl, rfl, rfl, rfl, rfl, g20, p22, -⟩
  have hS23 := hS14.tr g20 (by decide +kernel) (by decide +kernel)
  have c24 : I17 x 17 = v15 := (g20.cell tx (by decide +kernel)).trans c16
  obtain ⟨v25, c26⟩ : ∃ v, I17 m 2 = v := ⟨_, rfl⟩
  rw [c26] at p22
  refine tr_pop dL_law_981 rfl ?_
  refine tr_goto 1392 dL_law_982 (by decide) ?_
  exact hk _ _ _ ⟨hS23, (by (try rw [((hS23.cell tx (by decide +kernel)).trans c2)]); (try rw [((hS23.cell tm (by decide +kernel)).trans c5)]); (try omega)), (by (try rw [c24]); (try omega)), (by (try rw [c26]); (try omega)), trivial⟩
def wi_road25 : List Nat := [73, 75, 81, 768, 769, 778, 834, 960, 961, 962, 2303, 2367, 2431, 2495, 2559, 2623, 2687, 2751, 2815, 2879, 2943, 3007, 3071, 3135, 3199, 3263, 3327, 3391, 5247, 5311, 5375, 5439, 5503, 5567, 5631, 5695, 5759, 5823, 5887, 5951, 6015]
def wr_road25 : List Nat := [832, 833]
set_option maxHeartbeats 4000000 in
theorem s_road25 {X : cz_X} (hE : cz_env X) {T : Nat → Nat} {cn : Nat} {K N : Nat → Nat} {I0 : cz_I} {R0 : cz_R} {L0 : cz_L} {d : Int} (hW0 : Wf T cn K N I0 R0 d) {x : Nat} (tx : T x = 1) {m : Nat} (tm : T m = 15) {o : Nat} (tox : T o = 94) {i0 : Int32} {Ln : Nat} {xs : Nat → Int32} (hs : cz_scr X Ln xs) (hi0 : 0 ≤ i0.toInt ∧ i0.toInt + 6 ≤ (Ln : Int) ∧ (Ln : Int) ≤ 3072) {n w : Nat} (hn : n ≤ (cz_rm mL_law).cells) (hw : w ≤ (cz_rm mL_law).slots) (pre0 : (I0 x 1).toInt = (I0 m 6).toInt) {ls : Nat → Option Value} (hl0 : ls 0 = some (.float 1000000)) (hl1 : ls 1 = some (.ref x)) (hl2 : ls 2 = some (.ref m)) (hl3 : ls 3 = some (.ref o)) (hl4 : ls 4 = some (.int i0)) (hk : ∀ (I' : cz_I) (R' : cz_R) (L' : cz_L), St T cn K N d wi_road25 wr_road25 I0 R0 I' R' ∧ ((I' x 1).toInt = (I' m 6).toInt) ∧ ((I' x 17).toInt ≠ 4) ∧ ((I' m 2).toInt = -1) ∧ True → Tr X mL_law 1392 ls [] cn K N I' R' L' n w) : Tr X mL_law 985 ls [] cn K N I0 R0 L0 n w := by
  have hS0 : St T cn K N d wi_road25 wr_road25 I0 R0 I0 R0 := St.rf0 hW0
  obtain ⟨v1, c2⟩ : ∃ v, I0 x 1 = v := ⟨_, rfl⟩
  have b3 := iv1_1 hW0 tx c2
  obtain ⟨v4, c5⟩ : ∃ v, I0 m 6 = v := ⟨_, rfl⟩
  have b6 := iv15_6 hW0 tm c5
  have p7 := pre0
  rw [c2] at p7
  rw [c5] at p7
  refine tr_aload_n dL_law_985 hl1 ?_
  refine tr_aload_nS dL_law_986 hl0 ?_
  refine tr_iload dL_law_987 hl4 ?_
  refine q_iconst dL_law_989 (by decide) ?_
  intro v8 h9
  refine q_iaddE dL_law_990 (by intros; omega) ?_
  intro v10 h11
  refine q_sld hs dL_law_991 (by omega) (by omega) ?_
  intro v12
  refine q_callVi hE (M' := mX10_fits) (as := [_]) dL_law_992 lk13_125 inX10_fits seX10_fits myX10_fits (by decide) ⟨by decide, by decide⟩ rfl (kR1 hS0.1 tx) (Nat.le_of_ble_eq_true rfl) rfl rfl hn hw (k_X10_fits hS0.1 tx) ?_
  rintro v17 cn' K' N' I13 R14 L15 ⟨rfl, rfl, rfl, rfl, g16, p18, -⟩
  have hS19 := hS0.tr g16 (by decide +kernel) (by decide +kernel)
  obtain ⟨v20, c21⟩ : ∃ v, I13 x 17 = v := ⟨_, rfl⟩
  rw [c21] at p18
  refine tr_pop dL_law_995 rfl ?_
  refine tr_aload_n dL_law_996 hl2 ?_
  refine tr_aload_nS dL_law_997 hl0 ?_
  refine tr_iload dL_law_998 hl4 ?_
  refine q_iconst dL_law_1000 (by decide) ?_
  intro v22 h23
  refine q_iaddE dL_law_1001 (by intros; omega) ?_
  intro v24 h25
  refine q_sld hs dL_law_1002 (by omega) (by omega) ?_
  intro v26
  refine q_callVi hE (M' := mX12_fits) (as := [_]) dL_law_1003 lk13_128 inX12_fits seX12_fits myX12_fits (by decide) ⟨by decide, by decide⟩ rfl (kR15 hS19.1 tm) (Nat.le_of_ble_eq_true rfl) rfl rfl hn hw (k_X12_fits hS19.1 tm) ?_
  rintro v31 cn' K' N' I27 R28 L29 ⟨rfl, rfl, rfl, rfl, rfl, g30, p32, -⟩
  have hS33 := hS19.tr g30 (by decide +kernel) (by decide +kernel)
  have c34 : I27 x 17 = v20 := (g30.cell tx (by decide +kernel)).trans c21
  obtain ⟨v35, c36⟩ : ∃ v, I27 m 2 = v := ⟨_, rfl⟩
  rw [c36] at p32
  refine tr_pop dL_law_1006 rfl ?_
  refine tr_goto 1392 dL_law_1007 (by decide) ?_
  exact hk _ _ _ ⟨hS33, (by (try rw [((hS33.cell tx (by decide +kernel)).trans c2)]); (try rw [((hS33.cell tm (by decide +kernel)).trans c5)]); (try omega)), (by (try rw [c34]); (try omega)), (by (try rw [c36]); (try omega)), trivial⟩
def wi_road26 : List Nat := [73, 81, 768, 769, 778, 834, 960, 961, 962, 2303, 2367, 2431, 2495, 2559, 2623, 2687, 2751, 2815, 2879, 2943, 3007, 3071, 3135, 3199, 3263, 3327, 3391, 5247, 5311, 5375, 5439, 5503, 5567, 5631, 5695, 5759, 5823, 5887, 5951, 6015]
def wr_road26 : List Nat := [832, 833]
set_option maxHeartbeats 4000000 in
theorem s_road26 {X : cz_X} (hE : cz_env X) {T : Nat → Nat} {cn : Nat} {K N : Nat → Nat} {I0 : cz_I} {R0 : cz_R} {L0 : cz_L} {d : Int} (hW0 : Wf T cn K N I0 R0 d) {x : Nat} (tx : T x = 1) {m : Nat} (tm : T m = 15) {o : Nat} (tox : T o = 94) {i0 : Int32} {Ln : Nat} {xs : Nat → Int32} (hs : cz_scr X Ln xs) (hi0 : 0 ≤ i0.toInt ∧ i0.toInt + 6 ≤ (Ln : Int) ∧ (Ln : Int) ≤ 3072) {n w : Nat} (hn : n ≤ (cz_rm mL_law).cells) (hw : w ≤ (cz_rm mL_law).slots) (pre0 : (I0 x 1).toInt = (I0 m 6).toInt) {ls : Nat → Option Value} (hl0 : ls 0 = some (.float 1000000)) (hl1 : ls 1 = some (.ref x)) (hl2 : ls 2 = some (.ref m)) (hl3 : ls 3 = some (.ref o)) (hl4 : ls 4 = some (.int i0)) (hk : ∀ (I' : cz_I) (R' : cz_R) (L' : cz_L), St T cn K N d wi_road26 wr_road26 I0 R0 I' R' ∧ ((I' x 1).toInt = (I' m 6).toInt) ∧ ((I' x 17).toInt ≠ 4) ∧ ((I' m 2).toInt = -1) ∧ True → Tr X mL_law 1392 ls [] cn K N I' R' L' n w) : Tr X mL_law 1010 ls [] cn K N I0 R0 L0 n w := by
  have hS0 : St T cn K N d wi_road26 wr_road26 I0 R0 I0 R0 := St.rf0 hW0
  obtain ⟨v1, c2⟩ : ∃ v, I0 x 1 = v := ⟨_, rfl⟩
  have b3 := iv1_1 hW0 tx c2
  obtain ⟨v4, c5⟩ : ∃ v, I0 m 6 = v := ⟨_, rfl⟩
  have b6 := iv15_6 hW0 tm c5
  have p7 := pre0
  rw [c2] at p7
  rw [c5] at p7
  refine tr_aload_n dL_law_1010 hl1 ?_
  refine tr_aload_nS dL_law_1011 hl0 ?_
  refine tr_iload dL_law_1012 hl4 ?_
  refine q_iconst dL_law_1014 (by decide) ?_
  intro v8 h9
  refine q_iaddE dL_law_1015 (by intros; omega) ?_
  intro v10 h11
  refine q_sld hs dL_law_1016 (by omega) (by omega) ?_
  intro v12
  refine q_callVi hE (M' := mX10_by) (as := [_]) dL_law_1017 lk13_129 inX10_by seX10_by myX10_by (by decide) ⟨by decide, by decide⟩ rfl (kR1 hS0.1 tx) (Nat.le_of_ble_eq_true rfl) rfl rfl hn hw (k_X10_by hS0.1 tx) ?_
  rintro v17 cn' K' N' I13 R14 L15 ⟨rfl, rfl, rfl, rfl, g16, p18, -⟩
  have hS19 := hS0.tr g16 (by decide +kernel) (by decide +kernel)
  obtain ⟨v20, c21⟩ : ∃ v, I13 x 17 = v := ⟨_, rfl⟩
  rw [c21] at p18
  refine tr_pop dL_law_1020 rfl ?_
  refine tr_aload_n dL_law_1021 hl2 ?_
  refine tr_aload_nS dL_law_1022 hl0 ?_
  refine tr_iload dL_law_1023 hl4 ?_
  refine q_iconst dL_law_1025 (by decide) ?_
  intro v22 h23
  refine q_iaddE dL_law_1026 (by intros; omega) ?_
  intro v24 h25
  refine q_sld hs dL_law_1027 (by omega) (by omega) ?_
  intro v26
  refine q_callVi hE (M' := mX12_by) (as := [_]) dL_law_1028 lk13_132 inX12_by seX12_by myX12_by (by decide) ⟨by decide, by decide⟩ rfl (kR15 hS19.1 tm) (Nat.le_of_ble_eq_true rfl) rfl rfl hn hw (k_X12_by hS19.1 tm) ?_
  rintro v31 cn' K' N' I27 R28 L29 ⟨rfl, rfl, rfl, rfl, rfl, g30, p32, -⟩
  have hS33 := hS19.tr g30 (by decide +kernel) (by decide +kernel)
  have c34 : I27 x 17 = v20 := (g30.cell tx (by decide +kernel)).trans c21
  obtain ⟨v35, c36⟩ : ∃ v, I27 m 2 = v := ⟨_, rfl⟩
  rw [c36] at p32
  refine tr_pop dL_law_1031 rfl ?_
  refine tr_goto 1392 dL_law_1032 (by decide) ?_
  exact hk _ _ _ ⟨hS33, (by (try rw [((hS33.cell tx (by decide +kernel)).trans c2)]); (try rw [((hS33.cell tm (by decide +kernel)).trans c5)]); (try omega)), (by (try rw [c34]); (try omega)), (by (try rw [c36]); (try omega)), trivial⟩
def wi_road27 : List Nat := [81, 576, 577, 578, 768, 769, 778, 834, 960, 961, 962, 1919, 1983, 2303, 2367, 2431, 2495, 2559, 2623, 2687, 2751, 2815, 2879, 2943, 3007, 3071, 3135, 3199, 3263, 3327, 3391, 4991, 5183, 5247, 5311, 5375, 5439, 5503, 5567, 5631, 5695, 5759, 5823, 5887, 5951, 6015]
def wr_road27 : List Nat := [832, 833]
set_option maxHeartbeats 4000000 in
theorem s_road27 {X : cz_X} (hE : cz_env X) {T : Nat → Nat} {cn : Nat} {K N : Nat → Nat} {I0 : cz_I} {R0 : cz_R} {L0 : cz_L} {d : Int} (hW0 : Wf T cn K N I0 R0 d) {x : Nat} (tx : T x = 1) {m : Nat} (tm : T m = 15) {o : Nat} (tox : T o = 94) {i0 : Int32} {Ln : Nat} {xs : Nat → Int32} (hs : cz_scr X Ln xs) (hi0 : 0 ≤ i0.toInt ∧ i0.toInt + 6 ≤ (Ln : Int) ∧ (Ln : Int) ≤ 3072) {n w : Nat} (hn : n ≤ (cz_rm mL_law).cells) (hw : w ≤ (cz_rm mL_law).slots) (pre0 : (I0 x 1).toInt = (I0 m 6).toInt) {ls : Nat → Option Value} (hl0 : ls 0 = some (.float 1000000)) (hl1 : ls 1 = some (.ref x)) (hl2 : ls 2 = some (.ref m)) (hl3 : ls 3 = some (.ref o)) (hl4 : ls 4 = some (.int i0)) (hk : ∀ (I' : cz_I) (R' : cz_R) (L' : cz_L), St T cn K N d wi_road27 wr_road27 I0 R0 I' R' ∧ ((I' x 1).toInt = (I' m 6).toInt) ∧ ((I' x 17).toInt ≠ 4) ∧ ((I' m 2).toInt = -1) ∧ True → Tr X mL_law 1392 ls [] cn K N I' R' L' n w) : Tr X mL_law 1035 ls [] cn K N I0 R0 L0 n w := by
  have hS0 : St T cn K N d wi_road27 wr_road27 I0 R0 I0 R0 := St.rf0 hW0
  obtain ⟨v1, c2⟩ : ∃ v, I0 x 1 = v := ⟨_, rfl⟩
  have b3 := iv1_1 hW0 tx c2
  obtain ⟨v4, c5⟩ : ∃ v, I0 m 6 = v := ⟨_, rfl⟩
  have b6 := iv15_6 hW0 tm c5
  have p7 := pre0
  rw [c2] at p7
  rw [c5] at p7
  refine tr_aload_n dL_law_1035 hl1 ?_
  refine tr_aload_nS dL_law_1036 hl0 ?_
  refine tr_iload dL_law_1037 hl4 ?_
  refine q_iconst dL_law_1039 (by decide) ?_
  intro v8 h9
  refine q_iaddE dL_law_1040 (by intros; omega) ?_
  intro v10 h11
  refine q_sld hs dL_law_1041 (by omega) (by omega) ?_
  intro v12
  refine tr_aload_nS dL_law_1042 hl0 ?_
  refine tr_iload dL_law_1043 hl4 ?_
  refine q_iconst dL_law_1045 (by decide) ?_
  intro v13 h14
  refine q_iaddE dL_law_1046 (by intros; omega) ?_
  intro v15 h16
  refine q_sld hs dL_law_1047 (by omega) (by omega) ?_
  intro v17
  refine tr_aload_nS dL_law_1048 hl0 ?_
  refine tr_iload dL_law_1049 hl4 ?_
  refine q_iconst dL_law_1051 (by decide) ?_
  intro v18 h19
  refine q_iaddE dL_law_1052 (by intros; omega) ?_
  intro v20 h21
  refine q_sld hs dL_law_1053 (by omega) (by omega) ?_
  intro v22
  refine q_callVi hE (M' := mX10_nights) (as := [_, _, _]) dL_law_1054 lk13_133 inX10_nights seX10_nights myX10_nights (by decide) ⟨by decide, by decide⟩ rfl (kR1 hS0.1 tx) (Nat.le_of_ble_eq_true rfl) rfl rfl hn hw (k_X10_nights hS0.1 tx) ?_
  rintro v27 cn' K' N' I23 R24 L25 ⟨rfl, rfl, rfl, rfl, g26, p28, -⟩
  have hS29 := hS0.tr g26 (by decide +kernel) (by decide +kernel)
  obtain ⟨v30, c31⟩ : ∃ v, I23 x 17 = v := ⟨_, rfl⟩
  rw [c31] at p28
  refine tr_pop dL_law_1057 rfl ?_
  refine tr_aload_n dL_law_1058 hl2 ?_
  refine tr_aload_nS dL_law_1059 hl0 ?_
  refine tr_iload dL_law_1060 hl4 ?_
  refine q_iconst dL_law_1062 (by decide) ?_
  intro v32 h33
  refine q_iaddE dL_law_1063 (by intros; omega) ?_
  intro v34 h35
  refine q_sld hs dL_law_1064 (by omega) (by omega) ?_
  intro v36
  refine tr_aload_nS dL_law_1065 hl0 ?_
  refine tr_iload dL_law_1066 hl4 ?_
  refine q_iconst dL_law_1068 (by decide) ?_
  intro v37 h38
  refine q_iaddE dL_law_1069 (by intros; omega) ?_
  intro v39 h40
  refine q_sld hs dL_law_1070 (by omega) (by omega) ?_
  intro v41
  refine tr_aload_nS dL_law_1071 hl0 ?_
  refine tr_iload dL_law_1072 hl4 ?_
  refine q_iconst dL_law_1074 (by decide) ?_
  intro v42 h43
  refine q_iaddE dL_law_1075 (by intros; omega) ?_
  intro v44 h45
  refine q_sld hs dL_law_1076 (by omega) (by omega) ?_
  intro v46
  refine q_callVi hE (M' := mX12_nights) (as := [_, _, _]) dL_law_1077 lk13_136 inX12_nights seX12_nights myX12_nights (by decide) ⟨by decide, by decide⟩ rfl (kR15 hS29.1 tm) (Nat.le_of_ble_eq_true rfl) rfl rfl hn hw (k_X12_nights hS29.1 tm) ?_
  rintro v51 cn' K' N' I47 R48 L49 ⟨rfl, rfl, rfl, rfl, rfl, g50, p52, -⟩
  have hS53 := hS29.tr g50 (by decide +kernel) (by decide +kernel)
  have c54 : I47 x 17 = v30 := (g50.cell tx (by decide +kernel)).trans c31
  obtain ⟨v55, c56⟩ : ∃ v, I47 m 2 = v := ⟨_, rfl⟩
  rw [c56] at p52
  refine tr_pop dL_law_1080 rfl ?_
  refine tr_goto 1392 dL_law_1081 (by decide) ?_
  exact hk _ _ _ ⟨hS53, (by (try rw [((hS53.cell tx (by decide +kernel)).trans c2)]); (try rw [((hS53.cell tm (by decide +kernel)).trans c5)]); (try omega)), (by (try rw [c54]); (try omega)), (by (try rw [c56]); (try omega)), trivial⟩
def wi_road28 : List Nat := [75, 81, 512, 640, 641, 642, 704, 960, 961, 962, 979, 2047, 2111, 4991, 5055]
def wr_road28 : List Nat := [2175]
set_option maxHeartbeats 4000000 in
theorem s_road28 {X : cz_X} (hE : cz_env X) {T : Nat → Nat} {cn : Nat} {K N : Nat → Nat} {I0 : cz_I} {R0 : cz_R} {L0 : cz_L} {d : Int} (hW0 : Wf T cn K N I0 R0 d) {x : Nat} (tx : T x = 1) {m : Nat} (tm : T m = 15) {o : Nat} (tox : T o = 94) {i0 : Int32} {Ln : Nat} {xs : Nat → Int32} (hs : cz_scr X Ln xs) (hi0 : 0 ≤ i0.toInt ∧ i0.toInt + 6 ≤ (Ln : Int) ∧ (Ln : Int) ≤ 3072) {n w : Nat} (hn : n ≤ (cz_rm mL_law).cells) (hw : w ≤ (cz_rm mL_law).slots) (pre0 : (I0 x 1).toInt = (I0 m 6).toInt) {ls : Nat → Option Value} (hl0 : ls 0 = some (.float 1000000)) (hl1 : ls 1 = some (.ref x)) (hl2 : ls 2 = some (.ref m)) (hl3 : ls 3 = some (.ref o)) (hl4 : ls 4 = some (.int i0)) (hk : ∀ (I' : cz_I) (R' : cz_R) (L' : cz_L), St T cn K N d wi_road28 wr_road28 I0 R0 I' R' ∧ ((I' x 1).toInt = (I' m 6).toInt) ∧ ((I' x 17).toInt ≠ 4) ∧ ((I' m 2).toInt = -1) ∧ True → Tr X mL_law 1392 ls [] cn K N I' R' L' n w) : Tr X mL_law 1084 ls [] cn K N I0 R0 L0 n w := by
  have hS0 : St T cn K N d wi_road28 wr_road28 I0 R0 I0 R0 := St.rf0 hW0
  obtain ⟨v1, c2⟩ : ∃ v, I0 x 1 = v := ⟨_, rfl⟩
  have b3 := iv1_1 hW0 tx c2
  obtain ⟨v4, c5⟩ : ∃ v, I0 m 6 = v := ⟨_, rfl⟩
  have b6 := iv15_6 hW0 tm c5
  have p7 := pre0
  rw [c2] at p7
  rw [c5] at p7
  refine tr_aload_n dL_law_1084 hl1 ?_
  refine tr_aload_nS dL_law_1085 hl0 ?_
  refine tr_iload dL_law_1086 hl4 ?_
  refine q_iconst dL_law_1088 (by decide) ?_
  intro v8 h9
  refine q_iaddE dL_law_1089 (by intros; omega) ?_
  intro v10 h11
  refine q_sld hs dL_law_1090 (by omega) (by omega) ?_
  intro v12
  refine tr_aload_nS dL_law_1091 hl0 ?_
  refine tr_iload dL_law_1092 hl4 ?_
  refine q_iconst dL_law_1094 (by decide) ?_
  intro v13 h14
  refine q_iaddE dL_law_1095 (by intros; omega) ?_
  intro v15 h16
  refine q_sld hs dL_law_1096 (by omega) (by omega) ?_
  intro v17
  refine q_if_eq 1104 dL_law_1097 (by decide) (fun h18 => ?_) (fun h18 => ?_)
  · skip
    refine q_iconst dL_law_1104 (by decide) ?_
    intro v19 h20
    refine q_callVi hE (M' := mX10_call) (as := [_, _]) dL_law_1105 lk13_137 inX10_call seX10_call myX10_call (by decide) ⟨by decide, by decide⟩ rfl (kR1 hS0.1 tx) (Nat.le_of_ble_eq_true rfl) rfl rfl hn hw (k_X10_call hS0.1 tx) ?_
    rintro v25 cn' K' N' I21 R22 L23 ⟨rfl, rfl, rfl, rfl, g24, h26, p27, -⟩
    have hS28 := hS0.tr g24 (by decide +kernel) (by decide +kernel)
    obtain ⟨v29, c30⟩ : ∃ v, I21 x 17 = v := ⟨_, rfl⟩
    rw [c30] at p27
    refine tr_pop dL_law_1108 rfl ?_
    refine tr_aload_n dL_law_1109 hl2 ?_
    refine tr_aload_nS dL_law_1110 hl0 ?_
    refine tr_iload dL_law_1111 hl4 ?_
    refine q_iconst dL_law_1113 (by decide) ?_
    intro v31 h32
    refine q_iaddE dL_law_1114 (by intros; omega) ?_
    intro v33 h34
    refine q_sld hs dL_law_1115 (by omega) (by omega) ?_
    intro v35
    refine tr_aload_nS dL_law_1116 hl0 ?_
    refine tr_iload dL_law_1117 hl4 ?_
    refine q_iconst dL_law_1119 (by decide) ?_
    intro v36 h37
    refine q_iaddE dL_law_1120 (by intros; omega) ?_
    intro v38 h39
    refine q_sld hs dL_law_1121 (by omega) (by omega) ?_
    intro v40
    refine q_if_eq 1129 dL_law_1122 (by decide) (fun h41 => ?_) (fun h41 => ?_)
    · skip
      refine q_iconst dL_law_1129 (by decide) ?_
      intro v42 h43
      refine q_callVi hE (M' := mX12_call) (as := [_, _]) dL_law_1130 lk13_141 inX12_call seX12_call myX12_call (by decide) ⟨by decide, by decide⟩ rfl (kR15 hS28.1 tm) (Nat.le_of_ble_eq_true rfl) rfl rfl hn hw (k_X12_call hS28.1 tm) ?_
      rintro v48 cn' K' N' I44 R45 L46 ⟨rfl, rfl, rfl, rfl, rfl, g47, h49, p50, -⟩
      have hS51 := hS28.tr g47 (by decide +kernel) (by decide +kernel)
      have c52 : I44 x 17 = v29 := (g47.cell tx (by decide +kernel)).trans c30
      obtain ⟨v53, c54⟩ : ∃ v, I44 m 2 = v := ⟨_, rfl⟩
      rw [c54] at p50
      refine tr_pop dL_law_1133 rfl ?_
      refine tr_goto 1392 dL_law_1134 (by decide) ?_
      exact hk _ _ _ ⟨hS51, (by (try rw [((hS51.cell tx (by decide +kernel)).trans c2)]); (try rw [((hS51.cell tm (by decide +kernel)).trans c5)]); (try omega)), (by (try rw [c52]); (try omega)), (by (try rw [c54]); (try omega)), trivial⟩
    · skip
      refine q_iconst dL_law_1125 (by decide) ?_
      intro v55 h56
      refine tr_goto 1130 dL_law_1126 (by decide) ?_
      refine q_callVi hE (M' := mX12_call) (as := [_, _]) dL_law_1130 lk13_141 inX12_call seX12_call myX12_call (by decide) ⟨by decide, by decide⟩ rfl (kR15 hS28.1 tm) (Nat.le_of_ble_eq_true rfl) rfl rfl hn hw (k_X12_call hS28.1 tm) ?_
      rintro v61 cn' K' N' I57 R58 L59 ⟨rfl, rfl, rfl, rfl, rfl, g60, h62, p63, -⟩
      have hS64 := hS28.tr g60 (by decide +kernel) (by decide +kernel)
      have c65 : I57 x 17 = v29 := (g60.cell tx (by decide +kernel)).trans c30
      obtain ⟨v66, c67⟩ : ∃ v, I57 m 2 = v := ⟨_, rfl⟩
      rw [c67] at p63
      refine tr_pop dL_law_1133 rfl ?_
      refine tr_goto 1392 dL_law_1134 (by decide) ?_
      exact hk _ _ _ ⟨hS64, (by (try rw [((hS64.cell tx (by decide +kernel)).trans c2)]); (try rw [((hS64.cell tm (by decide +kernel)).trans c5)]); (try omega)), (by (try rw [c65]); (try omega)), (by (try rw [c67]); (try omega)), trivial⟩
  · skip
    refine q_iconst dL_law_1100 (by decide) ?_
    intro v68 h69
    refine tr_goto 1105 dL_law_1101 (by decide) ?_
    refine q_callVi hE (M' := mX10_call) (as := [_, _]) dL_law_1105 lk13_137 inX10_call seX10_call myX10_call (by decide) ⟨by decide, by decide⟩ rfl (kR1 hS0.1 tx) (Nat.le_of_ble_eq_true rfl) rfl rfl hn hw (k_X10_call hS0.1 tx) ?_
    rintro v74 cn' K' N' I70 R71 L72 ⟨rfl, rfl, rfl, rfl, g73, h75, p76, -⟩
    have hS77 := hS0.tr g73 (by decide +kernel) (by decide +kernel)
    obtain ⟨v78, c79⟩ : ∃ v, I70 x 17 = v := ⟨_, rfl⟩
    rw [c79] at p76
    refine tr_pop dL_law_1108 rfl ?_
    refine tr_aload_n dL_law_1109 hl2 ?_
    refine tr_aload_nS dL_law_1110 hl0 ?_
    refine tr_iload dL_law_1111 hl4 ?_
    refine q_iconst dL_law_1113 (by decide) ?_
    intro v80 h81
    refine q_iaddE dL_law_1114 (by intros; omega) ?_
    intro v82 h83
    refine q_sld hs dL_law_1115 (by omega) (by omega) ?_
    intro v84
    refine tr_aload_nS dL_law_1116 hl0 ?_
    refine tr_iload dL_law_1117 hl4 ?_
    refine q_iconst dL_law_1119 (by decide) ?_
    intro v85 h86
    refine q_iaddE dL_law_1120 (by intros; omega) ?_
    intro v87 h88
    refine q_sld hs dL_law_1121 (by omega) (by omega) ?_
    intro v89
    refine q_if_eq 1129 dL_law_1122 (by decide) (fun h90 => ?_) (fun h90 => ?_)
    · skip
      refine q_iconst dL_law_1129 (by decide) ?_
      intro v91 h92
      refine q_callVi hE (M' := mX12_call) (as := [_, _]) dL_law_1130 lk13_141 inX12_call seX12_call myX12_call (by decide) ⟨by decide, by decide⟩ rfl (kR15 hS77.1 tm) (Nat.le_of_ble_eq_true rfl) rfl rfl hn hw (k_X12_call hS77.1 tm) ?_
      rintro v97 cn' K' N' I93 R94 L95 ⟨rfl, rfl, rfl, rfl, rfl, g96, h98, p99, -⟩
      have hS100 := hS77.tr g96 (by decide +kernel) (by decide +kernel)
      have c101 : I93 x 17 = v78 := (g96.cell tx (by decide +kernel)).trans c79
      obtain ⟨v102, c103⟩ : ∃ v, I93 m 2 = v := ⟨_, rfl⟩
      rw [c103] at p99
      refine tr_pop dL_law_1133 rfl ?_
      refine tr_goto 1392 dL_law_1134 (by decide) ?_
      exact hk _ _ _ ⟨hS100, (by (try rw [((hS100.cell tx (by decide +kernel)).trans c2)]); (try rw [((hS100.cell tm (by decide +kernel)).trans c5)]); (try omega)), (by (try rw [c101]); (try omega)), (by (try rw [c103]); (try omega)), trivial⟩
    · skip
      refine q_iconst dL_law_1125 (by decide) ?_
      intro v104 h105
      refine tr_goto 1130 dL_law_1126 (by decide) ?_
      refine q_callVi hE (M' := mX12_call) (as := [_, _]) dL_law_1130 lk13_141 inX12_call seX12_call myX12_call (by decide) ⟨by decide, by decide⟩ rfl (kR15 hS77.1 tm) (Nat.le_of_ble_eq_true rfl) rfl rfl hn hw (k_X12_call hS77.1 tm) ?_
      rintro v110 cn' K' N' I106 R107 L108 ⟨rfl, rfl, rfl, rfl, rfl, g109, h111, p112, -⟩
      have hS113 := hS77.tr g109 (by decide +kernel) (by decide +kernel)
      have c114 : I106 x 17 = v78 := (g109.cell tx (by decide +kernel)).trans c79
      obtain ⟨v115, c116⟩ : ∃ v, I106 m 2 = v := ⟨_, rfl⟩
      rw [c116] at p112
      refine tr_pop dL_law_1133 rfl ?_
      refine tr_goto 1392 dL_law_1134 (by decide) ?_
      exact hk _ _ _ ⟨hS113, (by (try rw [((hS113.cell tx (by decide +kernel)).trans c2)]); (try rw [((hS113.cell tm (by decide +kernel)).trans c5)]); (try omega)), (by (try rw [c114]); (try omega)), (by (try rw [c116]); (try omega)), trivial⟩
def wi_road29 : List Nat := [81, 960, 961, 962]
def wr_road29 : List Nat := []
set_option maxHeartbeats 4000000 in
theorem s_road29 {X : cz_X} (hE : cz_env X) {T : Nat → Nat} {cn : Nat} {K N : Nat → Nat} {I0 : cz_I} {R0 : cz_R} {L0 : cz_L} {d : Int} (hW0 : Wf T cn K N I0 R0 d) {x : Nat} (tx : T x = 1) {m : Nat} (tm : T m = 15) {o : Nat} (tox : T o = 94) {i0 : Int32} {Ln : Nat} {xs : Nat → Int32} (hs : cz_scr X Ln xs) (hi0 : 0 ≤ i0.toInt ∧ i0.toInt + 6 ≤ (Ln : Int) ∧ (Ln : Int) ≤ 3072) {n w : Nat} (hn : n ≤ (cz_rm mL_law).cells) (hw : w ≤ (cz_rm mL_law).slots) (pre0 : (I0 x 1).toInt = (I0 m 6).toInt) {ls : Nat → Option Value} (hl0 : ls 0 = some (.float 1000000)) (hl1 : ls 1 = some (.ref x)) (hl2 : ls 2 = some (.ref m)) (hl3 : ls 3 = some (.ref o)) (hl4 : ls 4 = some (.int i0)) (hk : ∀ (I' : cz_I) (R' : cz_R) (L' : cz_L), St T cn K N d wi_road29 wr_road29 I0 R0 I' R' ∧ ((I' x 1).toInt = (I' m 6).toInt) ∧ ((I' x 17).toInt ≠ 4) ∧ ((I' m 2).toInt = -1) ∧ True → Tr X mL_law 1392 ls [] cn K N I' R' L' n w) : Tr X mL_law 1137 ls [] cn K N I0 R0 L0 n w := by
  have hS0 : St T cn K N d wi_road29 wr_road29 I0 R0 I0 R0 := St.rf0 hW0
  obtain ⟨v1, c2⟩ : ∃ v, I0 x 1 = v := ⟨_, rfl⟩
  have b3 := iv1_1 hW0 tx c2
  obtain ⟨v4, c5⟩ : ∃ v, I0 m 6 = v := ⟨_, rfl⟩
  have b6 := iv15_6 hW0 tm c5
  have p7 := pre0
  rw [c2] at p7
  rw [c5] at p7
  refine tr_aload_n dL_law_1137 hl1 ?_
  refine q_callVi hE (M' := mX10_calls) (as := []) dL_law_1138 lk13_142 inX10_calls seX10_calls myX10_calls (by decide) ⟨by decide, by decide⟩ rfl (kR1 hS0.1 tx) (Nat.le_of_ble_eq_true rfl) rfl rfl hn hw (k_X10_calls hS0.1 tx) ?_
  rintro v12 cn' K' N' I8 R9 L10 ⟨rfl, rfl, rfl, rfl, rfl, g11, p13, -⟩
  have hS14 := hS0.tr g11 (by decide +kernel) (by decide +kernel)
  obtain ⟨v15, c16⟩ : ∃ v, I8 x 17 = v := ⟨_, rfl⟩
  rw [c16] at p13
  refine tr_pop dL_law_1141 rfl ?_
  refine tr_aload_n dL_law_1142 hl2 ?_
  refine q_callVi hE (M' := mX12_calls) (as := []) dL_law_1143 lk13_145 inX12_calls seX12_calls myX12_calls (by decide) ⟨by decide, by decide⟩ rfl (kR15 hS14.1 tm) (Nat.le_of_ble_eq_true rfl) rfl rfl hn hw (k_X12_calls hS14.1 tm) ?_
  rintro v21 cn' K' N' I17 R18 L19 ⟨rfl, rfl, rfl, rfl, rfl, g20, p22, -⟩
  have hS23 := hS14.tr g20 (by decide +kernel) (by decide +kernel)
  have c24 : I17 x 17 = v15 := (g20.cell tx (by decide +kernel)).trans c16
  obtain ⟨v25, c26⟩ : ∃ v, I17 m 2 = v := ⟨_, rfl⟩
  rw [c26] at p22
  refine tr_pop dL_law_1146 rfl ?_
  refine tr_goto 1392 dL_law_1147 (by decide) ?_
  exact hk _ _ _ ⟨hS23, (by (try rw [((hS23.cell tx (by decide +kernel)).trans c2)]); (try rw [((hS23.cell tm (by decide +kernel)).trans c5)]); (try omega)), (by (try rw [c24]); (try omega)), (by (try rw [c26]); (try omega)), trivial⟩
def wi_road30 : List Nat := [73, 75, 81, 514, 640, 641, 642, 704, 960, 961, 962, 979, 1791, 1855, 2047, 2111, 4991, 5055]
def wr_road30 : List Nat := [2175]
set_option maxHeartbeats 4000000 in
theorem s_road30 {X : cz_X} (hE : cz_env X) {T : Nat → Nat} {cn : Nat} {K N : Nat → Nat} {I0 : cz_I} {R0 : cz_R} {L0 : cz_L} {d : Int} (hW0 : Wf T cn K N I0 R0 d) {x : Nat} (tx : T x = 1) {m : Nat} (tm : T m = 15) {o : Nat} (tox : T o = 94) {i0 : Int32} {Ln : Nat} {xs : Nat → Int32} (hs : cz_scr X Ln xs) (hi0 : 0 ≤ i0.toInt ∧ i0.toInt + 6 ≤ (Ln : Int) ∧ (Ln : Int) ≤ 3072) {n w : Nat} (hn : n ≤ (cz_rm mL_law).cells) (hw : w ≤ (cz_rm mL_law).slots) (pre0 : (I0 x 1).toInt = (I0 m 6).toInt) {ls : Nat → Option Value} (hl0 : ls 0 = some (.float 1000000)) (hl1 : ls 1 = some (.ref x)) (hl2 : ls 2 = some (.ref m)) (hl3 : ls 3 = some (.ref o)) (hl4 : ls 4 = some (.int i0)) (hk : ∀ (I' : cz_I) (R' : cz_R) (L' : cz_L), St T cn K N d wi_road30 wr_road30 I0 R0 I' R' ∧ ((I' x 1).toInt = (I' m 6).toInt) ∧ ((I' x 17).toInt ≠ 4) ∧ ((I' m 2).toInt = -1) ∧ True → Tr X mL_law 1392 ls [] cn K N I' R' L' n w) : Tr X mL_law 1150 ls [] cn K N I0 R0 L0 n w := by
  have hS0 : St T cn K N d wi_road30 wr_road30 I0 R0 I0 R0 := St.rf0 hW0
  obtain ⟨v1, c2⟩ : ∃ v, I0 x 1 = v := ⟨_, rfl⟩
  have b3 := iv1_1 hW0 tx c2
  obtain ⟨v4, c5⟩ : ∃ v, I0 m 6 = v := ⟨_, rfl⟩
  have b6 := iv15_6 hW0 tm c5
  have p7 := pre0
  rw [c2] at p7
  rw [c5] at p7
  refine tr_aload_n dL_law_1150 hl1 ?_
  refine tr_aload_nS dL_law_1151 hl0 ?_
  refine tr_iload dL_law_1152 hl4 ?_
  refine q_iconst dL_law_1154 (by decide) ?_
  intro v8 h9
  refine q_iaddE dL_law_1155 (by intros; omega) ?_
  intro v10 h11
  refine q_sld hs dL_law_1156 (by omega) (by omega) ?_
  intro v12
  refine tr_aload_nS dL_law_1157 hl0 ?_
  refine tr_iload dL_law_1158 hl4 ?_
  refine q_iconst dL_law_1160 (by decide) ?_
  intro v13 h14
  refine q_iaddE dL_law_1161 (by intros; omega) ?_
  intro v15 h16
  refine q_sld hs dL_law_1162 (by omega) (by omega) ?_
  intro v17
  refine q_callVi hE (M' := mX10_cloud) (as := [_, _]) dL_law_1163 lk13_146 inX10_cloud seX10_cloud myX10_cloud (by decide) ⟨by decide, by decide⟩ rfl (kR1 hS0.1 tx) (Nat.le_of_ble_eq_true rfl) rfl rfl hn hw (k_X10_cloud hS0.1 tx) ?_
  rintro v22 cn' K' N' I18 R19 L20 ⟨rfl, rfl, rfl, rfl, g21, h23, p24, -⟩
  have hS25 := hS0.tr g21 (by decide +kernel) (by decide +kernel)
  obtain ⟨v26, c27⟩ : ∃ v, I18 x 17 = v := ⟨_, rfl⟩
  rw [c27] at p24
  refine tr_pop dL_law_1166 rfl ?_
  refine tr_aload_n dL_law_1167 hl2 ?_
  refine tr_aload_nS dL_law_1168 hl0 ?_
  refine tr_iload dL_law_1169 hl4 ?_
  refine q_iconst dL_law_1171 (by decide) ?_
  intro v28 h29
  refine q_iaddE dL_law_1172 (by intros; omega) ?_
  intro v30 h31
  refine q_sld hs dL_law_1173 (by omega) (by omega) ?_
  intro v32
  refine tr_aload_nS dL_law_1174 hl0 ?_
  refine tr_iload dL_law_1175 hl4 ?_
  refine q_iconst dL_law_1177 (by decide) ?_
  intro v33 h34
  refine q_iaddE dL_law_1178 (by intros; omega) ?_
  intro v35 h36
  refine q_sld hs dL_law_1179 (by omega) (by omega) ?_
  intro v37
  refine q_callVi hE (M' := mX12_cloud) (as := [_, _]) dL_law_1180 lk13_150 inX12_cloud seX12_cloud myX12_cloud (by decide) ⟨by decide, by decide⟩ rfl (kR15 hS25.1 tm) (Nat.le_of_ble_eq_true rfl) rfl rfl hn hw (k_X12_cloud hS25.1 tm) ?_
  rintro v42 cn' K' N' I38 R39 L40 ⟨rfl, rfl, rfl, rfl, rfl, g41, h43, p44, -⟩
  have hS45 := hS25.tr g41 (by decide +kernel) (by decide +kernel)
  have c46 : I38 x 17 = v26 := (g41.cell tx (by decide +kernel)).trans c27
  obtain ⟨v47, c48⟩ : ∃ v, I38 m 2 = v := ⟨_, rfl⟩
  rw [c48] at p44
  refine tr_pop dL_law_1183 rfl ?_
  refine tr_goto 1392 dL_law_1184 (by decide) ?_
  exact hk _ _ _ ⟨hS45, (by (try rw [((hS45.cell tx (by decide +kernel)).trans c2)]); (try rw [((hS45.cell tm (by decide +kernel)).trans c5)]); (try omega)), (by (try rw [c46]); (try omega)), (by (try rw [c48]); (try omega)), trivial⟩
def wi_road31 : List Nat := [73, 75, 81, 513, 514, 640, 641, 642, 704, 960, 961, 962, 979, 1791, 1855, 2047, 2111, 4991, 5055]
def wr_road31 : List Nat := [2175]
set_option maxHeartbeats 4000000 in
theorem s_road31 {X : cz_X} (hE : cz_env X) {T : Nat → Nat} {cn : Nat} {K N : Nat → Nat} {I0 : cz_I} {R0 : cz_R} {L0 : cz_L} {d : Int} (hW0 : Wf T cn K N I0 R0 d) {x : Nat} (tx : T x = 1) {m : Nat} (tm : T m = 15) {o : Nat} (tox : T o = 94) {i0 : Int32} {Ln : Nat} {xs : Nat → Int32} (hs : cz_scr X Ln xs) (hi0 : 0 ≤ i0.toInt ∧ i0.toInt + 6 ≤ (Ln : Int) ∧ (Ln : Int) ≤ 3072) {n w : Nat} (hn : n ≤ (cz_rm mL_law).cells) (hw : w ≤ (cz_rm mL_law).slots) (pre0 : (I0 x 1).toInt = (I0 m 6).toInt) {ls : Nat → Option Value} (hl0 : ls 0 = some (.float 1000000)) (hl1 : ls 1 = some (.ref x)) (hl2 : ls 2 = some (.ref m)) (hl3 : ls 3 = some (.ref o)) (hl4 : ls 4 = some (.int i0)) (hk : ∀ (I' : cz_I) (R' : cz_R) (L' : cz_L), St T cn K N d wi_road31 wr_road31 I0 R0 I' R' ∧ ((I' x 1).toInt = (I' m 6).toInt) ∧ ((I' x 17).toInt ≠ 4) ∧ ((I' m 2).toInt = -1) ∧ True → Tr X mL_law 1392 ls [] cn K N I' R' L' n w) : Tr X mL_law 1187 ls [] cn K N I0 R0 L0 n w := by
  have hS0 : St T cn K N d wi_road31 wr_road31 I0 R0 I0 R0 := St.rf0 hW0
  obtain ⟨v1, c2⟩ : ∃ v, I0 x 1 = v := ⟨_, rfl⟩
  have b3 := iv1_1 hW0 tx c2
  obtain ⟨v4, c5⟩ : ∃ v, I0 m 6 = v := ⟨_, rfl⟩
  have b6 := iv15_6 hW0 tm c5
  have p7 := pre0
  rw [c2] at p7
  rw [c5] at p7
  refine tr_aload_n dL_law_1187 hl1 ?_
  refine q_callVi hE (M' := mX10_draw) (as := []) dL_law_1188 lk13_151 inX10_draw seX10_draw myX10_draw (by decide) ⟨by decide, by decide⟩ rfl (kR1 hS0.1 tx) (Nat.le_of_ble_eq_true rfl) rfl rfl hn hw (k_X10_draw hS0.1 tx) ?_
  rintro v12 cn' K' N' I8 R9 L10 ⟨rfl, rfl, rfl, rfl, g11, p13, -⟩
  have hS14 := hS0.tr g11 (by decide +kernel) (by decide +kernel)
  obtain ⟨v15, c16⟩ : ∃ v, I8 x 17 = v := ⟨_, rfl⟩
  rw [c16] at p13
  refine tr_pop dL_law_1191 rfl ?_
  refine tr_aload_n dL_law_1192 hl2 ?_
  refine q_callVi hE (M' := mX12_draw) (as := []) dL_law_1193 lk13_154 inX12_draw seX12_draw myX12_draw (by decide) ⟨by decide, by decide⟩ rfl (kR15 hS14.1 tm) (Nat.le_of_ble_eq_true rfl) rfl rfl hn hw (k_X12_draw hS14.1 tm) ?_
  rintro v21 cn' K' N' I17 R18 L19 ⟨rfl, rfl, rfl, rfl, rfl, g20, p22, -⟩
  have hS23 := hS14.tr g20 (by decide +kernel) (by decide +kernel)
  have c24 : I17 x 17 = v15 := (g20.cell tx (by decide +kernel)).trans c16
  obtain ⟨v25, c26⟩ : ∃ v, I17 m 2 = v := ⟨_, rfl⟩
  rw [c26] at p22
  refine tr_pop dL_law_1196 rfl ?_
  refine tr_goto 1392 dL_law_1197 (by decide) ?_
  exact hk _ _ _ ⟨hS23, (by (try rw [((hS23.cell tx (by decide +kernel)).trans c2)]); (try rw [((hS23.cell tm (by decide +kernel)).trans c5)]); (try omega)), (by (try rw [c24]); (try omega)), (by (try rw [c26]); (try omega)), trivial⟩
def wi_road32 : List Nat := [73, 75, 81, 514, 640, 641, 642, 704, 960, 961, 962, 979, 2047, 2111, 4991, 5055]
def wr_road32 : List Nat := [2175]
set_option maxHeartbeats 4000000 in
theorem s_road32 {X : cz_X} (hE : cz_env X) {T : Nat → Nat} {cn : Nat} {K N : Nat → Nat} {I0 : cz_I} {R0 : cz_R} {L0 : cz_L} {d : Int} (hW0 : Wf T cn K N I0 R0 d) {x : Nat} (tx : T x = 1) {m : Nat} (tm : T m = 15) {o : Nat} (tox : T o = 94) {i0 : Int32} {Ln : Nat} {xs : Nat → Int32} (hs : cz_scr X Ln xs) (hi0 : 0 ≤ i0.toInt ∧ i0.toInt + 6 ≤ (Ln : Int) ∧ (Ln : Int) ≤ 3072) {n w : Nat} (hn : n ≤ (cz_rm mL_law).cells) (hw : w ≤ (cz_rm mL_law).slots) (pre0 : (I0 x 1).toInt = (I0 m 6).toInt) {ls : Nat → Option Value} (hl0 : ls 0 = some (.float 1000000)) (hl1 : ls 1 = some (.ref x)) (hl2 : ls 2 = some (.ref m)) (hl3 : ls 3 = some (.ref o)) (hl4 : ls 4 = some (.int i0)) (hk : ∀ (I' : cz_I) (R' : cz_R) (L' : cz_L), St T cn K N d wi_road32 wr_road32 I0 R0 I' R' ∧ ((I' x 1).toInt = (I' m 6).toInt) ∧ ((I' x 17).toInt ≠ 4) ∧ ((I' m 2).toInt = -1) ∧ True → Tr X mL_law 1392 ls [] cn K N I' R' L' n w) : Tr X mL_law 1200 ls [] cn K N I0 R0 L0 n w := by
  have hS0 : St T cn K N d wi_road32 wr_road32 I0 R0 I0 R0 := St.rf0 hW0
  obtain ⟨v1, c2⟩ : ∃ v, I0 x 1 = v := ⟨_, rfl⟩
  have b3 := iv1_1 hW0 tx c2
  obtain ⟨v4, c5⟩ : ∃ v, I0 m 6 = v := ⟨_, rfl⟩
  have b6 := iv15_6 hW0 tm c5
  have p7 := pre0
  rw [c2] at p7
  rw [c5] at p7
  refine tr_aload_n dL_law_1200 hl1 ?_
  refine q_callVi hE (M' := mX10_lift) (as := []) dL_law_1201 lk13_155 inX10_lift seX10_lift myX10_lift (by decide) ⟨by decide, by decide⟩ rfl (kR1 hS0.1 tx) (Nat.le_of_ble_eq_true rfl) rfl rfl hn hw (k_X10_lift hS0.1 tx) ?_
  rintro v12 cn' K' N' I8 R9 L10 ⟨rfl, rfl, rfl, rfl, g11, h13, p14, -⟩
  have hS15 := hS0.tr g11 (by decide +kernel) (by decide +kernel)
  obtain ⟨v16, c17⟩ : ∃ v, I8 x 17 = v := ⟨_, rfl⟩
  rw [c17] at p14
  refine tr_pop dL_law_1204 rfl ?_
  refine tr_aload_n dL_law_1205 hl2 ?_
  refine q_callVi hE (M' := mX12_lift) (as := []) dL_law_1206 lk13_159 inX12_lift seX12_lift myX12_lift (by decide) ⟨by decide, by decide⟩ rfl (kR15 hS15.1 tm) (Nat.le_of_ble_eq_true rfl) rfl rfl hn hw (k_X12_lift hS15.1 tm) ?_
  rintro v22 cn' K' N' I18 R19 L20 ⟨rfl, rfl, rfl, rfl, rfl, g21, h23, p24, -⟩
  have hS25 := hS15.tr g21 (by decide +kernel) (by decide +kernel)
  have c26 : I18 x 17 = v16 := (g21.cell tx (by decide +kernel)).trans c17
  obtain ⟨v27, c28⟩ : ∃ v, I18 m 2 = v := ⟨_, rfl⟩
  rw [c28] at p24
  refine tr_pop dL_law_1209 rfl ?_
  refine tr_goto 1392 dL_law_1210 (by decide) ?_
  exact hk _ _ _ ⟨hS25, (by (try rw [((hS25.cell tx (by decide +kernel)).trans c2)]); (try rw [((hS25.cell tm (by decide +kernel)).trans c5)]); (try omega)), (by (try rw [c26]); (try omega)), (by (try rw [c28]); (try omega)), trivial⟩
def wi_road33 : List Nat := [81, 513, 960, 961, 962, 4991]
def wr_road33 : List Nat := []
set_option maxHeartbeats 4000000 in
theorem s_road33 {X : cz_X} (hE : cz_env X) {T : Nat → Nat} {cn : Nat} {K N : Nat → Nat} {I0 : cz_I} {R0 : cz_R} {L0 : cz_L} {d : Int} (hW0 : Wf T cn K N I0 R0 d) {x : Nat} (tx : T x = 1) {m : Nat} (tm : T m = 15) {o : Nat} (tox : T o = 94) {i0 : Int32} {Ln : Nat} {xs : Nat → Int32} (hs : cz_scr X Ln xs) (hi0 : 0 ≤ i0.toInt ∧ i0.toInt + 6 ≤ (Ln : Int) ∧ (Ln : Int) ≤ 3072) {n w : Nat} (hn : n ≤ (cz_rm mL_law).cells) (hw : w ≤ (cz_rm mL_law).slots) (pre0 : (I0 x 1).toInt = (I0 m 6).toInt) {ls : Nat → Option Value} (hl0 : ls 0 = some (.float 1000000)) (hl1 : ls 1 = some (.ref x)) (hl2 : ls 2 = some (.ref m)) (hl3 : ls 3 = some (.ref o)) (hl4 : ls 4 = some (.int i0)) (hk : ∀ (I' : cz_I) (R' : cz_R) (L' : cz_L), St T cn K N d wi_road33 wr_road33 I0 R0 I' R' ∧ ((I' x 1).toInt = (I' m 6).toInt) ∧ ((I' x 17).toInt ≠ 4) ∧ ((I' m 2).toInt = -1) ∧ True → Tr X mL_law 1392 ls [] cn K N I' R' L' n w) : Tr X mL_law 1213 ls [] cn K N I0 R0 L0 n w := by
  have hS0 : St T cn K N d wi_road33 wr_road33 I0 R0 I0 R0 := St.rf0 hW0
  obtain ⟨v1, c2⟩ : ∃ v, I0 x 1 = v := ⟨_, rfl⟩
  have b3 := iv1_1 hW0 tx c2
  obtain ⟨v4, c5⟩ : ∃ v, I0 m 6 = v := ⟨_, rfl⟩
  have b6 := iv15_6 hW0 tm c5
  have p7 := pre0
  rw [c2] at p7
  rw [c5] at p7
  refine tr_aload_n dL_law_1213 hl1 ?_
  refine tr_aload_nS dL_law_1214 hl0 ?_
  refine tr_iload dL_law_1215 hl4 ?_
  refine q_iconst dL_law_1217 (by decide) ?_
  intro v8 h9
  refine q_iaddE dL_law_1218 (by intros; omega) ?_
  intro v10 h11
  refine q_sld hs dL_law_1219 (by omega) (by omega) ?_
  intro v12
  refine q_callVi hE (M' := mX10_seed) (as := [_]) dL_law_1220 lk13_160 inX10_seed seX10_seed myX10_seed (by decide) ⟨by decide, by decide⟩ rfl (kR1 hS0.1 tx) (Nat.le_of_ble_eq_true rfl) rfl rfl hn hw (k_X10_seed hS0.1 tx) ?_
  rintro v17 cn' K' N' I13 R14 L15 ⟨rfl, rfl, rfl, rfl, rfl, g16, h18, p19, -⟩
  have hS20 := hS0.tr g16 (by decide +kernel) (by decide +kernel)
  obtain ⟨v21, c22⟩ : ∃ v, I13 x 17 = v := ⟨_, rfl⟩
  rw [c22] at p19
  refine tr_pop dL_law_1223 rfl ?_
  refine tr_aload_n dL_law_1224 hl2 ?_
  refine tr_aload_nS dL_law_1225 hl0 ?_
  refine tr_iload dL_law_1226 hl4 ?_
  refine q_iconst dL_law_1228 (by decide) ?_
  intro v23 h24
  refine q_iaddE dL_law_1229 (by intros; omega) ?_
  intro v25 h26
  refine q_sld hs dL_law_1230 (by omega) (by omega) ?_
  intro v27
  refine q_callVi hE (M' := mX12_seed) (as := [_]) dL_law_1231 lk13_164 inX12_seed seX12_seed myX12_seed (by decide) ⟨by decide, by decide⟩ rfl (kR15 hS20.1 tm) (Nat.le_of_ble_eq_true rfl) rfl rfl hn hw (k_X12_seed hS20.1 tm) ?_
  rintro v32 cn' K' N' I28 R29 L30 ⟨rfl, rfl, rfl, rfl, rfl, g31, h33, p34, -⟩
  have hS35 := hS20.tr g31 (by decide +kernel) (by decide +kernel)
  have c36 : I28 x 17 = v21 := (g31.cell tx (by decide +kernel)).trans c22
  obtain ⟨v37, c38⟩ : ∃ v, I28 m 2 = v := ⟨_, rfl⟩
  rw [c38] at p34
  refine tr_pop dL_law_1234 rfl ?_
  refine tr_goto 1392 dL_law_1235 (by decide) ?_
  exact hk _ _ _ ⟨hS35, (by (try rw [((hS35.cell tx (by decide +kernel)).trans c2)]); (try rw [((hS35.cell tm (by decide +kernel)).trans c5)]); (try omega)), (by (try rw [c36]); (try omega)), (by (try rw [c38]); (try omega)), trivial⟩
def wi_road34 : List Nat := [73, 75, 81, 512, 513, 514, 704, 960, 961, 962, 979, 1791, 1855, 4991]
def wr_road34 : List Nat := []
set_option maxHeartbeats 4000000 in
theorem s_road34 {X : cz_X} (hE : cz_env X) {T : Nat → Nat} {cn : Nat} {K N : Nat → Nat} {I0 : cz_I} {R0 : cz_R} {L0 : cz_L} {d : Int} (hW0 : Wf T cn K N I0 R0 d) {x : Nat} (tx : T x = 1) {m : Nat} (tm : T m = 15) {o : Nat} (tox : T o = 94) {i0 : Int32} {Ln : Nat} {xs : Nat → Int32} (hs : cz_scr X Ln xs) (hi0 : 0 ≤ i0.toInt ∧ i0.toInt + 6 ≤ (Ln : Int) ∧ (Ln : Int) ≤ 3072) {n w : Nat} (hn : n ≤ (cz_rm mL_law).cells) (hw : w ≤ (cz_rm mL_law).slots) (pre0 : (I0 x 1).toInt = (I0 m 6).toInt) {ls : Nat → Option Value} (hl0 : ls 0 = some (.float 1000000)) (hl1 : ls 1 = some (.ref x)) (hl2 : ls 2 = some (.ref m)) (hl3 : ls 3 = some (.ref o)) (hl4 : ls 4 = some (.int i0)) (hk : ∀ (I' : cz_I) (R' : cz_R) (L' : cz_L), St T cn K N d wi_road34 wr_road34 I0 R0 I' R' ∧ ((I' x 1).toInt = (I' m 6).toInt) ∧ ((I' x 17).toInt ≠ 4) ∧ ((I' m 2).toInt = -1) ∧ True → Tr X mL_law 1392 ls [] cn K N I' R' L' n w) : Tr X mL_law 1238 ls [] cn K N I0 R0 L0 n w := by
  have hS0 : St T cn K N d wi_road34 wr_road34 I0 R0 I0 R0 := St.rf0 hW0
  obtain ⟨v1, c2⟩ : ∃ v, I0 x 1 = v := ⟨_, rfl⟩
  have b3 := iv1_1 hW0 tx c2
  obtain ⟨v4, c5⟩ : ∃ v, I0 m 6 = v := ⟨_, rfl⟩
  have b6 := iv15_6 hW0 tm c5
  have p7 := pre0
  rw [c2] at p7
  rw [c5] at p7
  refine tr_aload_n dL_law_1238 hl1 ?_
  refine q_callVi hE (M' := mX10_undo) (as := []) dL_law_1239 lk13_165 inX10_undo seX10_undo myX10_undo (by decide) ⟨by decide, by decide⟩ rfl (kR1 hS0.1 tx) (Nat.le_of_ble_eq_true rfl) rfl rfl hn hw (k_X10_undo hS0.1 tx) ?_
  rintro v12 cn' K' N' I8 R9 L10 ⟨rfl, rfl, rfl, rfl, rfl, g11, h13, p14, -⟩
  have hS15 := hS0.tr g11 (by decide +kernel) (by decide +kernel)
  obtain ⟨v16, c17⟩ : ∃ v, I8 x 17 = v := ⟨_, rfl⟩
  rw [c17] at p14
  refine tr_pop dL_law_1242 rfl ?_
  refine tr_aload_n dL_law_1243 hl2 ?_
  refine q_callVi hE (M' := mX12_undo) (as := []) dL_law_1244 lk13_168 inX12_undo seX12_undo myX12_undo (by decide) ⟨by decide, by decide⟩ rfl (kR15 hS15.1 tm) (Nat.le_of_ble_eq_true rfl) rfl rfl hn hw (k_X12_undo hS15.1 tm) ?_
  rintro v22 cn' K' N' I18 R19 L20 ⟨rfl, rfl, rfl, rfl, rfl, g21, h23, p24, -⟩
  have hS25 := hS15.tr g21 (by decide +kernel) (by decide +kernel)
  have c26 : I18 x 17 = v16 := (g21.cell tx (by decide +kernel)).trans c17
  obtain ⟨v27, c28⟩ : ∃ v, I18 m 2 = v := ⟨_, rfl⟩
  rw [c28] at p24
  refine tr_pop dL_law_1247 rfl ?_
  refine tr_goto 1392 dL_law_1248 (by decide) ?_
  exact hk _ _ _ ⟨hS25, (by (try rw [((hS25.cell tx (by decide +kernel)).trans c2)]); (try rw [((hS25.cell tm (by decide +kernel)).trans c5)]); (try omega)), (by (try rw [c26]); (try omega)), (by (try rw [c28]); (try omega)), trivial⟩
def wi_road35 : List Nat := [81, 640, 641, 642, 706, 960, 961, 962, 980, 2047, 2111, 5119]
def wr_road35 : List Nat := []
set_option maxHeartbeats 4000000 in
theorem s_road35 {X : cz_X} (hE : cz_env X) {T : Nat → Nat} {cn : Nat} {K N : Nat → Nat} {I0 : cz_I} {R0 : cz_R} {L0 : cz_L} {d : Int} (hW0 : Wf T cn K N I0 R0 d) {x : Nat} (tx : T x = 1) {m : Nat} (tm : T m = 15) {o : Nat} (tox : T o = 94) {i0 : Int32} {Ln : Nat} {xs : Nat → Int32} (hs : cz_scr X Ln xs) (hi0 : 0 ≤ i0.toInt ∧ i0.toInt + 6 ≤ (Ln : Int) ∧ (Ln : Int) ≤ 3072) {n w : Nat} (hn : n ≤ (cz_rm mL_law).cells) (hw : w ≤ (cz_rm mL_law).slots) (pre0 : (I0 x 1).toInt = (I0 m 6).toInt) {ls : Nat → Option Value} (hl0 : ls 0 = some (.float 1000000)) (hl1 : ls 1 = some (.ref x)) (hl2 : ls 2 = some (.ref m)) (hl3 : ls 3 = some (.ref o)) (hl4 : ls 4 = some (.int i0)) (hk : ∀ (I' : cz_I) (R' : cz_R) (L' : cz_L), St T cn K N d wi_road35 wr_road35 I0 R0 I' R' ∧ ((I' x 1).toInt = (I' m 6).toInt) ∧ ((I' x 17).toInt ≠ 4) ∧ ((I' m 2).toInt = -1) ∧ True → Tr X mL_law 1392 ls [] cn K N I' R' L' n w) : Tr X mL_law 1251 ls [] cn K N I0 R0 L0 n w := by
  have hS0 : St T cn K N d wi_road35 wr_road35 I0 R0 I0 R0 := St.rf0 hW0
  obtain ⟨v1, c2⟩ : ∃ v, I0 x 1 = v := ⟨_, rfl⟩
  have b3 := iv1_1 hW0 tx c2
  obtain ⟨v4, c5⟩ : ∃ v, I0 m 6 = v := ⟨_, rfl⟩
  have b6 := iv15_6 hW0 tm c5
  have p7 := pre0
  rw [c2] at p7
  rw [c5] at p7
  refine tr_aload_n dL_law_1251 hl1 ?_
  refine q_callVi hE (M' := mX10_mark) (as := []) dL_law_1252 lk13_169 inX10_mark seX10_mark myX10_mark (by decide) ⟨by decide, by decide⟩ rfl (kR1 hS0.1 tx) (Nat.le_of_ble_eq_true rfl) rfl rfl hn hw (k_X10_mark hS0.1 tx) ?_
  rintro v12 cn' K' N' I8 R9 L10 ⟨rfl, rfl, rfl, rfl, rfl, g11, p13, -⟩
  have hS14 := hS0.tr g11 (by decide +kernel) (by decide +kernel)
  obtain ⟨v15, c16⟩ : ∃ v, I8 x 17 = v := ⟨_, rfl⟩
  rw [c16] at p13
  refine tr_pop dL_law_1255 rfl ?_
  refine tr_aload_n dL_law_1256 hl2 ?_
  refine q_callVi hE (M' := mX12_mark) (as := []) dL_law_1257 lk13_172 inX12_mark seX12_mark myX12_mark (by decide) ⟨by decide, by decide⟩ rfl (kR15 hS14.1 tm) (Nat.le_of_ble_eq_true rfl) rfl rfl hn hw (k_X12_mark hS14.1 tm) ?_
  rintro v21 cn' K' N' I17 R18 L19 ⟨rfl, rfl, rfl, rfl, rfl, g20, p22, -⟩
  have hS23 := hS14.tr g20 (by decide +kernel) (by decide +kernel)
  have c24 : I17 x 17 = v15 := (g20.cell tx (by decide +kernel)).trans c16
  obtain ⟨v25, c26⟩ : ∃ v, I17 m 2 = v := ⟨_, rfl⟩
  rw [c26] at p22
  refine tr_pop dL_law_1260 rfl ?_
  refine tr_goto 1392 dL_law_1261 (by decide) ?_
  exact hk _ _ _ ⟨hS23, (by (try rw [((hS23.cell tx (by decide +kernel)).trans c2)]); (try rw [((hS23.cell tm (by decide +kernel)).trans c5)]); (try omega)), (by (try rw [c24]); (try omega)), (by (try rw [c26]); (try omega)), trivial⟩
def wi_road36 : List Nat := [73, 75, 81, 512, 513, 514, 704, 960, 961, 962, 979, 1791, 1855, 4991]
def wr_road36 : List Nat := []
set_option maxHeartbeats 4000000 in
theorem s_road36 {X : cz_X} (hE : cz_env X) {T : Nat → Nat} {cn : Nat} {K N : Nat → Nat} {I0 : cz_I} {R0 : cz_R} {L0 : cz_L} {d : Int} (hW0 : Wf T cn K N I0 R0 d) {x : Nat} (tx : T x = 1) {m : Nat} (tm : T m = 15) {o : Nat} (tox : T o = 94) {i0 : Int32} {Ln : Nat} {xs : Nat → Int32} (hs : cz_scr X Ln xs) (hi0 : 0 ≤ i0.toInt ∧ i0.toInt + 6 ≤ (Ln : Int) ∧ (Ln : Int) ≤ 3072) {n w : Nat} (hn : n ≤ (cz_rm mL_law).cells) (hw : w ≤ (cz_rm mL_law).slots) (pre0 : (I0 x 1).toInt = (I0 m 6).toInt) {ls : Nat → Option Value} (hl0 : ls 0 = some (.float 1000000)) (hl1 : ls 1 = some (.ref x)) (hl2 : ls 2 = some (.ref m)) (hl3 : ls 3 = some (.ref o)) (hl4 : ls 4 = some (.int i0)) (hk : ∀ (I' : cz_I) (R' : cz_R) (L' : cz_L), St T cn K N d wi_road36 wr_road36 I0 R0 I' R' ∧ ((I' x 1).toInt = (I' m 6).toInt) ∧ ((I' x 17).toInt ≠ 4) ∧ ((I' m 2).toInt = -1) ∧ True → Tr X mL_law 1392 ls [] cn K N I' R' L' n w) : Tr X mL_law 1264 ls [] cn K N I0 R0 L0 n w := by
  have hS0 : St T cn K N d wi_road36 wr_road36 I0 R0 I0 R0 := St.rf0 hW0
  obtain ⟨v1, c2⟩ : ∃ v, I0 x 1 = v := ⟨_, rfl⟩
  have b3 := iv1_1 hW0 tx c2
  obtain ⟨v4, c5⟩ : ∃ v, I0 m 6 = v := ⟨_, rfl⟩
  have b6 := iv15_6 hW0 tm c5
  have p7 := pre0
  rw [c2] at p7
  rw [c5] at p7
  refine tr_aload_n dL_law_1264 hl1 ?_
  refine tr_aload_nS dL_law_1265 hl0 ?_
  refine tr_iload dL_law_1266 hl4 ?_
  refine q_iconst dL_law_1268 (by decide) ?_
  intro v8 h9
  refine q_iaddE dL_law_1269 (by intros; omega) ?_
  intro v10 h11
  refine q_sld hs dL_law_1270 (by omega) (by omega) ?_
  intro v12
  refine q_callVi hE (M' := mX10_back) (as := [_]) dL_law_1271 lk13_173 inX10_back seX10_back myX10_back (by decide) ⟨by decide, by decide⟩ rfl (kR1 hS0.1 tx) (Nat.le_of_ble_eq_true rfl) rfl rfl hn hw (k_X10_back hS0.1 tx) ?_
  rintro v17 cn' K' N' I13 R14 L15 ⟨rfl, rfl, rfl, rfl, rfl, g16, h18, p19, -⟩
  have hS20 := hS0.tr g16 (by decide +kernel) (by decide +kernel)
  obtain ⟨v21, c22⟩ : ∃ v, I13 x 17 = v := ⟨_, rfl⟩
  rw [c22] at p19
  refine tr_pop dL_law_1274 rfl ?_
  refine tr_aload_n dL_law_1275 hl2 ?_
  refine tr_aload_nS dL_law_1276 hl0 ?_
  refine tr_iload dL_law_1277 hl4 ?_
  refine q_iconst dL_law_1279 (by decide) ?_
  intro v23 h24
  refine q_iaddE dL_law_1280 (by intros; omega) ?_
  intro v25 h26
  refine q_sld hs dL_law_1281 (by omega) (by omega) ?_
  intro v27
  refine q_callVi hE (M' := mX12_back) (as := [_]) dL_law_1282 lk13_176 inX12_back seX12_back myX12_back (by decide) ⟨by decide, by decide⟩ rfl (kR15 hS20.1 tm) (Nat.le_of_ble_eq_true rfl) rfl rfl hn hw (k_X12_back hS20.1 tm) ?_
  rintro v32 cn' K' N' I28 R29 L30 ⟨rfl, rfl, rfl, rfl, rfl, g31, h33, p34, -⟩
  have hS35 := hS20.tr g31 (by decide +kernel) (by decide +kernel)
  have c36 : I28 x 17 = v21 := (g31.cell tx (by decide +kernel)).trans c22
  obtain ⟨v37, c38⟩ : ∃ v, I28 m 2 = v := ⟨_, rfl⟩
  rw [c38] at p34
  refine tr_pop dL_law_1285 rfl ?_
  refine tr_goto 1392 dL_law_1286 (by decide) ?_
  exact hk _ _ _ ⟨hS35, (by (try rw [((hS35.cell tx (by decide +kernel)).trans c2)]); (try rw [((hS35.cell tm (by decide +kernel)).trans c5)]); (try omega)), (by (try rw [c36]); (try omega)), (by (try rw [c38]); (try omega)), trivial⟩
def wi_road37 : List Nat := [81, 960, 961, 962]
def wr_road37 : List Nat := []
set_option maxHeartbeats 4000000 in
theorem s_road37 {X : cz_X} (hE : cz_env X) {T : Nat → Nat} {cn : Nat} {K N : Nat → Nat} {I0 : cz_I} {R0 : cz_R} {L0 : cz_L} {d : Int} (hW0 : Wf T cn K N I0 R0 d) {x : Nat} (tx : T x = 1) {m : Nat} (tm : T m = 15) {o : Nat} (tox : T o = 94) {i0 : Int32} {Ln : Nat} {xs : Nat → Int32} (hs : cz_scr X Ln xs) (hi0 : 0 ≤ i0.toInt ∧ i0.toInt + 6 ≤ (Ln : Int) ∧ (Ln : Int) ≤ 3072) {n w : Nat} (hn : n ≤ (cz_rm mL_law).cells) (hw : w ≤ (cz_rm mL_law).slots) (pre0 : (I0 x 1).toInt = (I0 m 6).toInt) {ls : Nat → Option Value} (hl0 : ls 0 = some (.float 1000000)) (hl1 : ls 1 = some (.ref x)) (hl2 : ls 2 = some (.ref m)) (hl3 : ls 3 = some (.ref o)) (hl4 : ls 4 = some (.int i0)) (hk : ∀ (I' : cz_I) (R' : cz_R) (L' : cz_L), St T cn K N d wi_road37 wr_road37 I0 R0 I' R' ∧ ((I' x 1).toInt = (I' m 6).toInt) ∧ ((I' x 17).toInt ≠ 4) ∧ ((I' m 2).toInt = -1) ∧ True → Tr X mL_law 1392 ls [] cn K N I' R' L' n w) : Tr X mL_law 1289 ls [] cn K N I0 R0 L0 n w := by
  have hS0 : St T cn K N d wi_road37 wr_road37 I0 R0 I0 R0 := St.rf0 hW0
  obtain ⟨v1, c2⟩ : ∃ v, I0 x 1 = v := ⟨_, rfl⟩
  have b3 := iv1_1 hW0 tx c2
  obtain ⟨v4, c5⟩ : ∃ v, I0 m 6 = v := ⟨_, rfl⟩
  have b6 := iv15_6 hW0 tm c5
  have p7 := pre0
  rw [c2] at p7
  rw [c5] at p7
  refine tr_aload_n dL_law_1289 hl1 ?_
  refine tr_aload_nS dL_law_1290 hl0 ?_
  refine tr_iload dL_law_1291 hl4 ?_
  refine q_iconst dL_law_1293 (by decide) ?_
  intro v8 h9
  refine q_iaddE dL_law_1294 (by intros; omega) ?_
  intro v10 h11
  refine q_sld hs dL_law_1295 (by omega) (by omega) ?_
  intro v12
  refine tr_aload_nS dL_law_1296 hl0 ?_
  refine tr_iload dL_law_1297 hl4 ?_
  refine q_iconst dL_law_1299 (by decide) ?_
  intro v13 h14
  refine q_iaddE dL_law_1300 (by intros; omega) ?_
  intro v15 h16
  refine q_sld hs dL_law_1301 (by omega) (by omega) ?_
  intro v17
  refine q_callVi hE (M' := mX10_event) (as := [_, _]) dL_law_1302 lk13_177 inX10_event seX10_event myX10_event (by decide) ⟨by decide, by decide⟩ rfl (kR1 hS0.1 tx) (Nat.le_of_ble_eq_true rfl) rfl rfl hn hw (k_X10_event hS0.1 tx) ?_
  rintro v22 cn' K' N' I18 R19 L20 ⟨rfl, rfl, rfl, rfl, rfl, g21, p23, -⟩
  have hS24 := hS0.tr g21 (by decide +kernel) (by decide +kernel)
  obtain ⟨v25, c26⟩ : ∃ v, I18 x 17 = v := ⟨_, rfl⟩
  rw [c26] at p23
  refine tr_pop dL_law_1305 rfl ?_
  refine tr_aload_n dL_law_1306 hl2 ?_
  refine tr_aload_nS dL_law_1307 hl0 ?_
  refine tr_iload dL_law_1308 hl4 ?_
  refine q_iconst dL_law_1310 (by decide) ?_
  intro v27 h28
  refine q_iaddE dL_law_1311 (by intros; omega) ?_
  intro v29 h30
  refine q_sld hs dL_law_1312 (by omega) (by omega) ?_
  intro v31
  refine tr_aload_nS dL_law_1313 hl0 ?_
  refine tr_iload dL_law_1314 hl4 ?_
  refine q_iconst dL_law_1316 (by decide) ?_
  intro v32 h33
  refine q_iaddE dL_law_1317 (by intros; omega) ?_
  intro v34 h35
  refine q_sld hs dL_law_1318 (by omega) (by omega) ?_
  intro v36
  refine q_callVi hE (M' := mX12_event) (as := [_, _]) dL_law_1319 lk13_180 inX12_event seX12_event myX12_event (by decide) ⟨by decide, by decide⟩ rfl (kR15 hS24.1 tm) (Nat.le_of_ble_eq_true rfl) rfl rfl hn hw (k_X12_event hS24.1 tm) ?_
  rintro v41 cn' K' N' I37 R38 L39 ⟨rfl, rfl, rfl, rfl, rfl, g40, p42, -⟩
  have hS43 := hS24.tr g40 (by decide +kernel) (by decide +kernel)
  have c44 : I37 x 17 = v25 := (g40.cell tx (by decide +kernel)).trans c26
  obtain ⟨v45, c46⟩ : ∃ v, I37 m 2 = v := ⟨_, rfl⟩
  rw [c46] at p42
  refine tr_pop dL_law_1322 rfl ?_
  refine tr_goto 1392 dL_law_1323 (by decide) ?_
  exact hk _ _ _ ⟨hS43, (by (try rw [((hS43.cell tx (by decide +kernel)).trans c2)]); (try rw [((hS43.cell tm (by decide +kernel)).trans c5)]); (try omega)), (by (try rw [c44]); (try omega)), (by (try rw [c46]); (try omega)), trivial⟩
def wi_road39 : List Nat := [960]
def wr_road39 : List Nat := []
set_option maxHeartbeats 4000000 in
theorem s_road39 {X : cz_X} (hE : cz_env X) {T : Nat → Nat} {cn : Nat} {K N : Nat → Nat} {I0 : cz_I} {R0 : cz_R} {L0 : cz_L} {d : Int} (hW0 : Wf T cn K N I0 R0 d) {x : Nat} (tx : T x = 1) {m : Nat} (tm : T m = 15) {o : Nat} (tox : T o = 94) {i0 : Int32} {Ln : Nat} {xs : Nat → Int32} (hs : cz_scr X Ln xs) (hi0 : 0 ≤ i0.toInt ∧ i0.toInt + 6 ≤ (Ln : Int) ∧ (Ln : Int) ≤ 3072) {n w : Nat} (hn : n ≤ (cz_rm mL_law).cells) (hw : w ≤ (cz_rm mL_law).slots) (pre0 : (I0 x 1).toInt = (I0 m 6).toInt) {ls : Nat → Option Value} (hl0 : ls 0 = some (.float 1000000)) (hl1 : ls 1 = some (.ref x)) (hl2 : ls 2 = some (.ref m)) (hl3 : ls 3 = some (.ref o)) (hl4 : ls 4 = some (.int i0)) (hk : ∀ (I' : cz_I) (R' : cz_R) (L' : cz_L), St T cn K N d wi_road39 wr_road39 I0 R0 I' R' ∧ ((I' x 1).toInt = (I' m 6).toInt) ∧ True → Tr X mL_law 1392 ls [] cn K N I' R' L' n w) : Tr X mL_law 1354 ls [] cn K N I0 R0 L0 n w := by
  have hS0 : St T cn K N d wi_road39 wr_road39 I0 R0 I0 R0 := St.rf0 hW0
  obtain ⟨v1, c2⟩ : ∃ v, I0 x 1 = v := ⟨_, rfl⟩
  have b3 := iv1_1 hW0 tx c2
  obtain ⟨v4, c5⟩ : ∃ v, I0 m 6 = v := ⟨_, rfl⟩
  have b6 := iv15_6 hW0 tm c5
  have p7 := pre0
  rw [c2] at p7
  rw [c5] at p7
  refine tr_aload_n dL_law_1354 hl1 ?_
  refine tr_aload_nS dL_law_1355 hl0 ?_
  refine tr_iload dL_law_1356 hl4 ?_
  refine q_iconst dL_law_1358 (by decide) ?_
  intro v8 h9
  refine q_iaddE dL_law_1359 (by intros; omega) ?_
  intro v10 h11
  refine q_sld hs dL_law_1360 (by omega) (by omega) ?_
  intro v12
  refine q_callVi hE (M' := mX10_size) (as := [_]) dL_law_1361 lk13_187 inX10_size seX10_size myX10_size (by decide) ⟨by decide, by decide⟩ rfl (kR1 hS0.1 tx) (Nat.le_of_ble_eq_true rfl) rfl rfl hn hw (k_X10_size hS0.1 tx) ?_
  rintro v17 cn' K' N' I13 R14 L15 ⟨rfl, rfl, rfl, rfl, rfl, rfl, -⟩
  refine tr_pop dL_law_1364 rfl ?_
  refine tr_aload_n dL_law_1365 hl2 ?_
  refine tr_aload_nS dL_law_1366 hl0 ?_
  refine tr_iload dL_law_1367 hl4 ?_
  refine q_iconst dL_law_1369 (by decide) ?_
  intro v18 h19
  refine q_iaddE dL_law_1370 (by intros; omega) ?_
  intro v20 h21
  refine q_sld hs dL_law_1371 (by omega) (by omega) ?_
  intro v22
  refine q_callVi hE (M' := mX12_size) (as := [_]) dL_law_1372 lk13_190 inX12_size seX12_size myX12_size (by decide) ⟨by decide, by decide⟩ rfl (kR15 hS0.1 tm) (Nat.le_of_ble_eq_true rfl) rfl rfl hn hw (k_X12_size hS0.1 tm) ?_
  rintro v27 cn' K' N' I23 R24 L25 ⟨rfl, rfl, rfl, rfl, rfl, g26, -⟩
  have hS28 := hS0.tr g26 (by decide +kernel) (by decide +kernel)
  refine tr_pop dL_law_1375 rfl ?_
  refine tr_goto 1392 dL_law_1376 (by decide) ?_
  exact hk _ _ _ ⟨hS28, (by (try rw [((hS28.cell tx (by decide +kernel)).trans c2)]); (try rw [((hS28.cell tm (by decide +kernel)).trans c5)]); (try omega)), trivial⟩
def wi_road40 : List Nat := [960]
def wr_road40 : List Nat := []
set_option maxHeartbeats 4000000 in
theorem s_road40 {X : cz_X} (hE : cz_env X) {T : Nat → Nat} {cn : Nat} {K N : Nat → Nat} {I0 : cz_I} {R0 : cz_R} {L0 : cz_L} {d : Int} (hW0 : Wf T cn K N I0 R0 d) {x : Nat} (tx : T x = 1) {m : Nat} (tm : T m = 15) {o : Nat} (tox : T o = 94) {i0 : Int32} {Ln : Nat} {xs : Nat → Int32} (hs : cz_scr X Ln xs) (hi0 : 0 ≤ i0.toInt ∧ i0.toInt + 6 ≤ (Ln : Int) ∧ (Ln : Int) ≤ 3072) {n w : Nat} (hn : n ≤ (cz_rm mL_law).cells) (hw : w ≤ (cz_rm mL_law).slots) (pre0 : (I0 x 1).toInt = (I0 m 6).toInt) {ls : Nat → Option Value} (hl0 : ls 0 = some (.float 1000000)) (hl1 : ls 1 = some (.ref x)) (hl2 : ls 2 = some (.ref m)) (hl3 : ls 3 = some (.ref o)) (hl4 : ls 4 = some (.int i0)) (hk : ∀ (I' : cz_I) (R' : cz_R) (L' : cz_L), St T cn K N d wi_road40 wr_road40 I0 R0 I' R' ∧ ((I' x 1).toInt = (I' m 6).toInt) ∧ True → Tr X mL_law 1392 ls [] cn K N I' R' L' n w) : Tr X mL_law 1379 ls [] cn K N I0 R0 L0 n w := by
  have hS0 : St T cn K N d wi_road40 wr_road40 I0 R0 I0 R0 := St.rf0 hW0
  obtain ⟨v1, c2⟩ : ∃ v, I0 x 1 = v := ⟨_, rfl⟩
  have b3 := iv1_1 hW0 tx c2
  obtain ⟨v4, c5⟩ : ∃ v, I0 m 6 = v := ⟨_, rfl⟩
  have b6 := iv15_6 hW0 tm c5
  have p7 := pre0
  rw [c2] at p7
  rw [c5] at p7
  refine tr_aload_n dL_law_1379 hl1 ?_
  refine q_callVi hE (M' := mX10_trouble) (as := []) dL_law_1380 lk13_191 inX10_trouble seX10_trouble myX10_trouble (by decide) ⟨by decide, by decide⟩ rfl (kR1 hS0.1 tx) (Nat.le_of_ble_eq_true rfl) rfl rfl hn hw (k_X10_trouble hS0.1 tx) ?_
  rintro v12 cn' K' N' I8 R9 L10 ⟨rfl, rfl, rfl, rfl, rfl, rfl, -⟩
  refine tr_pop dL_law_1383 rfl ?_
  refine tr_aload_n dL_law_1384 hl2 ?_
  refine q_callVi hE (M' := mX12_trouble) (as := []) dL_law_1385 lk13_194 inX12_trouble seX12_trouble myX12_trouble (by decide) ⟨by decide, by decide⟩ rfl (kR15 hS0.1 tm) (Nat.le_of_ble_eq_true rfl) rfl rfl hn hw (k_X12_trouble hS0.1 tm) ?_
  rintro v17 cn' K' N' I13 R14 L15 ⟨rfl, rfl, rfl, rfl, rfl, g16, -⟩
  have hS18 := hS0.tr g16 (by decide +kernel) (by decide +kernel)
  refine tr_pop dL_law_1388 rfl ?_
  refine tr_goto 1392 dL_law_1389 (by decide) ?_
  exact hk _ _ _ ⟨hS18, (by (try rw [((hS18.cell tx (by decide +kernel)).trans c2)]); (try rw [((hS18.cell tm (by decide +kernel)).trans c5)]); (try omega)), trivial⟩
