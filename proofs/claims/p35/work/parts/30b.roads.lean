section CzLaw2
variable {X : cz_X} {M : cz_M} {pc : Nat} {ls : Nat → Option Value} {st : List Value} {cn : Nat} {K N : Nat → Nat} {I : cz_I} {R : cz_R} {L : cz_L} {n w : Nat}
theorem q_sld {Ln : Nat} {xs : Nat → Int32} {i : Int32} (hs : cz_scr X Ln xs) (hd : decode (cz_cc M) pc = .ok (.iaload, 1)) (h0 : 0 ≤ i.toInt) (h1 : i.toInt < (Ln : Int)) (k : ∀ v : Int32, Tr X M (pc + 1) ls (.int v :: st) cn K N I R L n w) : Tr X M pc ls (.int i :: .float 1000000 :: st) cn K N I R L n w := tr_sld hs hd (ti_in rfl h0 h1) (k _)
theorem q_sldE {Ln : Nat} {xs : Nat → Int32} {i v : Int32} (hs : cz_scr X Ln xs) (hd : decode (cz_cc M) pc = .ok (.iaload, 1)) (h0 : 0 ≤ i.toInt) (h1 : i.toInt < (Ln : Int)) (hv : xs i.toNatClampNeg = v) (k : Tr X M (pc + 1) ls (.int v :: st) cn K N I R L n w) : Tr X M pc ls (.int i :: .float 1000000 :: st) cn K N I R L n w := tr_sld hs hd (ti_in rfl h0 h1) (by rw [hv]; exact k)
theorem q_slen {Ln : Nat} {xs : Nat → Int32} (hs : cz_scr X Ln xs) (hL : Ln ≤ 3072) (hd : decode (cz_cc M) pc = .ok (.arraylength, 1)) (k : ∀ v : Int32, v.toInt = (Ln : Int) → Tr X M (pc + 1) ls (.int v :: st) cn K N I R L n w) : Tr X M pc ls (.float 1000000 :: st) cn K N I R L n w := tr_slen hs hd (k _ (by
  exact Int32.toInt_ofNat_of_lt (by omega)))
end CzLaw2
def wi_road2 : List Nat := [960]
def wr_road2 : List Nat := []
set_option maxHeartbeats 4000000 in
theorem s_road2 {X : cz_X} (hE : cz_env X) {T : Nat → Nat} {cn : Nat} {K N : Nat → Nat} {I0 : cz_I} {R0 : cz_R} {L0 : cz_L} {d : Int} (hW0 : Wf T cn K N I0 R0 d) {x : Nat} (tx : T x = 1) {m : Nat} (tm : T m = 15) {o : Nat} (tox : T o = 94) {i0 : Int32} {Ln : Nat} {xs : Nat → Int32} (hs : cz_scr X Ln xs) (hi0 : 0 ≤ i0.toInt ∧ i0.toInt + 6 ≤ (Ln : Int) ∧ (Ln : Int) ≤ 3072) {n w : Nat} (hn : n ≤ (cz_rm mL_law).cells) (hw : w ≤ (cz_rm mL_law).slots) (pre0 : (I0 x 1).toInt = (I0 m 6).toInt) {ls : Nat → Option Value} (hl0 : ls 0 = some (.float 1000000)) (hl1 : ls 1 = some (.ref x)) (hl2 : ls 2 = some (.ref m)) (hl3 : ls 3 = some (.ref o)) (hl4 : ls 4 = some (.int i0)) (hk : ∀ (I' : cz_I) (R' : cz_R) (L' : cz_L), St T cn K N d wi_road2 wr_road2 I0 R0 I' R' ∧ ((I' x 1).toInt = (I' m 6).toInt) ∧ True → Tr X mL_law 1392 ls [] cn K N I' R' L' n w) : Tr X mL_law 318 ls [] cn K N I0 R0 L0 n w := by
  have hS0 : St T cn K N d wi_road2 wr_road2 I0 R0 I0 R0 := St.rf0 hW0
  obtain ⟨v1, c2⟩ : ∃ v, I0 x 1 = v := ⟨_, rfl⟩
  have b3 := iv1_1 hW0 tx c2
  obtain ⟨v4, c5⟩ : ∃ v, I0 m 6 = v := ⟨_, rfl⟩
  have b6 := iv15_6 hW0 tm c5
  have p7 := pre0
  rw [c2] at p7
  rw [c5] at p7
  refine tr_aload_n dL_law_318 hl1 ?_
  obtain ⟨v8, c9⟩ : ∃ v, I0 x 15 = v := ⟨_, rfl⟩
  refine q_callVi hE (M' := mX10_fault) (as := []) dL_law_319 lk13_28 inX10_fault seX10_fault myX10_fault (by decide) ⟨by decide, by decide⟩ rfl (kR1 hS0.1 tx) (Nat.le_of_ble_eq_true rfl) rfl rfl hn hw (k_X10_fault hS0.1 tx) ?_
  rintro v14 cn' K' N' I10 R11 L12 ⟨rfl, rfl, rfl, rfl, rfl, rfl, p15, -⟩
  rw [c9] at p15
  refine tr_pop dL_law_322 rfl ?_
  refine tr_aload_n dL_law_323 hl2 ?_
  obtain ⟨v16, c17⟩ : ∃ v, I0 m 13 = v := ⟨_, rfl⟩
  refine q_callVi hE (M' := mX12_fault) (as := []) dL_law_324 lk13_32 inX12_fault seX12_fault myX12_fault (by decide) ⟨by decide, by decide⟩ rfl (kR15 hS0.1 tm) (Nat.le_of_ble_eq_true rfl) rfl rfl hn hw (k_X12_fault hS0.1 tm) ?_
  rintro v22 cn' K' N' I18 R19 L20 ⟨rfl, rfl, rfl, rfl, rfl, g21, p23, -⟩
  have hS24 := hS0.tr g21 (by decide +kernel) (by decide +kernel)
  rw [c17] at p23
  refine tr_pop dL_law_327 rfl ?_
  refine tr_goto 1392 dL_law_328 (by decide) ?_
  exact hk _ _ _ ⟨hS24, (by (try rw [((hS24.cell tx (by decide +kernel)).trans c2)]); (try rw [((hS24.cell tm (by decide +kernel)).trans c5)]); (try omega)), trivial⟩
def wi_road3 : List Nat := [960]
def wr_road3 : List Nat := []
set_option maxHeartbeats 4000000 in
theorem s_road3 {X : cz_X} (hE : cz_env X) {T : Nat → Nat} {cn : Nat} {K N : Nat → Nat} {I0 : cz_I} {R0 : cz_R} {L0 : cz_L} {d : Int} (hW0 : Wf T cn K N I0 R0 d) {x : Nat} (tx : T x = 1) {m : Nat} (tm : T m = 15) {o : Nat} (tox : T o = 94) {i0 : Int32} {Ln : Nat} {xs : Nat → Int32} (hs : cz_scr X Ln xs) (hi0 : 0 ≤ i0.toInt ∧ i0.toInt + 6 ≤ (Ln : Int) ∧ (Ln : Int) ≤ 3072) {n w : Nat} (hn : n ≤ (cz_rm mL_law).cells) (hw : w ≤ (cz_rm mL_law).slots) (pre0 : (I0 x 1).toInt = (I0 m 6).toInt) {ls : Nat → Option Value} (hl0 : ls 0 = some (.float 1000000)) (hl1 : ls 1 = some (.ref x)) (hl2 : ls 2 = some (.ref m)) (hl3 : ls 3 = some (.ref o)) (hl4 : ls 4 = some (.int i0)) (hk : ∀ (I' : cz_I) (R' : cz_R) (L' : cz_L), St T cn K N d wi_road3 wr_road3 I0 R0 I' R' ∧ ((I' x 1).toInt = (I' m 6).toInt) ∧ True → Tr X mL_law 1392 ls [] cn K N I' R' L' n w) : Tr X mL_law 331 ls [] cn K N I0 R0 L0 n w := by
  have hS0 : St T cn K N d wi_road3 wr_road3 I0 R0 I0 R0 := St.rf0 hW0
  obtain ⟨v1, c2⟩ : ∃ v, I0 x 1 = v := ⟨_, rfl⟩
  have b3 := iv1_1 hW0 tx c2
  obtain ⟨v4, c5⟩ : ∃ v, I0 m 6 = v := ⟨_, rfl⟩
  have b6 := iv15_6 hW0 tm c5
  have p7 := pre0
  rw [c2] at p7
  rw [c5] at p7
  refine tr_aload_n dL_law_331 hl1 ?_
  refine q_callVi hE (M' := mX10_where) (as := []) dL_law_332 lk13_33 inX10_where seX10_where myX10_where (by decide) ⟨by decide, by decide⟩ rfl (kR1 hS0.1 tx) (Nat.le_of_ble_eq_true rfl) rfl rfl hn hw (k_X10_where hS0.1 tx) ?_
  rintro v12 cn' K' N' I8 R9 L10 ⟨rfl, rfl, rfl, rfl, rfl, rfl, -⟩
  refine tr_pop dL_law_335 rfl ?_
  refine tr_aload_n dL_law_336 hl2 ?_
  refine q_callVi hE (M' := mX12_where) (as := []) dL_law_337 lk13_36 inX12_where seX12_where myX12_where (by decide) ⟨by decide, by decide⟩ rfl (kR15 hS0.1 tm) (Nat.le_of_ble_eq_true rfl) rfl rfl hn hw (k_X12_where hS0.1 tm) ?_
  rintro v17 cn' K' N' I13 R14 L15 ⟨rfl, rfl, rfl, rfl, rfl, g16, -⟩
  have hS18 := hS0.tr g16 (by decide +kernel) (by decide +kernel)
  refine tr_pop dL_law_340 rfl ?_
  refine tr_goto 1392 dL_law_341 (by decide) ?_
  exact hk _ _ _ ⟨hS18, (by (try rw [((hS18.cell tx (by decide +kernel)).trans c2)]); (try rw [((hS18.cell tm (by decide +kernel)).trans c5)]); (try omega)), trivial⟩
def wi_road4 : List Nat := [73, 81, 768, 769, 778, 960, 961, 962, 2303, 2367, 2431, 2495, 2559, 2623, 2687, 2751, 2815, 5247, 5311, 5375, 5439, 5503, 5567]
def wr_road4 : List Nat := []
set_option maxHeartbeats 4000000 in
theorem s_road4 {X : cz_X} (hE : cz_env X) {T : Nat → Nat} {cn : Nat} {K N : Nat → Nat} {I0 : cz_I} {R0 : cz_R} {L0 : cz_L} {d : Int} (hW0 : Wf T cn K N I0 R0 d) {x : Nat} (tx : T x = 1) {m : Nat} (tm : T m = 15) {o : Nat} (tox : T o = 94) {i0 : Int32} {Ln : Nat} {xs : Nat → Int32} (hs : cz_scr X Ln xs) (hi0 : 0 ≤ i0.toInt ∧ i0.toInt + 6 ≤ (Ln : Int) ∧ (Ln : Int) ≤ 3072) {n w : Nat} (hn : n ≤ (cz_rm mL_law).cells) (hw : w ≤ (cz_rm mL_law).slots) (pre0 : (I0 x 1).toInt = (I0 m 6).toInt) {ls : Nat → Option Value} (hl0 : ls 0 = some (.float 1000000)) (hl1 : ls 1 = some (.ref x)) (hl2 : ls 2 = some (.ref m)) (hl3 : ls 3 = some (.ref o)) (hl4 : ls 4 = some (.int i0)) (hk : ∀ (I' : cz_I) (R' : cz_R) (L' : cz_L), St T cn K N d wi_road4 wr_road4 I0 R0 I' R' ∧ ((I' x 1).toInt = (I' m 6).toInt) ∧ True → Tr X mL_law 1392 ls [] cn K N I' R' L' n w) : Tr X mL_law 344 ls [] cn K N I0 R0 L0 n w := by
  have hS0 : St T cn K N d wi_road4 wr_road4 I0 R0 I0 R0 := St.rf0 hW0
  obtain ⟨v1, c2⟩ : ∃ v, I0 x 1 = v := ⟨_, rfl⟩
  have b3 := iv1_1 hW0 tx c2
  obtain ⟨v4, c5⟩ : ∃ v, I0 m 6 = v := ⟨_, rfl⟩
  have b6 := iv15_6 hW0 tm c5
  have p7 := pre0
  rw [c2] at p7
  rw [c5] at p7
  refine tr_aload_n dL_law_344 hl1 ?_
  refine tr_aload_nS dL_law_345 hl0 ?_
  refine tr_iload dL_law_346 hl4 ?_
  refine q_iconst dL_law_348 (by decide) ?_
  intro v8 h9
  refine q_iaddE dL_law_349 (by intro j1 j2 j3 j4; omega) ?_
  intro v10 h11
  refine q_sld hs dL_law_350 (by omega) (by omega) ?_
  intro v12
  refine q_callVi hE (M' := mX10_sky) (as := [_]) dL_law_351 lk13_37 inX10_sky seX10_sky myX10_sky (by decide) ⟨by decide, by decide⟩ rfl (kR1 hS0.1 tx) (Nat.le_of_ble_eq_true rfl) rfl rfl hn hw (k_X10_sky hS0.1 tx) ?_
  rintro v17 cn' K' N' I13 R14 L15 ⟨rfl, rfl, rfl, rfl, rfl, g16, -⟩
  have hS18 := hS0.tr g16 (by decide +kernel) (by decide +kernel)
  refine tr_pop dL_law_354 rfl ?_
  refine tr_aload_n dL_law_355 hl2 ?_
  refine tr_aload_nS dL_law_356 hl0 ?_
  refine tr_iload dL_law_357 hl4 ?_
  refine q_iconst dL_law_359 (by decide) ?_
  intro v19 h20
  refine q_iaddE dL_law_360 (by intro j1 j2 j3 j4; omega) ?_
  intro v21 h22
  refine q_sld hs dL_law_361 (by omega) (by omega) ?_
  intro v23
  refine q_callVi hE (M' := mX12_sky) (as := [_]) dL_law_362 lk13_40 inX12_sky seX12_sky myX12_sky (by decide) ⟨by decide, by decide⟩ rfl (kR15 hS18.1 tm) (Nat.le_of_ble_eq_true rfl) rfl rfl hn hw (k_X12_sky hS18.1 tm) ?_
  rintro v28 cn' K' N' I24 R25 L26 ⟨rfl, rfl, rfl, rfl, rfl, g27, -⟩
  have hS29 := hS18.tr g27 (by decide +kernel) (by decide +kernel)
  refine tr_pop dL_law_365 rfl ?_
  refine tr_goto 1392 dL_law_366 (by decide) ?_
  exact hk _ _ _ ⟨hS29, (by (try rw [((hS29.cell tx (by decide +kernel)).trans c2)]); (try rw [((hS29.cell tm (by decide +kernel)).trans c5)]); (try omega)), trivial⟩
def wi_road5 : List Nat := [73, 81, 768, 769, 778, 960, 961, 962, 2303, 2367, 2431, 2495, 2559, 2623, 2687, 2751, 2815, 5247, 5311, 5375, 5439, 5503, 5567]
def wr_road5 : List Nat := []
set_option maxHeartbeats 4000000 in
theorem s_road5 {X : cz_X} (hE : cz_env X) {T : Nat → Nat} {cn : Nat} {K N : Nat → Nat} {I0 : cz_I} {R0 : cz_R} {L0 : cz_L} {d : Int} (hW0 : Wf T cn K N I0 R0 d) {x : Nat} (tx : T x = 1) {m : Nat} (tm : T m = 15) {o : Nat} (tox : T o = 94) {i0 : Int32} {Ln : Nat} {xs : Nat → Int32} (hs : cz_scr X Ln xs) (hi0 : 0 ≤ i0.toInt ∧ i0.toInt + 6 ≤ (Ln : Int) ∧ (Ln : Int) ≤ 3072) {n w : Nat} (hn : n ≤ (cz_rm mL_law).cells) (hw : w ≤ (cz_rm mL_law).slots) (pre0 : (I0 x 1).toInt = (I0 m 6).toInt) {ls : Nat → Option Value} (hl0 : ls 0 = some (.float 1000000)) (hl1 : ls 1 = some (.ref x)) (hl2 : ls 2 = some (.ref m)) (hl3 : ls 3 = some (.ref o)) (hl4 : ls 4 = some (.int i0)) (hk : ∀ (I' : cz_I) (R' : cz_R) (L' : cz_L), St T cn K N d wi_road5 wr_road5 I0 R0 I' R' ∧ ((I' x 1).toInt = (I' m 6).toInt) ∧ True → Tr X mL_law 1392 ls [] cn K N I' R' L' n w) : Tr X mL_law 369 ls [] cn K N I0 R0 L0 n w := by
  have hS0 : St T cn K N d wi_road5 wr_road5 I0 R0 I0 R0 := St.rf0 hW0
  obtain ⟨v1, c2⟩ : ∃ v, I0 x 1 = v := ⟨_, rfl⟩
  have b3 := iv1_1 hW0 tx c2
  obtain ⟨v4, c5⟩ : ∃ v, I0 m 6 = v := ⟨_, rfl⟩
  have b6 := iv15_6 hW0 tm c5
  have p7 := pre0
  rw [c2] at p7
  rw [c5] at p7
  refine tr_aload_n dL_law_369 hl1 ?_
  refine tr_aload_nS dL_law_370 hl0 ?_
  refine tr_iload dL_law_371 hl4 ?_
  refine q_iconst dL_law_373 (by decide) ?_
  intro v8 h9
  refine q_iaddE dL_law_374 (by intro j1 j2 j3 j4; omega) ?_
  intro v10 h11
  refine q_sld hs dL_law_375 (by omega) (by omega) ?_
  intro v12
  refine tr_aload_nS dL_law_376 hl0 ?_
  refine tr_iload dL_law_377 hl4 ?_
  refine q_iconst dL_law_379 (by decide) ?_
  intro v13 h14
  refine q_iaddE dL_law_380 (by intro j1 j2 j3 j4; omega) ?_
  intro v15 h16
  refine q_sld hs dL_law_381 (by omega) (by omega) ?_
  intro v17
  refine tr_aload_nS dL_law_382 hl0 ?_
  refine tr_iload dL_law_383 hl4 ?_
  refine q_iconst dL_law_385 (by decide) ?_
  intro v18 h19
  refine q_iaddE dL_law_386 (by intro j1 j2 j3 j4; omega) ?_
  intro v20 h21
  refine q_sld hs dL_law_387 (by omega) (by omega) ?_
  intro v22
  refine q_if_eq 395 dL_law_388 (by decide) (fun h23 => ?_) (fun h23 => ?_)
  · skip
    refine q_iconst dL_law_395 (by decide) ?_
    intro v24 h25
    refine q_callVi hE (M' := mX10_light) (as := [_, _, _]) dL_law_396 lk13_41 inX10_light seX10_light myX10_light (by decide) ⟨by decide, by decide⟩ rfl (kR1 hS0.1 tx) (Nat.le_of_ble_eq_true rfl) rfl rfl hn hw (k_X10_light hS0.1 tx) ?_
    rintro v30 cn' K' N' I26 R27 L28 ⟨rfl, rfl, rfl, rfl, rfl, g29, -⟩
    have hS31 := hS0.tr g29 (by decide +kernel) (by decide +kernel)
    refine tr_pop dL_law_399 rfl ?_
    refine tr_aload_n dL_law_400 hl2 ?_
    refine tr_aload_nS dL_law_401 hl0 ?_
    refine tr_iload dL_law_402 hl4 ?_
    refine q_iconst dL_law_404 (by decide) ?_
    intro v32 h33
    refine q_iaddE dL_law_405 (by intro j1 j2 j3 j4; omega) ?_
    intro v34 h35
    refine q_sld hs dL_law_406 (by omega) (by omega) ?_
    intro v36
    refine tr_aload_nS dL_law_407 hl0 ?_
    refine tr_iload dL_law_408 hl4 ?_
    refine q_iconst dL_law_410 (by decide) ?_
    intro v37 h38
    refine q_iaddE dL_law_411 (by intro j1 j2 j3 j4; omega) ?_
    intro v39 h40
    refine q_sld hs dL_law_412 (by omega) (by omega) ?_
    intro v41
    refine tr_aload_nS dL_law_413 hl0 ?_
    refine tr_iload dL_law_414 hl4 ?_
    refine q_iconst dL_law_416 (by decide) ?_
    intro v42 h43
    refine q_iaddE dL_law_417 (by intro j1 j2 j3 j4; omega) ?_
    intro v44 h45
    refine q_sld hs dL_law_418 (by omega) (by omega) ?_
    intro v46
    refine q_if_eq 426 dL_law_419 (by decide) (fun h47 => ?_) (fun h47 => ?_)
    · skip
      refine q_iconst dL_law_426 (by decide) ?_
      intro v48 h49
      refine q_callVi hE (M' := mX12_light) (as := [_, _, _]) dL_law_427 lk13_45 inX12_light seX12_light myX12_light (by decide) ⟨by decide, by decide⟩ rfl (kR15 hS31.1 tm) (Nat.le_of_ble_eq_true rfl) rfl rfl hn hw (k_X12_light hS31.1 tm) ?_
      rintro v54 cn' K' N' I50 R51 L52 ⟨rfl, rfl, rfl, rfl, rfl, g53, -⟩
      have hS55 := hS31.tr g53 (by decide +kernel) (by decide +kernel)
      refine tr_pop dL_law_430 rfl ?_
      refine tr_goto 1392 dL_law_431 (by decide) ?_
      exact hk _ _ _ ⟨hS55, (by (try rw [((hS55.cell tx (by decide +kernel)).trans c2)]); (try rw [((hS55.cell tm (by decide +kernel)).trans c5)]); (try omega)), trivial⟩
    · skip
      refine q_iconst dL_law_422 (by decide) ?_
      intro v56 h57
      refine tr_goto 427 dL_law_423 (by decide) ?_
      refine q_callVi hE (M' := mX12_light) (as := [_, _, _]) dL_law_427 lk13_45 inX12_light seX12_light myX12_light (by decide) ⟨by decide, by decide⟩ rfl (kR15 hS31.1 tm) (Nat.le_of_ble_eq_true rfl) rfl rfl hn hw (k_X12_light hS31.1 tm) ?_
      rintro v62 cn' K' N' I58 R59 L60 ⟨rfl, rfl, rfl, rfl, rfl, g61, -⟩
      have hS63 := hS31.tr g61 (by decide +kernel) (by decide +kernel)
      refine tr_pop dL_law_430 rfl ?_
      refine tr_goto 1392 dL_law_431 (by decide) ?_
      exact hk _ _ _ ⟨hS63, (by (try rw [((hS63.cell tx (by decide +kernel)).trans c2)]); (try rw [((hS63.cell tm (by decide +kernel)).trans c5)]); (try omega)), trivial⟩
  · skip
    refine q_iconst dL_law_391 (by decide) ?_
    intro v64 h65
    refine tr_goto 396 dL_law_392 (by decide) ?_
    refine q_callVi hE (M' := mX10_light) (as := [_, _, _]) dL_law_396 lk13_41 inX10_light seX10_light myX10_light (by decide) ⟨by decide, by decide⟩ rfl (kR1 hS0.1 tx) (Nat.le_of_ble_eq_true rfl) rfl rfl hn hw (k_X10_light hS0.1 tx) ?_
    rintro v70 cn' K' N' I66 R67 L68 ⟨rfl, rfl, rfl, rfl, rfl, g69, -⟩
    have hS71 := hS0.tr g69 (by decide +kernel) (by decide +kernel)
    refine tr_pop dL_law_399 rfl ?_
    refine tr_aload_n dL_law_400 hl2 ?_
    refine tr_aload_nS dL_law_401 hl0 ?_
    refine tr_iload dL_law_402 hl4 ?_
    refine q_iconst dL_law_404 (by decide) ?_
    intro v72 h73
    refine q_iaddE dL_law_405 (by intro j1 j2 j3 j4; omega) ?_
    intro v74 h75
    refine q_sld hs dL_law_406 (by omega) (by omega) ?_
    intro v76
    refine tr_aload_nS dL_law_407 hl0 ?_
    refine tr_iload dL_law_408 hl4 ?_
    refine q_iconst dL_law_410 (by decide) ?_
    intro v77 h78
    refine q_iaddE dL_law_411 (by intro j1 j2 j3 j4; omega) ?_
    intro v79 h80
    refine q_sld hs dL_law_412 (by omega) (by omega) ?_
    intro v81
    refine tr_aload_nS dL_law_413 hl0 ?_
    refine tr_iload dL_law_414 hl4 ?_
    refine q_iconst dL_law_416 (by decide) ?_
    intro v82 h83
    refine q_iaddE dL_law_417 (by intro j1 j2 j3 j4; omega) ?_
    intro v84 h85
    refine q_sld hs dL_law_418 (by omega) (by omega) ?_
    intro v86
    refine q_if_eq 426 dL_law_419 (by decide) (fun h87 => ?_) (fun h87 => ?_)
    · skip
      refine q_iconst dL_law_426 (by decide) ?_
      intro v88 h89
      refine q_callVi hE (M' := mX12_light) (as := [_, _, _]) dL_law_427 lk13_45 inX12_light seX12_light myX12_light (by decide) ⟨by decide, by decide⟩ rfl (kR15 hS71.1 tm) (Nat.le_of_ble_eq_true rfl) rfl rfl hn hw (k_X12_light hS71.1 tm) ?_
      rintro v94 cn' K' N' I90 R91 L92 ⟨rfl, rfl, rfl, rfl, rfl, g93, -⟩
      have hS95 := hS71.tr g93 (by decide +kernel) (by decide +kernel)
      refine tr_pop dL_law_430 rfl ?_
      refine tr_goto 1392 dL_law_431 (by decide) ?_
      exact hk _ _ _ ⟨hS95, (by (try rw [((hS95.cell tx (by decide +kernel)).trans c2)]); (try rw [((hS95.cell tm (by decide +kernel)).trans c5)]); (try omega)), trivial⟩
    · skip
      refine q_iconst dL_law_422 (by decide) ?_
      intro v96 h97
      refine tr_goto 427 dL_law_423 (by decide) ?_
      refine q_callVi hE (M' := mX12_light) (as := [_, _, _]) dL_law_427 lk13_45 inX12_light seX12_light myX12_light (by decide) ⟨by decide, by decide⟩ rfl (kR15 hS71.1 tm) (Nat.le_of_ble_eq_true rfl) rfl rfl hn hw (k_X12_light hS71.1 tm) ?_
      rintro v102 cn' K' N' I98 R99 L100 ⟨rfl, rfl, rfl, rfl, rfl, g101, -⟩
      have hS103 := hS71.tr g101 (by decide +kernel) (by decide +kernel)
      refine tr_pop dL_law_430 rfl ?_
      refine tr_goto 1392 dL_law_431 (by decide) ?_
      exact hk _ _ _ ⟨hS103, (by (try rw [((hS103.cell tx (by decide +kernel)).trans c2)]); (try rw [((hS103.cell tm (by decide +kernel)).trans c5)]); (try omega)), trivial⟩
def wi_road6 : List Nat := [73, 81, 768, 769, 778, 960, 961, 962, 2303, 2367, 2431, 2495, 2559, 2623, 2687, 2751, 2815, 5247, 5311, 5375, 5439, 5503, 5567]
def wr_road6 : List Nat := []
set_option maxHeartbeats 4000000 in
theorem s_road6 {X : cz_X} (hE : cz_env X) {T : Nat → Nat} {cn : Nat} {K N : Nat → Nat} {I0 : cz_I} {R0 : cz_R} {L0 : cz_L} {d : Int} (hW0 : Wf T cn K N I0 R0 d) {x : Nat} (tx : T x = 1) {m : Nat} (tm : T m = 15) {o : Nat} (tox : T o = 94) {i0 : Int32} {Ln : Nat} {xs : Nat → Int32} (hs : cz_scr X Ln xs) (hi0 : 0 ≤ i0.toInt ∧ i0.toInt + 6 ≤ (Ln : Int) ∧ (Ln : Int) ≤ 3072) {n w : Nat} (hn : n ≤ (cz_rm mL_law).cells) (hw : w ≤ (cz_rm mL_law).slots) (pre0 : (I0 x 1).toInt = (I0 m 6).toInt) {ls : Nat → Option Value} (hl0 : ls 0 = some (.float 1000000)) (hl1 : ls 1 = some (.ref x)) (hl2 : ls 2 = some (.ref m)) (hl3 : ls 3 = some (.ref o)) (hl4 : ls 4 = some (.int i0)) (hk : ∀ (I' : cz_I) (R' : cz_R) (L' : cz_L), St T cn K N d wi_road6 wr_road6 I0 R0 I' R' ∧ ((I' x 1).toInt = (I' m 6).toInt) ∧ True → Tr X mL_law 1392 ls [] cn K N I' R' L' n w) : Tr X mL_law 434 ls [] cn K N I0 R0 L0 n w := by
  have hS0 : St T cn K N d wi_road6 wr_road6 I0 R0 I0 R0 := St.rf0 hW0
  obtain ⟨v1, c2⟩ : ∃ v, I0 x 1 = v := ⟨_, rfl⟩
  have b3 := iv1_1 hW0 tx c2
  obtain ⟨v4, c5⟩ : ∃ v, I0 m 6 = v := ⟨_, rfl⟩
  have b6 := iv15_6 hW0 tm c5
  have p7 := pre0
  rw [c2] at p7
  rw [c5] at p7
  refine tr_aload_n dL_law_434 hl1 ?_
  refine tr_aload_nS dL_law_435 hl0 ?_
  refine tr_iload dL_law_436 hl4 ?_
  refine q_iconst dL_law_438 (by decide) ?_
  intro v8 h9
  refine q_iaddE dL_law_439 (by intro j1 j2 j3 j4; omega) ?_
  intro v10 h11
  refine q_sld hs dL_law_440 (by omega) (by omega) ?_
  intro v12
  refine tr_aload_nS dL_law_441 hl0 ?_
  refine tr_iload dL_law_442 hl4 ?_
  refine q_iconst dL_law_444 (by decide) ?_
  intro v13 h14
  refine q_iaddE dL_law_445 (by intro j1 j2 j3 j4; omega) ?_
  intro v15 h16
  refine q_sld hs dL_law_446 (by omega) (by omega) ?_
  intro v17
  refine q_if_eq 454 dL_law_447 (by decide) (fun h18 => ?_) (fun h18 => ?_)
  · skip
    refine q_iconst dL_law_454 (by decide) ?_
    intro v19 h20
    refine q_callVi hE (M' := mX10_changes) (as := [_, _]) dL_law_455 lk13_46 inX10_changes seX10_changes myX10_changes (by decide) ⟨by decide, by decide⟩ rfl (kR1 hS0.1 tx) (Nat.le_of_ble_eq_true rfl) rfl rfl hn hw (k_X10_changes hS0.1 tx) ?_
    rintro v25 cn' K' N' I21 R22 L23 ⟨rfl, rfl, rfl, rfl, rfl, g24, -⟩
    have hS26 := hS0.tr g24 (by decide +kernel) (by decide +kernel)
    refine tr_pop dL_law_458 rfl ?_
    refine tr_aload_n dL_law_459 hl2 ?_
    refine tr_aload_nS dL_law_460 hl0 ?_
    refine tr_iload dL_law_461 hl4 ?_
    refine q_iconst dL_law_463 (by decide) ?_
    intro v27 h28
    refine q_iaddE dL_law_464 (by intro j1 j2 j3 j4; omega) ?_
    intro v29 h30
    refine q_sld hs dL_law_465 (by omega) (by omega) ?_
    intro v31
    refine tr_aload_nS dL_law_466 hl0 ?_
    refine tr_iload dL_law_467 hl4 ?_
    refine q_iconst dL_law_469 (by decide) ?_
    intro v32 h33
    refine q_iaddE dL_law_470 (by intro j1 j2 j3 j4; omega) ?_
    intro v34 h35
    refine q_sld hs dL_law_471 (by omega) (by omega) ?_
    intro v36
    refine q_if_eq 479 dL_law_472 (by decide) (fun h37 => ?_) (fun h37 => ?_)
    · skip
      refine q_iconst dL_law_479 (by decide) ?_
      intro v38 h39
      refine q_callVi hE (M' := mX12_changes) (as := [_, _]) dL_law_480 lk13_50 inX12_changes seX12_changes myX12_changes (by decide) ⟨by decide, by decide⟩ rfl (kR15 hS26.1 tm) (Nat.le_of_ble_eq_true rfl) rfl rfl hn hw (k_X12_changes hS26.1 tm) ?_
      rintro v44 cn' K' N' I40 R41 L42 ⟨rfl, rfl, rfl, rfl, rfl, g43, -⟩
      have hS45 := hS26.tr g43 (by decide +kernel) (by decide +kernel)
      refine tr_pop dL_law_483 rfl ?_
      refine tr_goto 1392 dL_law_484 (by decide) ?_
      exact hk _ _ _ ⟨hS45, (by (try rw [((hS45.cell tx (by decide +kernel)).trans c2)]); (try rw [((hS45.cell tm (by decide +kernel)).trans c5)]); (try omega)), trivial⟩
    · skip
      refine q_iconst dL_law_475 (by decide) ?_
      intro v46 h47
      refine tr_goto 480 dL_law_476 (by decide) ?_
      refine q_callVi hE (M' := mX12_changes) (as := [_, _]) dL_law_480 lk13_50 inX12_changes seX12_changes myX12_changes (by decide) ⟨by decide, by decide⟩ rfl (kR15 hS26.1 tm) (Nat.le_of_ble_eq_true rfl) rfl rfl hn hw (k_X12_changes hS26.1 tm) ?_
      rintro v52 cn' K' N' I48 R49 L50 ⟨rfl, rfl, rfl, rfl, rfl, g51, -⟩
      have hS53 := hS26.tr g51 (by decide +kernel) (by decide +kernel)
      refine tr_pop dL_law_483 rfl ?_
      refine tr_goto 1392 dL_law_484 (by decide) ?_
      exact hk _ _ _ ⟨hS53, (by (try rw [((hS53.cell tx (by decide +kernel)).trans c2)]); (try rw [((hS53.cell tm (by decide +kernel)).trans c5)]); (try omega)), trivial⟩
  · skip
    refine q_iconst dL_law_450 (by decide) ?_
    intro v54 h55
    refine tr_goto 455 dL_law_451 (by decide) ?_
    refine q_callVi hE (M' := mX10_changes) (as := [_, _]) dL_law_455 lk13_46 inX10_changes seX10_changes myX10_changes (by decide) ⟨by decide, by decide⟩ rfl (kR1 hS0.1 tx) (Nat.le_of_ble_eq_true rfl) rfl rfl hn hw (k_X10_changes hS0.1 tx) ?_
    rintro v60 cn' K' N' I56 R57 L58 ⟨rfl, rfl, rfl, rfl, rfl, g59, -⟩
    have hS61 := hS0.tr g59 (by decide +kernel) (by decide +kernel)
    refine tr_pop dL_law_458 rfl ?_
    refine tr_aload_n dL_law_459 hl2 ?_
    refine tr_aload_nS dL_law_460 hl0 ?_
    refine tr_iload dL_law_461 hl4 ?_
    refine q_iconst dL_law_463 (by decide) ?_
    intro v62 h63
    refine q_iaddE dL_law_464 (by intro j1 j2 j3 j4; omega) ?_
    intro v64 h65
    refine q_sld hs dL_law_465 (by omega) (by omega) ?_
    intro v66
    refine tr_aload_nS dL_law_466 hl0 ?_
    refine tr_iload dL_law_467 hl4 ?_
    refine q_iconst dL_law_469 (by decide) ?_
    intro v67 h68
    refine q_iaddE dL_law_470 (by intro j1 j2 j3 j4; omega) ?_
    intro v69 h70
    refine q_sld hs dL_law_471 (by omega) (by omega) ?_
    intro v71
    refine q_if_eq 479 dL_law_472 (by decide) (fun h72 => ?_) (fun h72 => ?_)
    · skip
      refine q_iconst dL_law_479 (by decide) ?_
      intro v73 h74
      refine q_callVi hE (M' := mX12_changes) (as := [_, _]) dL_law_480 lk13_50 inX12_changes seX12_changes myX12_changes (by decide) ⟨by decide, by decide⟩ rfl (kR15 hS61.1 tm) (Nat.le_of_ble_eq_true rfl) rfl rfl hn hw (k_X12_changes hS61.1 tm) ?_
      rintro v79 cn' K' N' I75 R76 L77 ⟨rfl, rfl, rfl, rfl, rfl, g78, -⟩
      have hS80 := hS61.tr g78 (by decide +kernel) (by decide +kernel)
      refine tr_pop dL_law_483 rfl ?_
      refine tr_goto 1392 dL_law_484 (by decide) ?_
      exact hk _ _ _ ⟨hS80, (by (try rw [((hS80.cell tx (by decide +kernel)).trans c2)]); (try rw [((hS80.cell tm (by decide +kernel)).trans c5)]); (try omega)), trivial⟩
    · skip
      refine q_iconst dL_law_475 (by decide) ?_
      intro v81 h82
      refine tr_goto 480 dL_law_476 (by decide) ?_
      refine q_callVi hE (M' := mX12_changes) (as := [_, _]) dL_law_480 lk13_50 inX12_changes seX12_changes myX12_changes (by decide) ⟨by decide, by decide⟩ rfl (kR15 hS61.1 tm) (Nat.le_of_ble_eq_true rfl) rfl rfl hn hw (k_X12_changes hS61.1 tm) ?_
      rintro v87 cn' K' N' I83 R84 L85 ⟨rfl, rfl, rfl, rfl, rfl, g86, -⟩
      have hS88 := hS61.tr g86 (by decide +kernel) (by decide +kernel)
      refine tr_pop dL_law_483 rfl ?_
      refine tr_goto 1392 dL_law_484 (by decide) ?_
      exact hk _ _ _ ⟨hS88, (by (try rw [((hS88.cell tx (by decide +kernel)).trans c2)]); (try rw [((hS88.cell tm (by decide +kernel)).trans c5)]); (try omega)), trivial⟩
def wi_road7 : List Nat := [73, 81, 768, 769, 778, 960, 961, 962, 2303, 2367, 2431, 2495, 2559, 2623, 2687, 2751, 2815, 5247, 5311, 5375, 5439, 5503, 5567]
def wr_road7 : List Nat := []
set_option maxHeartbeats 4000000 in
theorem s_road7 {X : cz_X} (hE : cz_env X) {T : Nat → Nat} {cn : Nat} {K N : Nat → Nat} {I0 : cz_I} {R0 : cz_R} {L0 : cz_L} {d : Int} (hW0 : Wf T cn K N I0 R0 d) {x : Nat} (tx : T x = 1) {m : Nat} (tm : T m = 15) {o : Nat} (tox : T o = 94) {i0 : Int32} {Ln : Nat} {xs : Nat → Int32} (hs : cz_scr X Ln xs) (hi0 : 0 ≤ i0.toInt ∧ i0.toInt + 6 ≤ (Ln : Int) ∧ (Ln : Int) ≤ 3072) {n w : Nat} (hn : n ≤ (cz_rm mL_law).cells) (hw : w ≤ (cz_rm mL_law).slots) (pre0 : (I0 x 1).toInt = (I0 m 6).toInt) {ls : Nat → Option Value} (hl0 : ls 0 = some (.float 1000000)) (hl1 : ls 1 = some (.ref x)) (hl2 : ls 2 = some (.ref m)) (hl3 : ls 3 = some (.ref o)) (hl4 : ls 4 = some (.int i0)) (hk : ∀ (I' : cz_I) (R' : cz_R) (L' : cz_L), St T cn K N d wi_road7 wr_road7 I0 R0 I' R' ∧ ((I' x 1).toInt = (I' m 6).toInt) ∧ True → Tr X mL_law 1392 ls [] cn K N I' R' L' n w) : Tr X mL_law 487 ls [] cn K N I0 R0 L0 n w := by
  have hS0 : St T cn K N d wi_road7 wr_road7 I0 R0 I0 R0 := St.rf0 hW0
  obtain ⟨v1, c2⟩ : ∃ v, I0 x 1 = v := ⟨_, rfl⟩
  have b3 := iv1_1 hW0 tx c2
  obtain ⟨v4, c5⟩ : ∃ v, I0 m 6 = v := ⟨_, rfl⟩
  have b6 := iv15_6 hW0 tm c5
  have p7 := pre0
  rw [c2] at p7
  rw [c5] at p7
  refine tr_aload_n dL_law_487 hl1 ?_
  refine tr_aload_nS dL_law_488 hl0 ?_
  refine tr_iload dL_law_489 hl4 ?_
  refine q_iconst dL_law_491 (by decide) ?_
  intro v8 h9
  refine q_iaddE dL_law_492 (by intro j1 j2 j3 j4; omega) ?_
  intro v10 h11
  refine q_sld hs dL_law_493 (by omega) (by omega) ?_
  intro v12
  refine tr_aload_nS dL_law_494 hl0 ?_
  refine tr_iload dL_law_495 hl4 ?_
  refine q_iconst dL_law_497 (by decide) ?_
  intro v13 h14
  refine q_iaddE dL_law_498 (by intro j1 j2 j3 j4; omega) ?_
  intro v15 h16
  refine q_sld hs dL_law_499 (by omega) (by omega) ?_
  intro v17
  refine q_callVi hE (M' := mX10_change) (as := [_, _]) dL_law_500 lk13_51 inX10_change seX10_change myX10_change (by decide) ⟨by decide, by decide⟩ rfl (kR1 hS0.1 tx) (Nat.le_of_ble_eq_true rfl) rfl rfl hn hw (k_X10_change hS0.1 tx) ?_
  rintro v22 cn' K' N' I18 R19 L20 ⟨rfl, rfl, rfl, rfl, rfl, g21, -⟩
  have hS23 := hS0.tr g21 (by decide +kernel) (by decide +kernel)
  refine tr_pop dL_law_503 rfl ?_
  refine tr_aload_n dL_law_504 hl2 ?_
  refine tr_aload_nS dL_law_505 hl0 ?_
  refine tr_iload dL_law_506 hl4 ?_
  refine q_iconst dL_law_508 (by decide) ?_
  intro v24 h25
  refine q_iaddE dL_law_509 (by intro j1 j2 j3 j4; omega) ?_
  intro v26 h27
  refine q_sld hs dL_law_510 (by omega) (by omega) ?_
  intro v28
  refine tr_aload_nS dL_law_511 hl0 ?_
  refine tr_iload dL_law_512 hl4 ?_
  refine q_iconst dL_law_514 (by decide) ?_
  intro v29 h30
  refine q_iaddE dL_law_515 (by intro j1 j2 j3 j4; omega) ?_
  intro v31 h32
  refine q_sld hs dL_law_516 (by omega) (by omega) ?_
  intro v33
  refine q_callVi hE (M' := mX12_change) (as := [_, _]) dL_law_517 lk13_55 inX12_change seX12_change myX12_change (by decide) ⟨by decide, by decide⟩ rfl (kR15 hS23.1 tm) (Nat.le_of_ble_eq_true rfl) rfl rfl hn hw (k_X12_change hS23.1 tm) ?_
  rintro v38 cn' K' N' I34 R35 L36 ⟨rfl, rfl, rfl, rfl, rfl, g37, -⟩
  have hS39 := hS23.tr g37 (by decide +kernel) (by decide +kernel)
  refine tr_pop dL_law_520 rfl ?_
  refine tr_goto 1392 dL_law_521 (by decide) ?_
  exact hk _ _ _ ⟨hS39, (by (try rw [((hS39.cell tx (by decide +kernel)).trans c2)]); (try rw [((hS39.cell tm (by decide +kernel)).trans c5)]); (try omega)), trivial⟩
def wi_road8 : List Nat := [73, 81, 768, 769, 778, 960, 961, 962, 2303, 2367, 2431, 2495, 2559, 2623, 2687, 2751, 2815, 5247, 5311, 5375, 5439, 5503, 5567]
def wr_road8 : List Nat := []
set_option maxHeartbeats 4000000 in
theorem s_road8 {X : cz_X} (hE : cz_env X) {T : Nat → Nat} {cn : Nat} {K N : Nat → Nat} {I0 : cz_I} {R0 : cz_R} {L0 : cz_L} {d : Int} (hW0 : Wf T cn K N I0 R0 d) {x : Nat} (tx : T x = 1) {m : Nat} (tm : T m = 15) {o : Nat} (tox : T o = 94) {i0 : Int32} {Ln : Nat} {xs : Nat → Int32} (hs : cz_scr X Ln xs) (hi0 : 0 ≤ i0.toInt ∧ i0.toInt + 6 ≤ (Ln : Int) ∧ (Ln : Int) ≤ 3072) {n w : Nat} (hn : n ≤ (cz_rm mL_law).cells) (hw : w ≤ (cz_rm mL_law).slots) (pre0 : (I0 x 1).toInt = (I0 m 6).toInt) {ls : Nat → Option Value} (hl0 : ls 0 = some (.float 1000000)) (hl1 : ls 1 = some (.ref x)) (hl2 : ls 2 = some (.ref m)) (hl3 : ls 3 = some (.ref o)) (hl4 : ls 4 = some (.int i0)) (hk : ∀ (I' : cz_I) (R' : cz_R) (L' : cz_L), St T cn K N d wi_road8 wr_road8 I0 R0 I' R' ∧ ((I' x 1).toInt = (I' m 6).toInt) ∧ True → Tr X mL_law 1392 ls [] cn K N I' R' L' n w) : Tr X mL_law 524 ls [] cn K N I0 R0 L0 n w := by
  have hS0 : St T cn K N d wi_road8 wr_road8 I0 R0 I0 R0 := St.rf0 hW0
  obtain ⟨v1, c2⟩ : ∃ v, I0 x 1 = v := ⟨_, rfl⟩
  have b3 := iv1_1 hW0 tx c2
  obtain ⟨v4, c5⟩ : ∃ v, I0 m 6 = v := ⟨_, rfl⟩
  have b6 := iv15_6 hW0 tm c5
  have p7 := pre0
  rw [c2] at p7
  rw [c5] at p7
  refine tr_aload_n dL_law_524 hl1 ?_
  refine q_callVi hE (M' := mX10_peak) (as := []) dL_law_525 lk13_56 inX10_peak seX10_peak myX10_peak (by decide) ⟨by decide, by decide⟩ rfl (kR1 hS0.1 tx) (Nat.le_of_ble_eq_true rfl) rfl rfl hn hw (k_X10_peak hS0.1 tx) ?_
  rintro v12 cn' K' N' I8 R9 L10 ⟨rfl, rfl, rfl, rfl, rfl, g11, -⟩
  have hS13 := hS0.tr g11 (by decide +kernel) (by decide +kernel)
  refine tr_pop dL_law_528 rfl ?_
  refine tr_aload_n dL_law_529 hl2 ?_
  refine q_callVi hE (M' := mX12_peak) (as := []) dL_law_530 lk13_59 inX12_peak seX12_peak myX12_peak (by decide) ⟨by decide, by decide⟩ rfl (kR15 hS13.1 tm) (Nat.le_of_ble_eq_true rfl) rfl rfl hn hw (k_X12_peak hS13.1 tm) ?_
  rintro v18 cn' K' N' I14 R15 L16 ⟨rfl, rfl, rfl, rfl, rfl, g17, -⟩
  have hS19 := hS13.tr g17 (by decide +kernel) (by decide +kernel)
  refine tr_pop dL_law_533 rfl ?_
  refine tr_goto 1392 dL_law_534 (by decide) ?_
  exact hk _ _ _ ⟨hS19, (by (try rw [((hS19.cell tx (by decide +kernel)).trans c2)]); (try rw [((hS19.cell tm (by decide +kernel)).trans c5)]); (try omega)), trivial⟩
def wi_road9 : List Nat := [73, 81, 768, 769, 778, 960, 961, 962, 2303, 2367, 2431, 2495, 2559, 2623, 2687, 2751, 2815, 5247, 5311, 5375, 5439, 5503, 5567]
def wr_road9 : List Nat := []
set_option maxHeartbeats 4000000 in
theorem s_road9 {X : cz_X} (hE : cz_env X) {T : Nat → Nat} {cn : Nat} {K N : Nat → Nat} {I0 : cz_I} {R0 : cz_R} {L0 : cz_L} {d : Int} (hW0 : Wf T cn K N I0 R0 d) {x : Nat} (tx : T x = 1) {m : Nat} (tm : T m = 15) {o : Nat} (tox : T o = 94) {i0 : Int32} {Ln : Nat} {xs : Nat → Int32} (hs : cz_scr X Ln xs) (hi0 : 0 ≤ i0.toInt ∧ i0.toInt + 6 ≤ (Ln : Int) ∧ (Ln : Int) ≤ 3072) {n w : Nat} (hn : n ≤ (cz_rm mL_law).cells) (hw : w ≤ (cz_rm mL_law).slots) (pre0 : (I0 x 1).toInt = (I0 m 6).toInt) {ls : Nat → Option Value} (hl0 : ls 0 = some (.float 1000000)) (hl1 : ls 1 = some (.ref x)) (hl2 : ls 2 = some (.ref m)) (hl3 : ls 3 = some (.ref o)) (hl4 : ls 4 = some (.int i0)) (hk : ∀ (I' : cz_I) (R' : cz_R) (L' : cz_L), St T cn K N d wi_road9 wr_road9 I0 R0 I' R' ∧ ((I' x 1).toInt = (I' m 6).toInt) ∧ True → Tr X mL_law 1392 ls [] cn K N I' R' L' n w) : Tr X mL_law 537 ls [] cn K N I0 R0 L0 n w := by
  have hS0 : St T cn K N d wi_road9 wr_road9 I0 R0 I0 R0 := St.rf0 hW0
  obtain ⟨v1, c2⟩ : ∃ v, I0 x 1 = v := ⟨_, rfl⟩
  have b3 := iv1_1 hW0 tx c2
  obtain ⟨v4, c5⟩ : ∃ v, I0 m 6 = v := ⟨_, rfl⟩
  have b6 := iv15_6 hW0 tm c5
  have p7 := pre0
  rw [c2] at p7
  rw [c5] at p7
  refine tr_aload_n dL_law_537 hl1 ?_
  refine tr_aload_nS dL_law_538 hl0 ?_
  refine tr_iload dL_law_539 hl4 ?_
  refine q_iconst dL_law_541 (by decide) ?_
  intro v8 h9
  refine q_iaddE dL_law_542 (by intro j1 j2 j3 j4; omega) ?_
  intro v10 h11
  refine q_sld hs dL_law_543 (by omega) (by omega) ?_
  intro v12
  refine q_callVi hE (M' := mX10_due) (as := [_]) dL_law_544 lk13_60 inX10_due seX10_due myX10_due (by decide) ⟨by decide, by decide⟩ rfl (kR1 hS0.1 tx) (Nat.le_of_ble_eq_true rfl) rfl rfl hn hw (k_X10_due hS0.1 tx) ?_
  rintro v17 cn' K' N' I13 R14 L15 ⟨rfl, rfl, rfl, rfl, rfl, g16, -⟩
  have hS18 := hS0.tr g16 (by decide +kernel) (by decide +kernel)
  refine tr_pop dL_law_547 rfl ?_
  refine tr_aload_n dL_law_548 hl2 ?_
  refine tr_aload_nS dL_law_549 hl0 ?_
  refine tr_iload dL_law_550 hl4 ?_
  refine q_iconst dL_law_552 (by decide) ?_
  intro v19 h20
  refine q_iaddE dL_law_553 (by intro j1 j2 j3 j4; omega) ?_
  intro v21 h22
  refine q_sld hs dL_law_554 (by omega) (by omega) ?_
  intro v23
  refine q_callVi hE (M' := mX12_due) (as := [_]) dL_law_555 lk13_63 inX12_due seX12_due myX12_due (by decide) ⟨by decide, by decide⟩ rfl (kR15 hS18.1 tm) (Nat.le_of_ble_eq_true rfl) rfl rfl hn hw (k_X12_due hS18.1 tm) ?_
  rintro v28 cn' K' N' I24 R25 L26 ⟨rfl, rfl, rfl, rfl, rfl, g27, -⟩
  have hS29 := hS18.tr g27 (by decide +kernel) (by decide +kernel)
  refine tr_pop dL_law_558 rfl ?_
  refine tr_goto 1392 dL_law_559 (by decide) ?_
  exact hk _ _ _ ⟨hS29, (by (try rw [((hS29.cell tx (by decide +kernel)).trans c2)]); (try rw [((hS29.cell tm (by decide +kernel)).trans c5)]); (try omega)), trivial⟩
def wi_road10 : List Nat := [73, 75, 81, 768, 769, 778, 834, 960, 961, 962, 2303, 2367, 2431, 2495, 2559, 2623, 2687, 2751, 2815, 2879, 2943, 3007, 3071, 3135, 3199, 3263, 3327, 3391, 5247, 5311, 5375, 5439, 5503, 5567]
def wr_road10 : List Nat := [832, 833]
set_option maxHeartbeats 4000000 in
theorem s_road10 {X : cz_X} (hE : cz_env X) {T : Nat → Nat} {cn : Nat} {K N : Nat → Nat} {I0 : cz_I} {R0 : cz_R} {L0 : cz_L} {d : Int} (hW0 : Wf T cn K N I0 R0 d) {x : Nat} (tx : T x = 1) {m : Nat} (tm : T m = 15) {o : Nat} (tox : T o = 94) {i0 : Int32} {Ln : Nat} {xs : Nat → Int32} (hs : cz_scr X Ln xs) (hi0 : 0 ≤ i0.toInt ∧ i0.toInt + 6 ≤ (Ln : Int) ∧ (Ln : Int) ≤ 3072) {n w : Nat} (hn : n ≤ (cz_rm mL_law).cells) (hw : w ≤ (cz_rm mL_law).slots) (pre0 : (I0 x 1).toInt = (I0 m 6).toInt) {ls : Nat → Option Value} (hl0 : ls 0 = some (.float 1000000)) (hl1 : ls 1 = some (.ref x)) (hl2 : ls 2 = some (.ref m)) (hl3 : ls 3 = some (.ref o)) (hl4 : ls 4 = some (.int i0)) (hk : ∀ (I' : cz_I) (R' : cz_R) (L' : cz_L), St T cn K N d wi_road10 wr_road10 I0 R0 I' R' ∧ ((I' x 1).toInt = (I' m 6).toInt) ∧ True → Tr X mL_law 1392 ls [] cn K N I' R' L' n w) : Tr X mL_law 562 ls [] cn K N I0 R0 L0 n w := by
  have hS0 : St T cn K N d wi_road10 wr_road10 I0 R0 I0 R0 := St.rf0 hW0
  obtain ⟨v1, c2⟩ : ∃ v, I0 x 1 = v := ⟨_, rfl⟩
  have b3 := iv1_1 hW0 tx c2
  obtain ⟨v4, c5⟩ : ∃ v, I0 m 6 = v := ⟨_, rfl⟩
  have b6 := iv15_6 hW0 tm c5
  have p7 := pre0
  rw [c2] at p7
  rw [c5] at p7
  refine tr_aload_n dL_law_562 hl1 ?_
  refine tr_aload_nS dL_law_563 hl0 ?_
  refine tr_iload dL_law_564 hl4 ?_
  refine q_iconst dL_law_566 (by decide) ?_
  intro v8 h9
  refine q_iaddE dL_law_567 (by intro j1 j2 j3 j4; omega) ?_
  intro v10 h11
  refine q_sld hs dL_law_568 (by omega) (by omega) ?_
  intro v12
  refine tr_aload_nS dL_law_569 hl0 ?_
  refine tr_iload dL_law_570 hl4 ?_
  refine q_iconst dL_law_572 (by decide) ?_
  intro v13 h14
  refine q_iaddE dL_law_573 (by intro j1 j2 j3 j4; omega) ?_
  intro v15 h16
  refine q_sld hs dL_law_574 (by omega) (by omega) ?_
  intro v17
  refine q_callVi hE (M' := mX10_awake) (as := [_, _]) dL_law_575 lk13_64 inX10_awake seX10_awake myX10_awake (by decide) ⟨by decide, by decide⟩ rfl (kR1 hS0.1 tx) (Nat.le_of_ble_eq_true rfl) rfl rfl hn hw (k_X10_awake hS0.1 tx) ?_
  rintro v22 cn' K' N' I18 R19 L20 ⟨rfl, rfl, rfl, rfl, g21, -⟩
  have hS23 := hS0.tr g21 (by decide +kernel) (by decide +kernel)
  refine tr_pop dL_law_578 rfl ?_
  refine tr_aload_n dL_law_579 hl2 ?_
  refine tr_aload_nS dL_law_580 hl0 ?_
  refine tr_iload dL_law_581 hl4 ?_
  refine q_iconst dL_law_583 (by decide) ?_
  intro v24 h25
  refine q_iaddE dL_law_584 (by intro j1 j2 j3 j4; omega) ?_
  intro v26 h27
  refine q_sld hs dL_law_585 (by omega) (by omega) ?_
  intro v28
  refine tr_aload_nS dL_law_586 hl0 ?_
  refine tr_iload dL_law_587 hl4 ?_
  refine q_iconst dL_law_589 (by decide) ?_
  intro v29 h30
  refine q_iaddE dL_law_590 (by intro j1 j2 j3 j4; omega) ?_
  intro v31 h32
  refine q_sld hs dL_law_591 (by omega) (by omega) ?_
  intro v33
  refine q_callVi hE (M' := mX12_awake) (as := [_, _]) dL_law_592 lk13_67 inX12_awake seX12_awake myX12_awake (by decide) ⟨by decide, by decide⟩ rfl (kR15 hS23.1 tm) (Nat.le_of_ble_eq_true rfl) rfl rfl hn hw (k_X12_awake hS23.1 tm) ?_
  rintro v38 cn' K' N' I34 R35 L36 ⟨rfl, rfl, rfl, rfl, rfl, g37, -⟩
  have hS39 := hS23.tr g37 (by decide +kernel) (by decide +kernel)
  refine tr_pop dL_law_595 rfl ?_
  refine tr_goto 1392 dL_law_596 (by decide) ?_
  exact hk _ _ _ ⟨hS39, (by (try rw [((hS39.cell tx (by decide +kernel)).trans c2)]); (try rw [((hS39.cell tm (by decide +kernel)).trans c5)]); (try omega)), trivial⟩
def wi_road11 : List Nat := [73, 75, 81, 768, 769, 778, 834, 960, 961, 962, 2303, 2367, 2431, 2495, 2559, 2623, 2687, 2751, 2815, 2879, 2943, 3007, 3071, 3135, 3199, 3263, 3327, 3391, 5247, 5311, 5375, 5439, 5503, 5567]
def wr_road11 : List Nat := [832, 833]
set_option maxHeartbeats 4000000 in
theorem s_road11 {X : cz_X} (hE : cz_env X) {T : Nat → Nat} {cn : Nat} {K N : Nat → Nat} {I0 : cz_I} {R0 : cz_R} {L0 : cz_L} {d : Int} (hW0 : Wf T cn K N I0 R0 d) {x : Nat} (tx : T x = 1) {m : Nat} (tm : T m = 15) {o : Nat} (tox : T o = 94) {i0 : Int32} {Ln : Nat} {xs : Nat → Int32} (hs : cz_scr X Ln xs) (hi0 : 0 ≤ i0.toInt ∧ i0.toInt + 6 ≤ (Ln : Int) ∧ (Ln : Int) ≤ 3072) {n w : Nat} (hn : n ≤ (cz_rm mL_law).cells) (hw : w ≤ (cz_rm mL_law).slots) (pre0 : (I0 x 1).toInt = (I0 m 6).toInt) {ls : Nat → Option Value} (hl0 : ls 0 = some (.float 1000000)) (hl1 : ls 1 = some (.ref x)) (hl2 : ls 2 = some (.ref m)) (hl3 : ls 3 = some (.ref o)) (hl4 : ls 4 = some (.int i0)) (hk : ∀ (I' : cz_I) (R' : cz_R) (L' : cz_L), St T cn K N d wi_road11 wr_road11 I0 R0 I' R' ∧ ((I' x 1).toInt = (I' m 6).toInt) ∧ True → Tr X mL_law 1392 ls [] cn K N I' R' L' n w) : Tr X mL_law 599 ls [] cn K N I0 R0 L0 n w := by
  have hS0 : St T cn K N d wi_road11 wr_road11 I0 R0 I0 R0 := St.rf0 hW0
  obtain ⟨v1, c2⟩ : ∃ v, I0 x 1 = v := ⟨_, rfl⟩
  have b3 := iv1_1 hW0 tx c2
  obtain ⟨v4, c5⟩ : ∃ v, I0 m 6 = v := ⟨_, rfl⟩
  have b6 := iv15_6 hW0 tm c5
  have p7 := pre0
  rw [c2] at p7
  rw [c5] at p7
  refine tr_aload_n dL_law_599 hl1 ?_
  refine tr_aload_nS dL_law_600 hl0 ?_
  refine tr_iload dL_law_601 hl4 ?_
  refine q_iconst dL_law_603 (by decide) ?_
  intro v8 h9
  refine q_iaddE dL_law_604 (by intro j1 j2 j3 j4; omega) ?_
  intro v10 h11
  refine q_sld hs dL_law_605 (by omega) (by omega) ?_
  intro v12
  refine tr_aload_nS dL_law_606 hl0 ?_
  refine tr_iload dL_law_607 hl4 ?_
  refine q_iconst dL_law_609 (by decide) ?_
  intro v13 h14
  refine q_iaddE dL_law_610 (by intro j1 j2 j3 j4; omega) ?_
  intro v15 h16
  refine q_sld hs dL_law_611 (by omega) (by omega) ?_
  intro v17
  refine tr_aload_nS dL_law_612 hl0 ?_
  refine tr_iload dL_law_613 hl4 ?_
  refine q_iconst dL_law_615 (by decide) ?_
  intro v18 h19
  refine q_iaddE dL_law_616 (by intro j1 j2 j3 j4; omega) ?_
  intro v20 h21
  refine q_sld hs dL_law_617 (by omega) (by omega) ?_
  intro v22
  refine q_callVi hE (M' := mX10_notices) (as := [_, _, _]) dL_law_618 lk13_68 inX10_notices seX10_notices myX10_notices (by decide) ⟨by decide, by decide⟩ rfl (kR1 hS0.1 tx) (Nat.le_of_ble_eq_true rfl) rfl rfl hn hw (k_X10_notices hS0.1 tx) ?_
  rintro v27 cn' K' N' I23 R24 L25 ⟨rfl, rfl, rfl, rfl, g26, -⟩
  have hS28 := hS0.tr g26 (by decide +kernel) (by decide +kernel)
  refine tr_pop dL_law_621 rfl ?_
  refine tr_aload_n dL_law_622 hl2 ?_
  refine tr_aload_nS dL_law_623 hl0 ?_
  refine tr_iload dL_law_624 hl4 ?_
  refine q_iconst dL_law_626 (by decide) ?_
  intro v29 h30
  refine q_iaddE dL_law_627 (by intro j1 j2 j3 j4; omega) ?_
  intro v31 h32
  refine q_sld hs dL_law_628 (by omega) (by omega) ?_
  intro v33
  refine tr_aload_nS dL_law_629 hl0 ?_
  refine tr_iload dL_law_630 hl4 ?_
  refine q_iconst dL_law_632 (by decide) ?_
  intro v34 h35
  refine q_iaddE dL_law_633 (by intro j1 j2 j3 j4; omega) ?_
  intro v36 h37
  refine q_sld hs dL_law_634 (by omega) (by omega) ?_
  intro v38
  refine tr_aload_nS dL_law_635 hl0 ?_
  refine tr_iload dL_law_636 hl4 ?_
  refine q_iconst dL_law_638 (by decide) ?_
  intro v39 h40
  refine q_iaddE dL_law_639 (by intro j1 j2 j3 j4; omega) ?_
  intro v41 h42
  refine q_sld hs dL_law_640 (by omega) (by omega) ?_
  intro v43
  refine q_callVi hE (M' := mX12_notices) (as := [_, _, _]) dL_law_641 lk13_72 inX12_notices seX12_notices myX12_notices (by decide) ⟨by decide, by decide⟩ rfl (kR15 hS28.1 tm) (Nat.le_of_ble_eq_true rfl) rfl rfl hn hw (k_X12_notices hS28.1 tm) ?_
  rintro v48 cn' K' N' I44 R45 L46 ⟨rfl, rfl, rfl, rfl, rfl, g47, -⟩
  have hS49 := hS28.tr g47 (by decide +kernel) (by decide +kernel)
  refine tr_pop dL_law_644 rfl ?_
  refine tr_goto 1392 dL_law_645 (by decide) ?_
  exact hk _ _ _ ⟨hS49, (by (try rw [((hS49.cell tx (by decide +kernel)).trans c2)]); (try rw [((hS49.cell tm (by decide +kernel)).trans c5)]); (try omega)), trivial⟩
def wi_road12 : List Nat := [73, 75, 81, 768, 769, 778, 834, 960, 961, 962, 2303, 2367, 2431, 2495, 2559, 2623, 2687, 2751, 2815, 2879, 2943, 3007, 3071, 3135, 3199, 3263, 3327, 3391, 5247, 5311, 5375, 5439, 5503, 5567, 5631, 5695, 5759, 5823, 5887, 5951, 6015]
def wr_road12 : List Nat := [832, 833]
set_option maxHeartbeats 4000000 in
theorem s_road12 {X : cz_X} (hE : cz_env X) {T : Nat → Nat} {cn : Nat} {K N : Nat → Nat} {I0 : cz_I} {R0 : cz_R} {L0 : cz_L} {d : Int} (hW0 : Wf T cn K N I0 R0 d) {x : Nat} (tx : T x = 1) {m : Nat} (tm : T m = 15) {o : Nat} (tox : T o = 94) {i0 : Int32} {Ln : Nat} {xs : Nat → Int32} (hs : cz_scr X Ln xs) (hi0 : 0 ≤ i0.toInt ∧ i0.toInt + 6 ≤ (Ln : Int) ∧ (Ln : Int) ≤ 3072) {n w : Nat} (hn : n ≤ (cz_rm mL_law).cells) (hw : w ≤ (cz_rm mL_law).slots) (pre0 : (I0 x 1).toInt = (I0 m 6).toInt) {ls : Nat → Option Value} (hl0 : ls 0 = some (.float 1000000)) (hl1 : ls 1 = some (.ref x)) (hl2 : ls 2 = some (.ref m)) (hl3 : ls 3 = some (.ref o)) (hl4 : ls 4 = some (.int i0)) (hk : ∀ (I' : cz_I) (R' : cz_R) (L' : cz_L), St T cn K N d wi_road12 wr_road12 I0 R0 I' R' ∧ ((I' x 1).toInt = (I' m 6).toInt) ∧ True → Tr X mL_law 1392 ls [] cn K N I' R' L' n w) : Tr X mL_law 648 ls [] cn K N I0 R0 L0 n w := by
  have hS0 : St T cn K N d wi_road12 wr_road12 I0 R0 I0 R0 := St.rf0 hW0
  obtain ⟨v1, c2⟩ : ∃ v, I0 x 1 = v := ⟨_, rfl⟩
  have b3 := iv1_1 hW0 tx c2
  obtain ⟨v4, c5⟩ : ∃ v, I0 m 6 = v := ⟨_, rfl⟩
  have b6 := iv15_6 hW0 tm c5
  have p7 := pre0
  rw [c2] at p7
  rw [c5] at p7
  refine tr_aload_n dL_law_648 hl1 ?_
  refine tr_aload_nS dL_law_649 hl0 ?_
  refine tr_iload dL_law_650 hl4 ?_
  refine q_iconst dL_law_652 (by decide) ?_
  intro v8 h9
  refine q_iaddE dL_law_653 (by intro j1 j2 j3 j4; omega) ?_
  intro v10 h11
  refine q_sld hs dL_law_654 (by omega) (by omega) ?_
  intro v12
  refine tr_aload_nS dL_law_655 hl0 ?_
  refine tr_iload dL_law_656 hl4 ?_
  refine q_iconst dL_law_658 (by decide) ?_
  intro v13 h14
  refine q_iaddE dL_law_659 (by intro j1 j2 j3 j4; omega) ?_
  intro v15 h16
  refine q_sld hs dL_law_660 (by omega) (by omega) ?_
  intro v17
  refine q_callVi hE (M' := mX10_work) (as := [_, _]) dL_law_661 lk13_73 inX10_work seX10_work myX10_work (by decide) ⟨by decide, by decide⟩ rfl (kR1 hS0.1 tx) (Nat.le_of_ble_eq_true rfl) rfl rfl hn hw (k_X10_work hS0.1 tx) ?_
  rintro v22 cn' K' N' I18 R19 L20 ⟨rfl, rfl, rfl, rfl, g21, -⟩
  have hS23 := hS0.tr g21 (by decide +kernel) (by decide +kernel)
  refine tr_pop dL_law_664 rfl ?_
  refine tr_aload_n dL_law_665 hl2 ?_
  refine tr_aload_nS dL_law_666 hl0 ?_
  refine tr_iload dL_law_667 hl4 ?_
  refine q_iconst dL_law_669 (by decide) ?_
  intro v24 h25
  refine q_iaddE dL_law_670 (by intro j1 j2 j3 j4; omega) ?_
  intro v26 h27
  refine q_sld hs dL_law_671 (by omega) (by omega) ?_
  intro v28
  refine tr_aload_nS dL_law_672 hl0 ?_
  refine tr_iload dL_law_673 hl4 ?_
  refine q_iconst dL_law_675 (by decide) ?_
  intro v29 h30
  refine q_iaddE dL_law_676 (by intro j1 j2 j3 j4; omega) ?_
  intro v31 h32
  refine q_sld hs dL_law_677 (by omega) (by omega) ?_
  intro v33
  refine q_callVi hE (M' := mX12_work) (as := [_, _]) dL_law_678 lk13_76 inX12_work seX12_work myX12_work (by decide) ⟨by decide, by decide⟩ rfl (kR15 hS23.1 tm) (Nat.le_of_ble_eq_true rfl) rfl rfl hn hw (k_X12_work hS23.1 tm) ?_
  rintro v38 cn' K' N' I34 R35 L36 ⟨rfl, rfl, rfl, rfl, rfl, g37, -⟩
  have hS39 := hS23.tr g37 (by decide +kernel) (by decide +kernel)
  refine tr_pop dL_law_681 rfl ?_
  refine tr_goto 1392 dL_law_682 (by decide) ?_
  exact hk _ _ _ ⟨hS39, (by (try rw [((hS39.cell tx (by decide +kernel)).trans c2)]); (try rw [((hS39.cell tm (by decide +kernel)).trans c5)]); (try omega)), trivial⟩
def wi_road13 : List Nat := [73, 75, 81, 768, 769, 778, 834, 960, 961, 962, 2303, 2367, 2431, 2495, 2559, 2623, 2687, 2751, 2815, 2879, 2943, 3007, 3071, 3135, 3199, 3263, 3327, 3391, 5247, 5311, 5375, 5439, 5503, 5567, 5631, 5695, 5759, 5823, 5887, 5951, 6015]
def wr_road13 : List Nat := [832, 833]
set_option maxHeartbeats 4000000 in
theorem s_road13 {X : cz_X} (hE : cz_env X) {T : Nat → Nat} {cn : Nat} {K N : Nat → Nat} {I0 : cz_I} {R0 : cz_R} {L0 : cz_L} {d : Int} (hW0 : Wf T cn K N I0 R0 d) {x : Nat} (tx : T x = 1) {m : Nat} (tm : T m = 15) {o : Nat} (tox : T o = 94) {i0 : Int32} {Ln : Nat} {xs : Nat → Int32} (hs : cz_scr X Ln xs) (hi0 : 0 ≤ i0.toInt ∧ i0.toInt + 6 ≤ (Ln : Int) ∧ (Ln : Int) ≤ 3072) {n w : Nat} (hn : n ≤ (cz_rm mL_law).cells) (hw : w ≤ (cz_rm mL_law).slots) (pre0 : (I0 x 1).toInt = (I0 m 6).toInt) {ls : Nat → Option Value} (hl0 : ls 0 = some (.float 1000000)) (hl1 : ls 1 = some (.ref x)) (hl2 : ls 2 = some (.ref m)) (hl3 : ls 3 = some (.ref o)) (hl4 : ls 4 = some (.int i0)) (hk : ∀ (I' : cz_I) (R' : cz_R) (L' : cz_L), St T cn K N d wi_road13 wr_road13 I0 R0 I' R' ∧ ((I' x 1).toInt = (I' m 6).toInt) ∧ True → Tr X mL_law 1392 ls [] cn K N I' R' L' n w) : Tr X mL_law 685 ls [] cn K N I0 R0 L0 n w := by
  have hS0 : St T cn K N d wi_road13 wr_road13 I0 R0 I0 R0 := St.rf0 hW0
  obtain ⟨v1, c2⟩ : ∃ v, I0 x 1 = v := ⟨_, rfl⟩
  have b3 := iv1_1 hW0 tx c2
  obtain ⟨v4, c5⟩ : ∃ v, I0 m 6 = v := ⟨_, rfl⟩
  have b6 := iv15_6 hW0 tm c5
  have p7 := pre0
  rw [c2] at p7
  rw [c5] at p7
  refine tr_aload_n dL_law_685 hl1 ?_
  refine tr_aload_nS dL_law_686 hl0 ?_
  refine tr_iload dL_law_687 hl4 ?_
  refine q_iconst dL_law_689 (by decide) ?_
  intro v8 h9
  refine q_iaddE dL_law_690 (by intro j1 j2 j3 j4; omega) ?_
  intro v10 h11
  refine q_sld hs dL_law_691 (by omega) (by omega) ?_
  intro v12
  refine q_callVi hE (M' := mX10_worth) (as := [_]) dL_law_692 lk13_77 inX10_worth seX10_worth myX10_worth (by decide) ⟨by decide, by decide⟩ rfl (kR1 hS0.1 tx) (Nat.le_of_ble_eq_true rfl) rfl rfl hn hw (k_X10_worth hS0.1 tx) ?_
  rintro v17 cn' K' N' I13 R14 L15 ⟨rfl, rfl, rfl, rfl, g16, -⟩
  have hS18 := hS0.tr g16 (by decide +kernel) (by decide +kernel)
  refine tr_pop dL_law_695 rfl ?_
  refine tr_aload_n dL_law_696 hl2 ?_
  refine tr_aload_nS dL_law_697 hl0 ?_
  refine tr_iload dL_law_698 hl4 ?_
  refine q_iconst dL_law_700 (by decide) ?_
  intro v19 h20
  refine q_iaddE dL_law_701 (by intro j1 j2 j3 j4; omega) ?_
  intro v21 h22
  refine q_sld hs dL_law_702 (by omega) (by omega) ?_
  intro v23
  refine q_callVi hE (M' := mX12_worth) (as := [_]) dL_law_703 lk13_80 inX12_worth seX12_worth myX12_worth (by decide) ⟨by decide, by decide⟩ rfl (kR15 hS18.1 tm) (Nat.le_of_ble_eq_true rfl) rfl rfl hn hw (k_X12_worth hS18.1 tm) ?_
  rintro v28 cn' K' N' I24 R25 L26 ⟨rfl, rfl, rfl, rfl, rfl, g27, -⟩
  have hS29 := hS18.tr g27 (by decide +kernel) (by decide +kernel)
  refine tr_pop dL_law_706 rfl ?_
  refine tr_goto 1392 dL_law_707 (by decide) ?_
  exact hk _ _ _ ⟨hS29, (by (try rw [((hS29.cell tx (by decide +kernel)).trans c2)]); (try rw [((hS29.cell tm (by decide +kernel)).trans c5)]); (try omega)), trivial⟩
def wi_road14 : List Nat := [73, 75, 81, 768, 769, 778, 834, 960, 961, 962, 2303, 2367, 2431, 2495, 2559, 2623, 2687, 2751, 2815, 2879, 2943, 3007, 3071, 3135, 3199, 3263, 3327, 3391, 5247, 5311, 5375, 5439, 5503, 5567, 5631, 5695, 5759, 5823, 5887, 5951, 6015]
def wr_road14 : List Nat := [832, 833]
set_option maxHeartbeats 4000000 in
theorem s_road14 {X : cz_X} (hE : cz_env X) {T : Nat → Nat} {cn : Nat} {K N : Nat → Nat} {I0 : cz_I} {R0 : cz_R} {L0 : cz_L} {d : Int} (hW0 : Wf T cn K N I0 R0 d) {x : Nat} (tx : T x = 1) {m : Nat} (tm : T m = 15) {o : Nat} (tox : T o = 94) {i0 : Int32} {Ln : Nat} {xs : Nat → Int32} (hs : cz_scr X Ln xs) (hi0 : 0 ≤ i0.toInt ∧ i0.toInt + 6 ≤ (Ln : Int) ∧ (Ln : Int) ≤ 3072) {n w : Nat} (hn : n ≤ (cz_rm mL_law).cells) (hw : w ≤ (cz_rm mL_law).slots) (pre0 : (I0 x 1).toInt = (I0 m 6).toInt) {ls : Nat → Option Value} (hl0 : ls 0 = some (.float 1000000)) (hl1 : ls 1 = some (.ref x)) (hl2 : ls 2 = some (.ref m)) (hl3 : ls 3 = some (.ref o)) (hl4 : ls 4 = some (.int i0)) (hk : ∀ (I' : cz_I) (R' : cz_R) (L' : cz_L), St T cn K N d wi_road14 wr_road14 I0 R0 I' R' ∧ ((I' x 1).toInt = (I' m 6).toInt) ∧ True → Tr X mL_law 1392 ls [] cn K N I' R' L' n w) : Tr X mL_law 710 ls [] cn K N I0 R0 L0 n w := by
  have hS0 : St T cn K N d wi_road14 wr_road14 I0 R0 I0 R0 := St.rf0 hW0
  obtain ⟨v1, c2⟩ : ∃ v, I0 x 1 = v := ⟨_, rfl⟩
  have b3 := iv1_1 hW0 tx c2
  obtain ⟨v4, c5⟩ : ∃ v, I0 m 6 = v := ⟨_, rfl⟩
  have b6 := iv15_6 hW0 tm c5
  have p7 := pre0
  rw [c2] at p7
  rw [c5] at p7
  refine tr_aload_n dL_law_710 hl1 ?_
  refine tr_aload_nS dL_law_711 hl0 ?_
  refine tr_iload dL_law_712 hl4 ?_
  refine q_iconst dL_law_714 (by decide) ?_
  intro v8 h9
  refine q_iaddE dL_law_715 (by intro j1 j2 j3 j4; omega) ?_
  intro v10 h11
  refine q_sld hs dL_law_716 (by omega) (by omega) ?_
  intro v12
  refine tr_aload_nS dL_law_717 hl0 ?_
  refine tr_iload dL_law_718 hl4 ?_
  refine q_iconst dL_law_720 (by decide) ?_
  intro v13 h14
  refine q_iaddE dL_law_721 (by intro j1 j2 j3 j4; omega) ?_
  intro v15 h16
  refine q_sld hs dL_law_722 (by omega) (by omega) ?_
  intro v17
  refine q_callVi hE (M' := mX10_turned) (as := [_, _]) dL_law_723 lk13_81 inX10_turned seX10_turned myX10_turned (by decide) ⟨by decide, by decide⟩ rfl (kR1 hS0.1 tx) (Nat.le_of_ble_eq_true rfl) rfl rfl hn hw (k_X10_turned hS0.1 tx) ?_
  rintro v22 cn' K' N' I18 R19 L20 ⟨rfl, rfl, rfl, rfl, g21, -⟩
  have hS23 := hS0.tr g21 (by decide +kernel) (by decide +kernel)
  refine tr_pop dL_law_726 rfl ?_
  refine tr_aload_n dL_law_727 hl2 ?_
  refine tr_aload_nS dL_law_728 hl0 ?_
  refine tr_iload dL_law_729 hl4 ?_
  refine q_iconst dL_law_731 (by decide) ?_
  intro v24 h25
  refine q_iaddE dL_law_732 (by intro j1 j2 j3 j4; omega) ?_
  intro v26 h27
  refine q_sld hs dL_law_733 (by omega) (by omega) ?_
  intro v28
  refine tr_aload_nS dL_law_734 hl0 ?_
  refine tr_iload dL_law_735 hl4 ?_
  refine q_iconst dL_law_737 (by decide) ?_
  intro v29 h30
  refine q_iaddE dL_law_738 (by intro j1 j2 j3 j4; omega) ?_
  intro v31 h32
  refine q_sld hs dL_law_739 (by omega) (by omega) ?_
  intro v33
  refine q_callVi hE (M' := mX12_turned) (as := [_, _]) dL_law_740 lk13_84 inX12_turned seX12_turned myX12_turned (by decide) ⟨by decide, by decide⟩ rfl (kR15 hS23.1 tm) (Nat.le_of_ble_eq_true rfl) rfl rfl hn hw (k_X12_turned hS23.1 tm) ?_
  rintro v38 cn' K' N' I34 R35 L36 ⟨rfl, rfl, rfl, rfl, rfl, g37, -⟩
  have hS39 := hS23.tr g37 (by decide +kernel) (by decide +kernel)
  refine tr_pop dL_law_743 rfl ?_
  refine tr_goto 1392 dL_law_744 (by decide) ?_
  exact hk _ _ _ ⟨hS39, (by (try rw [((hS39.cell tx (by decide +kernel)).trans c2)]); (try rw [((hS39.cell tm (by decide +kernel)).trans c5)]); (try omega)), trivial⟩
def wi_road15 : List Nat := [73, 75, 81, 768, 769, 778, 834, 960, 961, 962, 2303, 2367, 2431, 2495, 2559, 2623, 2687, 2751, 2815, 2879, 2943, 3007, 3071, 3135, 3199, 3263, 3327, 3391, 5247, 5311, 5375, 5439, 5503, 5567, 5631, 5695, 5759, 5823, 5887, 5951, 6015]
def wr_road15 : List Nat := [832, 833]
set_option maxHeartbeats 4000000 in
theorem s_road15 {X : cz_X} (hE : cz_env X) {T : Nat → Nat} {cn : Nat} {K N : Nat → Nat} {I0 : cz_I} {R0 : cz_R} {L0 : cz_L} {d : Int} (hW0 : Wf T cn K N I0 R0 d) {x : Nat} (tx : T x = 1) {m : Nat} (tm : T m = 15) {o : Nat} (tox : T o = 94) {i0 : Int32} {Ln : Nat} {xs : Nat → Int32} (hs : cz_scr X Ln xs) (hi0 : 0 ≤ i0.toInt ∧ i0.toInt + 6 ≤ (Ln : Int) ∧ (Ln : Int) ≤ 3072) {n w : Nat} (hn : n ≤ (cz_rm mL_law).cells) (hw : w ≤ (cz_rm mL_law).slots) (pre0 : (I0 x 1).toInt = (I0 m 6).toInt) {ls : Nat → Option Value} (hl0 : ls 0 = some (.float 1000000)) (hl1 : ls 1 = some (.ref x)) (hl2 : ls 2 = some (.ref m)) (hl3 : ls 3 = some (.ref o)) (hl4 : ls 4 = some (.int i0)) (hk : ∀ (I' : cz_I) (R' : cz_R) (L' : cz_L), St T cn K N d wi_road15 wr_road15 I0 R0 I' R' ∧ ((I' x 1).toInt = (I' m 6).toInt) ∧ True → Tr X mL_law 1392 ls [] cn K N I' R' L' n w) : Tr X mL_law 747 ls [] cn K N I0 R0 L0 n w := by
  have hS0 : St T cn K N d wi_road15 wr_road15 I0 R0 I0 R0 := St.rf0 hW0
  obtain ⟨v1, c2⟩ : ∃ v, I0 x 1 = v := ⟨_, rfl⟩
  have b3 := iv1_1 hW0 tx c2
  obtain ⟨v4, c5⟩ : ∃ v, I0 m 6 = v := ⟨_, rfl⟩
  have b6 := iv15_6 hW0 tm c5
  have p7 := pre0
  rw [c2] at p7
  rw [c5] at p7
  refine tr_aload_n dL_law_747 hl1 ?_
  refine tr_aload_nS dL_law_748 hl0 ?_
  refine tr_iload dL_law_749 hl4 ?_
  refine q_iconst dL_law_751 (by decide) ?_
  intro v8 h9
  refine q_iaddE dL_law_752 (by intro j1 j2 j3 j4; omega) ?_
  intro v10 h11
  refine q_sld hs dL_law_753 (by omega) (by omega) ?_
  intro v12
  refine tr_aload_nS dL_law_754 hl0 ?_
  refine tr_iload dL_law_755 hl4 ?_
  refine q_iconst dL_law_757 (by decide) ?_
  intro v13 h14
  refine q_iaddE dL_law_758 (by intro j1 j2 j3 j4; omega) ?_
  intro v15 h16
  refine q_sld hs dL_law_759 (by omega) (by omega) ?_
  intro v17
  refine q_callVi hE (M' := mX10_up) (as := [_, _]) dL_law_760 lk13_85 inX10_up seX10_up myX10_up (by decide) ⟨by decide, by decide⟩ rfl (kR1 hS0.1 tx) (Nat.le_of_ble_eq_true rfl) rfl rfl hn hw (k_X10_up hS0.1 tx) ?_
  rintro v22 cn' K' N' I18 R19 L20 ⟨rfl, rfl, rfl, rfl, g21, -⟩
  have hS23 := hS0.tr g21 (by decide +kernel) (by decide +kernel)
  refine tr_pop dL_law_763 rfl ?_
  refine tr_aload_n dL_law_764 hl2 ?_
  refine tr_aload_nS dL_law_765 hl0 ?_
  refine tr_iload dL_law_766 hl4 ?_
  refine q_iconst dL_law_768 (by decide) ?_
  intro v24 h25
  refine q_iaddE dL_law_769 (by intro j1 j2 j3 j4; omega) ?_
  intro v26 h27
  refine q_sld hs dL_law_770 (by omega) (by omega) ?_
  intro v28
  refine tr_aload_nS dL_law_771 hl0 ?_
  refine tr_iload dL_law_772 hl4 ?_
  refine q_iconst dL_law_774 (by decide) ?_
  intro v29 h30
  refine q_iaddE dL_law_775 (by intro j1 j2 j3 j4; omega) ?_
  intro v31 h32
  refine q_sld hs dL_law_776 (by omega) (by omega) ?_
  intro v33
  refine q_callVi hE (M' := mX12_up) (as := [_, _]) dL_law_777 lk13_88 inX12_up seX12_up myX12_up (by decide) ⟨by decide, by decide⟩ rfl (kR15 hS23.1 tm) (Nat.le_of_ble_eq_true rfl) rfl rfl hn hw (k_X12_up hS23.1 tm) ?_
  rintro v38 cn' K' N' I34 R35 L36 ⟨rfl, rfl, rfl, rfl, rfl, g37, -⟩
  have hS39 := hS23.tr g37 (by decide +kernel) (by decide +kernel)
  refine tr_pop dL_law_780 rfl ?_
  refine tr_goto 1392 dL_law_781 (by decide) ?_
  exact hk _ _ _ ⟨hS39, (by (try rw [((hS39.cell tx (by decide +kernel)).trans c2)]); (try rw [((hS39.cell tm (by decide +kernel)).trans c5)]); (try omega)), trivial⟩
def wi_road16 : List Nat := [73, 75, 81, 768, 769, 778, 834, 960, 961, 962, 2303, 2367, 2431, 2495, 2559, 2623, 2687, 2751, 2815, 2879, 2943, 3007, 3071, 3135, 3199, 3263, 3327, 3391, 5247, 5311, 5375, 5439, 5503, 5567, 5631, 5695, 5759, 5823, 5887, 5951, 6015]
def wr_road16 : List Nat := [832, 833]
set_option maxHeartbeats 4000000 in
theorem s_road16 {X : cz_X} (hE : cz_env X) {T : Nat → Nat} {cn : Nat} {K N : Nat → Nat} {I0 : cz_I} {R0 : cz_R} {L0 : cz_L} {d : Int} (hW0 : Wf T cn K N I0 R0 d) {x : Nat} (tx : T x = 1) {m : Nat} (tm : T m = 15) {o : Nat} (tox : T o = 94) {i0 : Int32} {Ln : Nat} {xs : Nat → Int32} (hs : cz_scr X Ln xs) (hi0 : 0 ≤ i0.toInt ∧ i0.toInt + 6 ≤ (Ln : Int) ∧ (Ln : Int) ≤ 3072) {n w : Nat} (hn : n ≤ (cz_rm mL_law).cells) (hw : w ≤ (cz_rm mL_law).slots) (pre0 : (I0 x 1).toInt = (I0 m 6).toInt) {ls : Nat → Option Value} (hl0 : ls 0 = some (.float 1000000)) (hl1 : ls 1 = some (.ref x)) (hl2 : ls 2 = some (.ref m)) (hl3 : ls 3 = some (.ref o)) (hl4 : ls 4 = some (.int i0)) (hk : ∀ (I' : cz_I) (R' : cz_R) (L' : cz_L), St T cn K N d wi_road16 wr_road16 I0 R0 I' R' ∧ ((I' x 1).toInt = (I' m 6).toInt) ∧ True → Tr X mL_law 1392 ls [] cn K N I' R' L' n w) : Tr X mL_law 784 ls [] cn K N I0 R0 L0 n w := by
  have hS0 : St T cn K N d wi_road16 wr_road16 I0 R0 I0 R0 := St.rf0 hW0
  obtain ⟨v1, c2⟩ : ∃ v, I0 x 1 = v := ⟨_, rfl⟩
  have b3 := iv1_1 hW0 tx c2
  obtain ⟨v4, c5⟩ : ∃ v, I0 m 6 = v := ⟨_, rfl⟩
  have b6 := iv15_6 hW0 tm c5
  have p7 := pre0
  rw [c2] at p7
  rw [c5] at p7
  refine tr_aload_n dL_law_784 hl1 ?_
  refine tr_aload_nS dL_law_785 hl0 ?_
  refine tr_iload dL_law_786 hl4 ?_
  refine q_iconst dL_law_788 (by decide) ?_
  intro v8 h9
  refine q_iaddE dL_law_789 (by intro j1 j2 j3 j4; omega) ?_
  intro v10 h11
  refine q_sld hs dL_law_790 (by omega) (by omega) ?_
  intro v12
  refine tr_aload_nS dL_law_791 hl0 ?_
  refine tr_iload dL_law_792 hl4 ?_
  refine q_iconst dL_law_794 (by decide) ?_
  intro v13 h14
  refine q_iaddE dL_law_795 (by intro j1 j2 j3 j4; omega) ?_
  intro v15 h16
  refine q_sld hs dL_law_796 (by omega) (by omega) ?_
  intro v17
  refine q_callVi hE (M' := mX10_cheese) (as := [_, _]) dL_law_797 lk13_89 inX10_cheese seX10_cheese myX10_cheese (by decide) ⟨by decide, by decide⟩ rfl (kR1 hS0.1 tx) (Nat.le_of_ble_eq_true rfl) rfl rfl hn hw (k_X10_cheese hS0.1 tx) ?_
  rintro v22 cn' K' N' I18 R19 L20 ⟨rfl, rfl, rfl, rfl, g21, -⟩
  have hS23 := hS0.tr g21 (by decide +kernel) (by decide +kernel)
  refine tr_pop dL_law_800 rfl ?_
  refine tr_aload_n dL_law_801 hl2 ?_
  refine tr_aload_nS dL_law_802 hl0 ?_
  refine tr_iload dL_law_803 hl4 ?_
  refine q_iconst dL_law_805 (by decide) ?_
  intro v24 h25
  refine q_iaddE dL_law_806 (by intro j1 j2 j3 j4; omega) ?_
  intro v26 h27
  refine q_sld hs dL_law_807 (by omega) (by omega) ?_
  intro v28
  refine tr_aload_nS dL_law_808 hl0 ?_
  refine tr_iload dL_law_809 hl4 ?_
  refine q_iconst dL_law_811 (by decide) ?_
  intro v29 h30
  refine q_iaddE dL_law_812 (by intro j1 j2 j3 j4; omega) ?_
  intro v31 h32
  refine q_sld hs dL_law_813 (by omega) (by omega) ?_
  intro v33
  refine q_callVi hE (M' := mX12_cheese) (as := [_, _]) dL_law_814 lk13_92 inX12_cheese seX12_cheese myX12_cheese (by decide) ⟨by decide, by decide⟩ rfl (kR15 hS23.1 tm) (Nat.le_of_ble_eq_true rfl) rfl rfl hn hw (k_X12_cheese hS23.1 tm) ?_
  rintro v38 cn' K' N' I34 R35 L36 ⟨rfl, rfl, rfl, rfl, rfl, g37, -⟩
  have hS39 := hS23.tr g37 (by decide +kernel) (by decide +kernel)
  refine tr_pop dL_law_817 rfl ?_
  refine tr_goto 1392 dL_law_818 (by decide) ?_
  exact hk _ _ _ ⟨hS39, (by (try rw [((hS39.cell tx (by decide +kernel)).trans c2)]); (try rw [((hS39.cell tm (by decide +kernel)).trans c5)]); (try omega)), trivial⟩
def wi_road17 : List Nat := [73, 75, 81, 768, 769, 778, 834, 960, 961, 962, 2303, 2367, 2431, 2495, 2559, 2623, 2687, 2751, 2815, 2879, 2943, 3007, 3071, 3135, 3199, 3263, 3327, 3391, 5247, 5311, 5375, 5439, 5503, 5567, 5631, 5695, 5759, 5823, 5887, 5951, 6015]
def wr_road17 : List Nat := [832, 833]
set_option maxHeartbeats 4000000 in
theorem s_road17 {X : cz_X} (hE : cz_env X) {T : Nat → Nat} {cn : Nat} {K N : Nat → Nat} {I0 : cz_I} {R0 : cz_R} {L0 : cz_L} {d : Int} (hW0 : Wf T cn K N I0 R0 d) {x : Nat} (tx : T x = 1) {m : Nat} (tm : T m = 15) {o : Nat} (tox : T o = 94) {i0 : Int32} {Ln : Nat} {xs : Nat → Int32} (hs : cz_scr X Ln xs) (hi0 : 0 ≤ i0.toInt ∧ i0.toInt + 6 ≤ (Ln : Int) ∧ (Ln : Int) ≤ 3072) {n w : Nat} (hn : n ≤ (cz_rm mL_law).cells) (hw : w ≤ (cz_rm mL_law).slots) (pre0 : (I0 x 1).toInt = (I0 m 6).toInt) {ls : Nat → Option Value} (hl0 : ls 0 = some (.float 1000000)) (hl1 : ls 1 = some (.ref x)) (hl2 : ls 2 = some (.ref m)) (hl3 : ls 3 = some (.ref o)) (hl4 : ls 4 = some (.int i0)) (hk : ∀ (I' : cz_I) (R' : cz_R) (L' : cz_L), St T cn K N d wi_road17 wr_road17 I0 R0 I' R' ∧ ((I' x 1).toInt = (I' m 6).toInt) ∧ True → Tr X mL_law 1392 ls [] cn K N I' R' L' n w) : Tr X mL_law 821 ls [] cn K N I0 R0 L0 n w := by
  have hS0 : St T cn K N d wi_road17 wr_road17 I0 R0 I0 R0 := St.rf0 hW0
  obtain ⟨v1, c2⟩ : ∃ v, I0 x 1 = v := ⟨_, rfl⟩
  have b3 := iv1_1 hW0 tx c2
  obtain ⟨v4, c5⟩ : ∃ v, I0 m 6 = v := ⟨_, rfl⟩
  have b6 := iv15_6 hW0 tm c5
  have p7 := pre0
  rw [c2] at p7
  rw [c5] at p7
  refine tr_aload_n dL_law_821 hl1 ?_
  refine tr_aload_nS dL_law_822 hl0 ?_
  refine tr_iload dL_law_823 hl4 ?_
  refine q_iconst dL_law_825 (by decide) ?_
  intro v8 h9
  refine q_iaddE dL_law_826 (by intro j1 j2 j3 j4; omega) ?_
  intro v10 h11
  refine q_sld hs dL_law_827 (by omega) (by omega) ?_
  intro v12
  refine tr_aload_nS dL_law_828 hl0 ?_
  refine tr_iload dL_law_829 hl4 ?_
  refine q_iconst dL_law_831 (by decide) ?_
  intro v13 h14
  refine q_iaddE dL_law_832 (by intro j1 j2 j3 j4; omega) ?_
  intro v15 h16
  refine q_sld hs dL_law_833 (by omega) (by omega) ?_
  intro v17
  refine q_callVi hE (M' := mX10_vein) (as := [_, _]) dL_law_834 lk13_93 inX10_vein seX10_vein myX10_vein (by decide) ⟨by decide, by decide⟩ rfl (kR1 hS0.1 tx) (Nat.le_of_ble_eq_true rfl) rfl rfl hn hw (k_X10_vein hS0.1 tx) ?_
  rintro v22 cn' K' N' I18 R19 L20 ⟨rfl, rfl, rfl, rfl, g21, -⟩
  have hS23 := hS0.tr g21 (by decide +kernel) (by decide +kernel)
  refine tr_pop dL_law_837 rfl ?_
  refine tr_aload_n dL_law_838 hl2 ?_
  refine tr_aload_nS dL_law_839 hl0 ?_
  refine tr_iload dL_law_840 hl4 ?_
  refine q_iconst dL_law_842 (by decide) ?_
  intro v24 h25
  refine q_iaddE dL_law_843 (by intro j1 j2 j3 j4; omega) ?_
  intro v26 h27
  refine q_sld hs dL_law_844 (by omega) (by omega) ?_
  intro v28
  refine tr_aload_nS dL_law_845 hl0 ?_
  refine tr_iload dL_law_846 hl4 ?_
  refine q_iconst dL_law_848 (by decide) ?_
  intro v29 h30
  refine q_iaddE dL_law_849 (by intro j1 j2 j3 j4; omega) ?_
  intro v31 h32
  refine q_sld hs dL_law_850 (by omega) (by omega) ?_
  intro v33
  refine q_callVi hE (M' := mX12_vein) (as := [_, _]) dL_law_851 lk13_96 inX12_vein seX12_vein myX12_vein (by decide) ⟨by decide, by decide⟩ rfl (kR15 hS23.1 tm) (Nat.le_of_ble_eq_true rfl) rfl rfl hn hw (k_X12_vein hS23.1 tm) ?_
  rintro v38 cn' K' N' I34 R35 L36 ⟨rfl, rfl, rfl, rfl, rfl, g37, -⟩
  have hS39 := hS23.tr g37 (by decide +kernel) (by decide +kernel)
  refine tr_pop dL_law_854 rfl ?_
  refine tr_goto 1392 dL_law_855 (by decide) ?_
  exact hk _ _ _ ⟨hS39, (by (try rw [((hS39.cell tx (by decide +kernel)).trans c2)]); (try rw [((hS39.cell tm (by decide +kernel)).trans c5)]); (try omega)), trivial⟩
def wi_road18 : List Nat := [73, 75, 81, 768, 769, 778, 834, 960, 961, 962, 2303, 2367, 2431, 2495, 2559, 2623, 2687, 2751, 2815, 2879, 2943, 3007, 3071, 3135, 3199, 3263, 3327, 3391, 5247, 5311, 5375, 5439, 5503, 5567, 5631, 5695, 5759, 5823, 5887, 5951, 6015]
def wr_road18 : List Nat := [832, 833]
set_option maxHeartbeats 4000000 in
theorem s_road18 {X : cz_X} (hE : cz_env X) {T : Nat → Nat} {cn : Nat} {K N : Nat → Nat} {I0 : cz_I} {R0 : cz_R} {L0 : cz_L} {d : Int} (hW0 : Wf T cn K N I0 R0 d) {x : Nat} (tx : T x = 1) {m : Nat} (tm : T m = 15) {o : Nat} (tox : T o = 94) {i0 : Int32} {Ln : Nat} {xs : Nat → Int32} (hs : cz_scr X Ln xs) (hi0 : 0 ≤ i0.toInt ∧ i0.toInt + 6 ≤ (Ln : Int) ∧ (Ln : Int) ≤ 3072) {n w : Nat} (hn : n ≤ (cz_rm mL_law).cells) (hw : w ≤ (cz_rm mL_law).slots) (pre0 : (I0 x 1).toInt = (I0 m 6).toInt) {ls : Nat → Option Value} (hl0 : ls 0 = some (.float 1000000)) (hl1 : ls 1 = some (.ref x)) (hl2 : ls 2 = some (.ref m)) (hl3 : ls 3 = some (.ref o)) (hl4 : ls 4 = some (.int i0)) (hk : ∀ (I' : cz_I) (R' : cz_R) (L' : cz_L), St T cn K N d wi_road18 wr_road18 I0 R0 I' R' ∧ ((I' x 1).toInt = (I' m 6).toInt) ∧ True → Tr X mL_law 1392 ls [] cn K N I' R' L' n w) : Tr X mL_law 858 ls [] cn K N I0 R0 L0 n w := by
  have hS0 : St T cn K N d wi_road18 wr_road18 I0 R0 I0 R0 := St.rf0 hW0
  obtain ⟨v1, c2⟩ : ∃ v, I0 x 1 = v := ⟨_, rfl⟩
  have b3 := iv1_1 hW0 tx c2
  obtain ⟨v4, c5⟩ : ∃ v, I0 m 6 = v := ⟨_, rfl⟩
  have b6 := iv15_6 hW0 tm c5
  have p7 := pre0
  rw [c2] at p7
  rw [c5] at p7
  refine tr_aload_n dL_law_858 hl1 ?_
  refine tr_aload_nS dL_law_859 hl0 ?_
  refine tr_iload dL_law_860 hl4 ?_
  refine q_iconst dL_law_862 (by decide) ?_
  intro v8 h9
  refine q_iaddE dL_law_863 (by intro j1 j2 j3 j4; omega) ?_
  intro v10 h11
  refine q_sld hs dL_law_864 (by omega) (by omega) ?_
  intro v12
  refine tr_aload_nS dL_law_865 hl0 ?_
  refine tr_iload dL_law_866 hl4 ?_
  refine q_iconst dL_law_868 (by decide) ?_
  intro v13 h14
  refine q_iaddE dL_law_869 (by intro j1 j2 j3 j4; omega) ?_
  intro v15 h16
  refine q_sld hs dL_law_870 (by omega) (by omega) ?_
  intro v17
  refine q_callVi hE (M' := mX10_cause) (as := [_, _]) dL_law_871 lk13_97 inX10_cause seX10_cause myX10_cause (by decide) ⟨by decide, by decide⟩ rfl (kR1 hS0.1 tx) (Nat.le_of_ble_eq_true rfl) rfl rfl hn hw (k_X10_cause hS0.1 tx) ?_
  rintro v22 cn' K' N' I18 R19 L20 ⟨rfl, rfl, rfl, rfl, g21, -⟩
  have hS23 := hS0.tr g21 (by decide +kernel) (by decide +kernel)
  refine tr_pop dL_law_874 rfl ?_
  refine tr_aload_n dL_law_875 hl2 ?_
  refine tr_aload_nS dL_law_876 hl0 ?_
  refine tr_iload dL_law_877 hl4 ?_
  refine q_iconst dL_law_879 (by decide) ?_
  intro v24 h25
  refine q_iaddE dL_law_880 (by intro j1 j2 j3 j4; omega) ?_
  intro v26 h27
  refine q_sld hs dL_law_881 (by omega) (by omega) ?_
  intro v28
  refine tr_aload_nS dL_law_882 hl0 ?_
  refine tr_iload dL_law_883 hl4 ?_
  refine q_iconst dL_law_885 (by decide) ?_
  intro v29 h30
  refine q_iaddE dL_law_886 (by intro j1 j2 j3 j4; omega) ?_
  intro v31 h32
  refine q_sld hs dL_law_887 (by omega) (by omega) ?_
  intro v33
  refine q_callVi hE (M' := mX12_cause) (as := [_, _]) dL_law_888 lk13_100 inX12_cause seX12_cause myX12_cause (by decide) ⟨by decide, by decide⟩ rfl (kR15 hS23.1 tm) (Nat.le_of_ble_eq_true rfl) rfl rfl hn hw (k_X12_cause hS23.1 tm) ?_
  rintro v38 cn' K' N' I34 R35 L36 ⟨rfl, rfl, rfl, rfl, rfl, g37, -⟩
  have hS39 := hS23.tr g37 (by decide +kernel) (by decide +kernel)
  refine tr_pop dL_law_891 rfl ?_
  refine tr_goto 1392 dL_law_892 (by decide) ?_
  exact hk _ _ _ ⟨hS39, (by (try rw [((hS39.cell tx (by decide +kernel)).trans c2)]); (try rw [((hS39.cell tm (by decide +kernel)).trans c5)]); (try omega)), trivial⟩
def wi_road19 : List Nat := [73, 75, 81, 768, 769, 778, 834, 960, 961, 962, 2303, 2367, 2431, 2495, 2559, 2623, 2687, 2751, 2815, 2879, 2943, 3007, 3071, 3135, 3199, 3263, 3327, 3391, 5247, 5311, 5375, 5439, 5503, 5567, 5631, 5695, 5759, 5823, 5887, 5951, 6015]
def wr_road19 : List Nat := [832, 833]
set_option maxHeartbeats 4000000 in
theorem s_road19 {X : cz_X} (hE : cz_env X) {T : Nat → Nat} {cn : Nat} {K N : Nat → Nat} {I0 : cz_I} {R0 : cz_R} {L0 : cz_L} {d : Int} (hW0 : Wf T cn K N I0 R0 d) {x : Nat} (tx : T x = 1) {m : Nat} (tm : T m = 15) {o : Nat} (tox : T o = 94) {i0 : Int32} {Ln : Nat} {xs : Nat → Int32} (hs : cz_scr X Ln xs) (hi0 : 0 ≤ i0.toInt ∧ i0.toInt + 6 ≤ (Ln : Int) ∧ (Ln : Int) ≤ 3072) {n w : Nat} (hn : n ≤ (cz_rm mL_law).cells) (hw : w ≤ (cz_rm mL_law).slots) (pre0 : (I0 x 1).toInt = (I0 m 6).toInt) {ls : Nat → Option Value} (hl0 : ls 0 = some (.float 1000000)) (hl1 : ls 1 = some (.ref x)) (hl2 : ls 2 = some (.ref m)) (hl3 : ls 3 = some (.ref o)) (hl4 : ls 4 = some (.int i0)) (hk : ∀ (I' : cz_I) (R' : cz_R) (L' : cz_L), St T cn K N d wi_road19 wr_road19 I0 R0 I' R' ∧ ((I' x 1).toInt = (I' m 6).toInt) ∧ True → Tr X mL_law 1392 ls [] cn K N I' R' L' n w) : Tr X mL_law 895 ls [] cn K N I0 R0 L0 n w := by
  have hS0 : St T cn K N d wi_road19 wr_road19 I0 R0 I0 R0 := St.rf0 hW0
  obtain ⟨v1, c2⟩ : ∃ v, I0 x 1 = v := ⟨_, rfl⟩
  have b3 := iv1_1 hW0 tx c2
  obtain ⟨v4, c5⟩ : ∃ v, I0 m 6 = v := ⟨_, rfl⟩
  have b6 := iv15_6 hW0 tm c5
  have p7 := pre0
  rw [c2] at p7
  rw [c5] at p7
  refine tr_aload_n dL_law_895 hl1 ?_
  refine q_callVi hE (M' := mX10_total) (as := []) dL_law_896 lk13_101 inX10_total seX10_total myX10_total (by decide) ⟨by decide, by decide⟩ rfl (kR1 hS0.1 tx) (Nat.le_of_ble_eq_true rfl) rfl rfl hn hw (k_X10_total hS0.1 tx) ?_
  rintro v12 cn' K' N' I8 R9 L10 ⟨rfl, rfl, rfl, rfl, g11, -⟩
  have hS13 := hS0.tr g11 (by decide +kernel) (by decide +kernel)
  refine tr_pop dL_law_899 rfl ?_
  refine tr_aload_n dL_law_900 hl2 ?_
  refine q_callVi hE (M' := mX12_total) (as := []) dL_law_901 lk13_104 inX12_total seX12_total myX12_total (by decide) ⟨by decide, by decide⟩ rfl (kR15 hS13.1 tm) (Nat.le_of_ble_eq_true rfl) rfl rfl hn hw (k_X12_total hS13.1 tm) ?_
  rintro v18 cn' K' N' I14 R15 L16 ⟨rfl, rfl, rfl, rfl, rfl, g17, -⟩
  have hS19 := hS13.tr g17 (by decide +kernel) (by decide +kernel)
  refine tr_pop dL_law_904 rfl ?_
  refine tr_goto 1392 dL_law_905 (by decide) ?_
  exact hk _ _ _ ⟨hS19, (by (try rw [((hS19.cell tx (by decide +kernel)).trans c2)]); (try rw [((hS19.cell tm (by decide +kernel)).trans c5)]); (try omega)), trivial⟩
def wi_road20 : List Nat := [73, 75, 81, 768, 769, 778, 834, 960, 961, 962, 2303, 2367, 2431, 2495, 2559, 2623, 2687, 2751, 2815, 2879, 2943, 3007, 3071, 3135, 3199, 3263, 3327, 3391, 5247, 5311, 5375, 5439, 5503, 5567, 5631, 5695, 5759, 5823, 5887, 5951, 6015]
def wr_road20 : List Nat := [832, 833]
set_option maxHeartbeats 4000000 in
theorem s_road20 {X : cz_X} (hE : cz_env X) {T : Nat → Nat} {cn : Nat} {K N : Nat → Nat} {I0 : cz_I} {R0 : cz_R} {L0 : cz_L} {d : Int} (hW0 : Wf T cn K N I0 R0 d) {x : Nat} (tx : T x = 1) {m : Nat} (tm : T m = 15) {o : Nat} (tox : T o = 94) {i0 : Int32} {Ln : Nat} {xs : Nat → Int32} (hs : cz_scr X Ln xs) (hi0 : 0 ≤ i0.toInt ∧ i0.toInt + 6 ≤ (Ln : Int) ∧ (Ln : Int) ≤ 3072) {n w : Nat} (hn : n ≤ (cz_rm mL_law).cells) (hw : w ≤ (cz_rm mL_law).slots) (pre0 : (I0 x 1).toInt = (I0 m 6).toInt) {ls : Nat → Option Value} (hl0 : ls 0 = some (.float 1000000)) (hl1 : ls 1 = some (.ref x)) (hl2 : ls 2 = some (.ref m)) (hl3 : ls 3 = some (.ref o)) (hl4 : ls 4 = some (.int i0)) (hk : ∀ (I' : cz_I) (R' : cz_R) (L' : cz_L), St T cn K N d wi_road20 wr_road20 I0 R0 I' R' ∧ ((I' x 1).toInt = (I' m 6).toInt) ∧ True → Tr X mL_law 1392 ls [] cn K N I' R' L' n w) : Tr X mL_law 908 ls [] cn K N I0 R0 L0 n w := by
  have hS0 : St T cn K N d wi_road20 wr_road20 I0 R0 I0 R0 := St.rf0 hW0
  obtain ⟨v1, c2⟩ : ∃ v, I0 x 1 = v := ⟨_, rfl⟩
  have b3 := iv1_1 hW0 tx c2
  obtain ⟨v4, c5⟩ : ∃ v, I0 m 6 = v := ⟨_, rfl⟩
  have b6 := iv15_6 hW0 tm c5
  have p7 := pre0
  rw [c2] at p7
  rw [c5] at p7
  refine tr_aload_n dL_law_908 hl1 ?_
  refine tr_aload_nS dL_law_909 hl0 ?_
  refine tr_iload dL_law_910 hl4 ?_
  refine q_iconst dL_law_912 (by decide) ?_
  intro v8 h9
  refine q_iaddE dL_law_913 (by intro j1 j2 j3 j4; omega) ?_
  intro v10 h11
  refine q_sld hs dL_law_914 (by omega) (by omega) ?_
  intro v12
  refine q_callVi hE (M' := mX10_without) (as := [_]) dL_law_915 lk13_105 inX10_without seX10_without myX10_without (by decide) ⟨by decide, by decide⟩ rfl (kR1 hS0.1 tx) (Nat.le_of_ble_eq_true rfl) rfl rfl hn hw (k_X10_without hS0.1 tx) ?_
  rintro v17 cn' K' N' I13 R14 L15 ⟨rfl, rfl, rfl, rfl, g16, -⟩
  have hS18 := hS0.tr g16 (by decide +kernel) (by decide +kernel)
  refine tr_pop dL_law_918 rfl ?_
  refine tr_aload_n dL_law_919 hl2 ?_
  refine tr_aload_nS dL_law_920 hl0 ?_
  refine tr_iload dL_law_921 hl4 ?_
  refine q_iconst dL_law_923 (by decide) ?_
  intro v19 h20
  refine q_iaddE dL_law_924 (by intro j1 j2 j3 j4; omega) ?_
  intro v21 h22
  refine q_sld hs dL_law_925 (by omega) (by omega) ?_
  intro v23
  refine q_callVi hE (M' := mX12_without) (as := [_]) dL_law_926 lk13_108 inX12_without seX12_without myX12_without (by decide) ⟨by decide, by decide⟩ rfl (kR15 hS18.1 tm) (Nat.le_of_ble_eq_true rfl) rfl rfl hn hw (k_X12_without hS18.1 tm) ?_
  rintro v28 cn' K' N' I24 R25 L26 ⟨rfl, rfl, rfl, rfl, rfl, g27, -⟩
  have hS29 := hS18.tr g27 (by decide +kernel) (by decide +kernel)
  refine tr_pop dL_law_929 rfl ?_
  refine tr_goto 1392 dL_law_930 (by decide) ?_
  exact hk _ _ _ ⟨hS29, (by (try rw [((hS29.cell tx (by decide +kernel)).trans c2)]); (try rw [((hS29.cell tm (by decide +kernel)).trans c5)]); (try omega)), trivial⟩
def wi_road21 : List Nat := [73, 81, 768, 769, 778, 834, 960, 961, 962, 994, 2303, 2367, 2431, 2495, 2559, 2623, 2687, 2751, 2815, 2879, 2943, 3007, 3071, 3135, 3199, 3263, 3327, 3391, 5247, 5311, 5375, 5439, 5503, 5567, 5631, 5695, 5759, 5823, 5887, 5951, 6015]
def wr_road21 : List Nat := [832, 833]
set_option maxHeartbeats 4000000 in
theorem s_road21 {X : cz_X} (hE : cz_env X) {T : Nat → Nat} {cn : Nat} {K N : Nat → Nat} {I0 : cz_I} {R0 : cz_R} {L0 : cz_L} {d : Int} (hW0 : Wf T cn K N I0 R0 d) {x : Nat} (tx : T x = 1) {m : Nat} (tm : T m = 15) {o : Nat} (tox : T o = 94) {i0 : Int32} {Ln : Nat} {xs : Nat → Int32} (hs : cz_scr X Ln xs) (hi0 : 0 ≤ i0.toInt ∧ i0.toInt + 6 ≤ (Ln : Int) ∧ (Ln : Int) ≤ 3072) {n w : Nat} (hn : n ≤ (cz_rm mL_law).cells) (hw : w ≤ (cz_rm mL_law).slots) (pre0 : (I0 x 1).toInt = (I0 m 6).toInt) {ls : Nat → Option Value} (hl0 : ls 0 = some (.float 1000000)) (hl1 : ls 1 = some (.ref x)) (hl2 : ls 2 = some (.ref m)) (hl3 : ls 3 = some (.ref o)) (hl4 : ls 4 = some (.int i0)) (hk : ∀ (I' : cz_I) (R' : cz_R) (L' : cz_L), St T cn K N d wi_road21 wr_road21 I0 R0 I' R' ∧ ((I' x 1).toInt = (I' m 6).toInt) ∧ True → Tr X mL_law 1392 ls [] cn K N I' R' L' n w) : Tr X mL_law 933 ls [] cn K N I0 R0 L0 n w := by
  have hS0 : St T cn K N d wi_road21 wr_road21 I0 R0 I0 R0 := St.rf0 hW0
  obtain ⟨v1, c2⟩ : ∃ v, I0 x 1 = v := ⟨_, rfl⟩
  have b3 := iv1_1 hW0 tx c2
  obtain ⟨v4, c5⟩ : ∃ v, I0 m 6 = v := ⟨_, rfl⟩
  have b6 := iv15_6 hW0 tm c5
  have p7 := pre0
  rw [c2] at p7
  rw [c5] at p7
  refine tr_aload_n dL_law_933 hl1 ?_
  refine q_callVi hE (M' := mX10_wake) (as := []) dL_law_934 lk13_109 inX10_wake seX10_wake myX10_wake (by decide) ⟨by decide, by decide⟩ rfl (kR1 hS0.1 tx) (Nat.le_of_ble_eq_true rfl) rfl rfl hn hw (k_X10_wake hS0.1 tx) ?_
  rintro v12 cn' K' N' I8 R9 L10 ⟨rfl, rfl, rfl, rfl, g11, -⟩
  have hS13 := hS0.tr g11 (by decide +kernel) (by decide +kernel)
  refine tr_pop dL_law_937 rfl ?_
  refine tr_aload_n dL_law_938 hl2 ?_
  refine q_callVi hE (M' := mX12_wake) (as := []) dL_law_939 lk13_112 inX12_wake seX12_wake myX12_wake (by decide) ⟨by decide, by decide⟩ rfl (kR15 hS13.1 tm) (Nat.le_of_ble_eq_true rfl) rfl rfl hn hw (k_X12_wake hS13.1 tm) ?_
  rintro v18 cn' K' N' I14 R15 L16 ⟨rfl, rfl, rfl, rfl, rfl, g17, -⟩
  have hS19 := hS13.tr g17 (by decide +kernel) (by decide +kernel)
  refine tr_pop dL_law_942 rfl ?_
  refine tr_goto 1392 dL_law_943 (by decide) ?_
  exact hk _ _ _ ⟨hS19, (by (try rw [((hS19.cell tx (by decide +kernel)).trans c2)]); (try rw [((hS19.cell tm (by decide +kernel)).trans c5)]); (try omega)), trivial⟩
def wi_road22 : List Nat := [73, 81, 768, 769, 778, 834, 960, 961, 962, 994, 2303, 2367, 2431, 2495, 2559, 2623, 2687, 2751, 2815, 2879, 2943, 3007, 3071, 3135, 3199, 3263, 3327, 3391, 5247, 5311, 5375, 5439, 5503, 5567, 5631, 5695, 5759, 5823, 5887, 5951, 6015]
def wr_road22 : List Nat := [832, 833]
set_option maxHeartbeats 4000000 in
theorem s_road22 {X : cz_X} (hE : cz_env X) {T : Nat → Nat} {cn : Nat} {K N : Nat → Nat} {I0 : cz_I} {R0 : cz_R} {L0 : cz_L} {d : Int} (hW0 : Wf T cn K N I0 R0 d) {x : Nat} (tx : T x = 1) {m : Nat} (tm : T m = 15) {o : Nat} (tox : T o = 94) {i0 : Int32} {Ln : Nat} {xs : Nat → Int32} (hs : cz_scr X Ln xs) (hi0 : 0 ≤ i0.toInt ∧ i0.toInt + 6 ≤ (Ln : Int) ∧ (Ln : Int) ≤ 3072) {n w : Nat} (hn : n ≤ (cz_rm mL_law).cells) (hw : w ≤ (cz_rm mL_law).slots) (pre0 : (I0 x 1).toInt = (I0 m 6).toInt) {ls : Nat → Option Value} (hl0 : ls 0 = some (.float 1000000)) (hl1 : ls 1 = some (.ref x)) (hl2 : ls 2 = some (.ref m)) (hl3 : ls 3 = some (.ref o)) (hl4 : ls 4 = some (.int i0)) (hk : ∀ (I' : cz_I) (R' : cz_R) (L' : cz_L), St T cn K N d wi_road22 wr_road22 I0 R0 I' R' ∧ ((I' x 1).toInt = (I' m 6).toInt) ∧ True → Tr X mL_law 1392 ls [] cn K N I' R' L' n w) : Tr X mL_law 946 ls [] cn K N I0 R0 L0 n w := by
  have hS0 : St T cn K N d wi_road22 wr_road22 I0 R0 I0 R0 := St.rf0 hW0
  obtain ⟨v1, c2⟩ : ∃ v, I0 x 1 = v := ⟨_, rfl⟩
  have b3 := iv1_1 hW0 tx c2
  obtain ⟨v4, c5⟩ : ∃ v, I0 m 6 = v := ⟨_, rfl⟩
  have b6 := iv15_6 hW0 tm c5
  have p7 := pre0
  rw [c2] at p7
  rw [c5] at p7
  refine tr_aload_n dL_law_946 hl1 ?_
  refine q_callVi hE (M' := mX10_wakeTotal) (as := []) dL_law_947 lk13_113 inX10_wakeTotal seX10_wakeTotal myX10_wakeTotal (by decide) ⟨by decide, by decide⟩ rfl (kR1 hS0.1 tx) (Nat.le_of_ble_eq_true rfl) rfl rfl hn hw (k_X10_wakeTotal hS0.1 tx) ?_
  rintro v12 cn' K' N' I8 R9 L10 ⟨rfl, rfl, rfl, rfl, g11, -⟩
  have hS13 := hS0.tr g11 (by decide +kernel) (by decide +kernel)
  refine tr_pop dL_law_950 rfl ?_
  refine tr_aload_n dL_law_951 hl2 ?_
  refine q_callVi hE (M' := mX12_wakeTotal) (as := []) dL_law_952 lk13_116 inX12_wakeTotal seX12_wakeTotal myX12_wakeTotal (by decide) ⟨by decide, by decide⟩ rfl (kR15 hS13.1 tm) (Nat.le_of_ble_eq_true rfl) rfl rfl hn hw (k_X12_wakeTotal hS13.1 tm) ?_
  rintro v18 cn' K' N' I14 R15 L16 ⟨rfl, rfl, rfl, rfl, rfl, g17, -⟩
  have hS19 := hS13.tr g17 (by decide +kernel) (by decide +kernel)
  refine tr_pop dL_law_955 rfl ?_
  refine tr_goto 1392 dL_law_956 (by decide) ?_
  exact hk _ _ _ ⟨hS19, (by (try rw [((hS19.cell tx (by decide +kernel)).trans c2)]); (try rw [((hS19.cell tm (by decide +kernel)).trans c5)]); (try omega)), trivial⟩
def wi_road23 : List Nat := [73, 75, 81, 768, 769, 778, 834, 960, 961, 962, 2303, 2367, 2431, 2495, 2559, 2623, 2687, 2751, 2815, 2879, 2943, 3007, 3071, 3135, 3199, 3263, 3327, 3391, 5247, 5311, 5375, 5439, 5503, 5567, 5631, 5695, 5759, 5823, 5887, 5951, 6015]
def wr_road23 : List Nat := [832, 833]
set_option maxHeartbeats 4000000 in
theorem s_road23 {X : cz_X} (hE : cz_env X) {T : Nat → Nat} {cn : Nat} {K N : Nat → Nat} {I0 : cz_I} {R0 : cz_R} {L0 : cz_L} {d : Int} (hW0 : Wf T cn K N I0 R0 d) {x : Nat} (tx : T x = 1) {m : Nat} (tm : T m = 15) {o : Nat} (tox : T o = 94) {i0 : Int32} {Ln : Nat} {xs : Nat → Int32} (hs : cz_scr X Ln xs) (hi0 : 0 ≤ i0.toInt ∧ i0.toInt + 6 ≤ (Ln : Int) ∧ (Ln : Int) ≤ 3072) {n w : Nat} (hn : n ≤ (cz_rm mL_law).cells) (hw : w ≤ (cz_rm mL_law).slots) (pre0 : (I0 x 1).toInt = (I0 m 6).toInt) {ls : Nat → Option Value} (hl0 : ls 0 = some (.float 1000000)) (hl1 : ls 1 = some (.ref x)) (hl2 : ls 2 = some (.ref m)) (hl3 : ls 3 = some (.ref o)) (hl4 : ls 4 = some (.int i0)) (hk : ∀ (I' : cz_I) (R' : cz_R) (L' : cz_L), St T cn K N d wi_road23 wr_road23 I0 R0 I' R' ∧ ((I' x 1).toInt = (I' m 6).toInt) ∧ True → Tr X mL_law 1392 ls [] cn K N I' R' L' n w) : Tr X mL_law 959 ls [] cn K N I0 R0 L0 n w := by
  have hS0 : St T cn K N d wi_road23 wr_road23 I0 R0 I0 R0 := St.rf0 hW0
  obtain ⟨v1, c2⟩ : ∃ v, I0 x 1 = v := ⟨_, rfl⟩
  have b3 := iv1_1 hW0 tx c2
  obtain ⟨v4, c5⟩ : ∃ v, I0 m 6 = v := ⟨_, rfl⟩
  have b6 := iv15_6 hW0 tm c5
  have p7 := pre0
  rw [c2] at p7
  rw [c5] at p7
  refine tr_aload_n dL_law_959 hl1 ?_
  refine q_callVi hE (M' := mX10_fewest) (as := []) dL_law_960 lk13_117 inX10_fewest seX10_fewest myX10_fewest (by decide) ⟨by decide, by decide⟩ rfl (kR1 hS0.1 tx) (Nat.le_of_ble_eq_true rfl) rfl rfl hn hw (k_X10_fewest hS0.1 tx) ?_
  rintro v12 cn' K' N' I8 R9 L10 ⟨rfl, rfl, rfl, rfl, g11, -⟩
  have hS13 := hS0.tr g11 (by decide +kernel) (by decide +kernel)
  refine tr_pop dL_law_963 rfl ?_
  refine tr_aload_n dL_law_964 hl2 ?_
  refine q_callVi hE (M' := mX12_fewest) (as := []) dL_law_965 lk13_120 inX12_fewest seX12_fewest myX12_fewest (by decide) ⟨by decide, by decide⟩ rfl (kR15 hS13.1 tm) (Nat.le_of_ble_eq_true rfl) rfl rfl hn hw (k_X12_fewest hS13.1 tm) ?_
  rintro v18 cn' K' N' I14 R15 L16 ⟨rfl, rfl, rfl, rfl, rfl, g17, -⟩
  have hS19 := hS13.tr g17 (by decide +kernel) (by decide +kernel)
  refine tr_pop dL_law_968 rfl ?_
  refine tr_goto 1392 dL_law_969 (by decide) ?_
  exact hk _ _ _ ⟨hS19, (by (try rw [((hS19.cell tx (by decide +kernel)).trans c2)]); (try rw [((hS19.cell tm (by decide +kernel)).trans c5)]); (try omega)), trivial⟩
def wi_road24 : List Nat := [73, 75, 81, 768, 769, 778, 834, 960, 961, 962, 2303, 2367, 2431, 2495, 2559, 2623, 2687, 2751, 2815, 2879, 2943, 3007, 3071, 3135, 3199, 3263, 3327, 3391, 5247, 5311, 5375, 5439, 5503, 5567, 5631, 5695, 5759, 5823, 5887, 5951, 6015]
def wr_road24 : List Nat := [832, 833]
set_option maxHeartbeats 4000000 in
theorem s_road24 {X : cz_X} (hE : cz_env X) {T : Nat → Nat} {cn : Nat} {K N : Nat → Nat} {I0 : cz_I} {R0 : cz_R} {L0 : cz_L} {d : Int} (hW0 : Wf T cn K N I0 R0 d) {x : Nat} (tx : T x = 1) {m : Nat} (tm : T m = 15) {o : Nat} (tox : T o = 94) {i0 : Int32} {Ln : Nat} {xs : Nat → Int32} (hs : cz_scr X Ln xs) (hi0 : 0 ≤ i0.toInt ∧ i0.toInt + 6 ≤ (Ln : Int) ∧ (Ln : Int) ≤ 3072) {n w : Nat} (hn : n ≤ (cz_rm mL_law).cells) (hw : w ≤ (cz_rm mL_law).slots) (pre0 : (I0 x 1).toInt = (I0 m 6).toInt) {ls : Nat → Option Value} (hl0 : ls 0 = some (.float 1000000)) (hl1 : ls 1 = some (.ref x)) (hl2 : ls 2 = some (.ref m)) (hl3 : ls 3 = some (.ref o)) (hl4 : ls 4 = some (.int i0)) (hk : ∀ (I' : cz_I) (R' : cz_R) (L' : cz_L), St T cn K N d wi_road24 wr_road24 I0 R0 I' R' ∧ ((I' x 1).toInt = (I' m 6).toInt) ∧ True → Tr X mL_law 1392 ls [] cn K N I' R' L' n w) : Tr X mL_law 972 ls [] cn K N I0 R0 L0 n w := by
  have hS0 : St T cn K N d wi_road24 wr_road24 I0 R0 I0 R0 := St.rf0 hW0
  obtain ⟨v1, c2⟩ : ∃ v, I0 x 1 = v := ⟨_, rfl⟩
  have b3 := iv1_1 hW0 tx c2
  obtain ⟨v4, c5⟩ : ∃ v, I0 m 6 = v := ⟨_, rfl⟩
  have b6 := iv15_6 hW0 tm c5
  have p7 := pre0
  rw [c2] at p7
  rw [c5] at p7
  refine tr_aload_n dL_law_972 hl1 ?_
  refine q_callVi hE (M' := mX10_fewestBy) (as := []) dL_law_973 lk13_121 inX10_fewestBy seX10_fewestBy myX10_fewestBy (by decide) ⟨by decide, by decide⟩ rfl (kR1 hS0.1 tx) (Nat.le_of_ble_eq_true rfl) rfl rfl hn hw (k_X10_fewestBy hS0.1 tx) ?_
  rintro v12 cn' K' N' I8 R9 L10 ⟨rfl, rfl, rfl, rfl, g11, -⟩
  have hS13 := hS0.tr g11 (by decide +kernel) (by decide +kernel)
  refine tr_pop dL_law_976 rfl ?_
  refine tr_aload_n dL_law_977 hl2 ?_
  refine q_callVi hE (M' := mX12_fewestBy) (as := []) dL_law_978 lk13_124 inX12_fewestBy seX12_fewestBy myX12_fewestBy (by decide) ⟨by decide, by decide⟩ rfl (kR15 hS13.1 tm) (Nat.le_of_ble_eq_true rfl) rfl rfl hn hw (k_X12_fewestBy hS13.1 tm) ?_
  rintro v18 cn' K' N' I14 R15 L16 ⟨rfl, rfl, rfl, rfl, rfl, g17, -⟩
  have hS19 := hS13.tr g17 (by decide +kernel) (by decide +kernel)
  refine tr_pop dL_law_981 rfl ?_
  refine tr_goto 1392 dL_law_982 (by decide) ?_
  exact hk _ _ _ ⟨hS19, (by (try rw [((hS19.cell tx (by decide +kernel)).trans c2)]); (try rw [((hS19.cell tm (by decide +kernel)).trans c5)]); (try omega)), trivial⟩
def wi_road25 : List Nat := [73, 75, 81, 768, 769, 778, 834, 960, 961, 962, 2303, 2367, 2431, 2495, 2559, 2623, 2687, 2751, 2815, 2879, 2943, 3007, 3071, 3135, 3199, 3263, 3327, 3391, 5247, 5311, 5375, 5439, 5503, 5567, 5631, 5695, 5759, 5823, 5887, 5951, 6015]
def wr_road25 : List Nat := [832, 833]
set_option maxHeartbeats 4000000 in
theorem s_road25 {X : cz_X} (hE : cz_env X) {T : Nat → Nat} {cn : Nat} {K N : Nat → Nat} {I0 : cz_I} {R0 : cz_R} {L0 : cz_L} {d : Int} (hW0 : Wf T cn K N I0 R0 d) {x : Nat} (tx : T x = 1) {m : Nat} (tm : T m = 15) {o : Nat} (tox : T o = 94) {i0 : Int32} {Ln : Nat} {xs : Nat → Int32} (hs : cz_scr X Ln xs) (hi0 : 0 ≤ i0.toInt ∧ i0.toInt + 6 ≤ (Ln : Int) ∧ (Ln : Int) ≤ 3072) {n w : Nat} (hn : n ≤ (cz_rm mL_law).cells) (hw : w ≤ (cz_rm mL_law).slots) (pre0 : (I0 x 1).toInt = (I0 m 6).toInt) {ls : Nat → Option Value} (hl0 : ls 0 = some (.float 1000000)) (hl1 : ls 1 = some (.ref x)) (hl2 : ls 2 = some (.ref m)) (hl3 : ls 3 = some (.ref o)) (hl4 : ls 4 = some (.int i0)) (hk : ∀ (I' : cz_I) (R' : cz_R) (L' : cz_L), St T cn K N d wi_road25 wr_road25 I0 R0 I' R' ∧ ((I' x 1).toInt = (I' m 6).toInt) ∧ True → Tr X mL_law 1392 ls [] cn K N I' R' L' n w) : Tr X mL_law 985 ls [] cn K N I0 R0 L0 n w := by
  have hS0 : St T cn K N d wi_road25 wr_road25 I0 R0 I0 R0 := St.rf0 hW0
  obtain ⟨v1, c2⟩ : ∃ v, I0 x 1 = v := ⟨_, rfl⟩
  have b3 := iv1_1 hW0 tx c2
  obtain ⟨v4, c5⟩ : ∃ v, I0 m 6 = v := ⟨_, rfl⟩
  have b6 := iv15_6 hW0 tm c5
  have p7 := pre0
  rw [c2] at p7
  rw [c5] at p7
  refine tr_aload_n dL_law_985 hl1 ?_
  refine tr_aload_nS dL_law_986 hl0 ?_
  refine tr_iload dL_law_987 hl4 ?_
  refine q_iconst dL_law_989 (by decide) ?_
  intro v8 h9
  refine q_iaddE dL_law_990 (by intro j1 j2 j3 j4; omega) ?_
  intro v10 h11
  refine q_sld hs dL_law_991 (by omega) (by omega) ?_
  intro v12
  refine q_callVi hE (M' := mX10_fits) (as := [_]) dL_law_992 lk13_125 inX10_fits seX10_fits myX10_fits (by decide) ⟨by decide, by decide⟩ rfl (kR1 hS0.1 tx) (Nat.le_of_ble_eq_true rfl) rfl rfl hn hw (k_X10_fits hS0.1 tx) ?_
  rintro v17 cn' K' N' I13 R14 L15 ⟨rfl, rfl, rfl, rfl, g16, -⟩
  have hS18 := hS0.tr g16 (by decide +kernel) (by decide +kernel)
  refine tr_pop dL_law_995 rfl ?_
  refine tr_aload_n dL_law_996 hl2 ?_
  refine tr_aload_nS dL_law_997 hl0 ?_
  refine tr_iload dL_law_998 hl4 ?_
  refine q_iconst dL_law_1000 (by decide) ?_
  intro v19 h20
  refine q_iaddE dL_law_1001 (by intro j1 j2 j3 j4; omega) ?_
  intro v21 h22
  refine q_sld hs dL_law_1002 (by omega) (by omega) ?_
  intro v23
  refine q_callVi hE (M' := mX12_fits) (as := [_]) dL_law_1003 lk13_128 inX12_fits seX12_fits myX12_fits (by decide) ⟨by decide, by decide⟩ rfl (kR15 hS18.1 tm) (Nat.le_of_ble_eq_true rfl) rfl rfl hn hw (k_X12_fits hS18.1 tm) ?_
  rintro v28 cn' K' N' I24 R25 L26 ⟨rfl, rfl, rfl, rfl, rfl, g27, -⟩
  have hS29 := hS18.tr g27 (by decide +kernel) (by decide +kernel)
  refine tr_pop dL_law_1006 rfl ?_
  refine tr_goto 1392 dL_law_1007 (by decide) ?_
  exact hk _ _ _ ⟨hS29, (by (try rw [((hS29.cell tx (by decide +kernel)).trans c2)]); (try rw [((hS29.cell tm (by decide +kernel)).trans c5)]); (try omega)), trivial⟩
def wi_road26 : List Nat := [73, 81, 768, 769, 778, 834, 960, 961, 962, 2303, 2367, 2431, 2495, 2559, 2623, 2687, 2751, 2815, 2879, 2943, 3007, 3071, 3135, 3199, 3263, 3327, 3391, 5247, 5311, 5375, 5439, 5503, 5567, 5631, 5695, 5759, 5823, 5887, 5951, 6015]
def wr_road26 : List Nat := [832, 833]
set_option maxHeartbeats 4000000 in
theorem s_road26 {X : cz_X} (hE : cz_env X) {T : Nat → Nat} {cn : Nat} {K N : Nat → Nat} {I0 : cz_I} {R0 : cz_R} {L0 : cz_L} {d : Int} (hW0 : Wf T cn K N I0 R0 d) {x : Nat} (tx : T x = 1) {m : Nat} (tm : T m = 15) {o : Nat} (tox : T o = 94) {i0 : Int32} {Ln : Nat} {xs : Nat → Int32} (hs : cz_scr X Ln xs) (hi0 : 0 ≤ i0.toInt ∧ i0.toInt + 6 ≤ (Ln : Int) ∧ (Ln : Int) ≤ 3072) {n w : Nat} (hn : n ≤ (cz_rm mL_law).cells) (hw : w ≤ (cz_rm mL_law).slots) (pre0 : (I0 x 1).toInt = (I0 m 6).toInt) {ls : Nat → Option Value} (hl0 : ls 0 = some (.float 1000000)) (hl1 : ls 1 = some (.ref x)) (hl2 : ls 2 = some (.ref m)) (hl3 : ls 3 = some (.ref o)) (hl4 : ls 4 = some (.int i0)) (hk : ∀ (I' : cz_I) (R' : cz_R) (L' : cz_L), St T cn K N d wi_road26 wr_road26 I0 R0 I' R' ∧ ((I' x 1).toInt = (I' m 6).toInt) ∧ True → Tr X mL_law 1392 ls [] cn K N I' R' L' n w) : Tr X mL_law 1010 ls [] cn K N I0 R0 L0 n w := by
  have hS0 : St T cn K N d wi_road26 wr_road26 I0 R0 I0 R0 := St.rf0 hW0
  obtain ⟨v1, c2⟩ : ∃ v, I0 x 1 = v := ⟨_, rfl⟩
  have b3 := iv1_1 hW0 tx c2
  obtain ⟨v4, c5⟩ : ∃ v, I0 m 6 = v := ⟨_, rfl⟩
  have b6 := iv15_6 hW0 tm c5
  have p7 := pre0
  rw [c2] at p7
  rw [c5] at p7
  refine tr_aload_n dL_law_1010 hl1 ?_
  refine tr_aload_nS dL_law_1011 hl0 ?_
  refine tr_iload dL_law_1012 hl4 ?_
  refine q_iconst dL_law_1014 (by decide) ?_
  intro v8 h9
  refine q_iaddE dL_law_1015 (by intro j1 j2 j3 j4; omega) ?_
  intro v10 h11
  refine q_sld hs dL_law_1016 (by omega) (by omega) ?_
  intro v12
  refine q_callVi hE (M' := mX10_by) (as := [_]) dL_law_1017 lk13_129 inX10_by seX10_by myX10_by (by decide) ⟨by decide, by decide⟩ rfl (kR1 hS0.1 tx) (Nat.le_of_ble_eq_true rfl) rfl rfl hn hw (k_X10_by hS0.1 tx) ?_
  rintro v17 cn' K' N' I13 R14 L15 ⟨rfl, rfl, rfl, rfl, g16, -⟩
  have hS18 := hS0.tr g16 (by decide +kernel) (by decide +kernel)
  refine tr_pop dL_law_1020 rfl ?_
  refine tr_aload_n dL_law_1021 hl2 ?_
  refine tr_aload_nS dL_law_1022 hl0 ?_
  refine tr_iload dL_law_1023 hl4 ?_
  refine q_iconst dL_law_1025 (by decide) ?_
  intro v19 h20
  refine q_iaddE dL_law_1026 (by intro j1 j2 j3 j4; omega) ?_
  intro v21 h22
  refine q_sld hs dL_law_1027 (by omega) (by omega) ?_
  intro v23
  refine q_callVi hE (M' := mX12_by) (as := [_]) dL_law_1028 lk13_132 inX12_by seX12_by myX12_by (by decide) ⟨by decide, by decide⟩ rfl (kR15 hS18.1 tm) (Nat.le_of_ble_eq_true rfl) rfl rfl hn hw (k_X12_by hS18.1 tm) ?_
  rintro v28 cn' K' N' I24 R25 L26 ⟨rfl, rfl, rfl, rfl, rfl, g27, -⟩
  have hS29 := hS18.tr g27 (by decide +kernel) (by decide +kernel)
  refine tr_pop dL_law_1031 rfl ?_
  refine tr_goto 1392 dL_law_1032 (by decide) ?_
  exact hk _ _ _ ⟨hS29, (by (try rw [((hS29.cell tx (by decide +kernel)).trans c2)]); (try rw [((hS29.cell tm (by decide +kernel)).trans c5)]); (try omega)), trivial⟩
def wi_road37 : List Nat := [81, 960, 961, 962]
def wr_road37 : List Nat := []
set_option maxHeartbeats 4000000 in
theorem s_road37 {X : cz_X} (hE : cz_env X) {T : Nat → Nat} {cn : Nat} {K N : Nat → Nat} {I0 : cz_I} {R0 : cz_R} {L0 : cz_L} {d : Int} (hW0 : Wf T cn K N I0 R0 d) {x : Nat} (tx : T x = 1) {m : Nat} (tm : T m = 15) {o : Nat} (tox : T o = 94) {i0 : Int32} {Ln : Nat} {xs : Nat → Int32} (hs : cz_scr X Ln xs) (hi0 : 0 ≤ i0.toInt ∧ i0.toInt + 6 ≤ (Ln : Int) ∧ (Ln : Int) ≤ 3072) {n w : Nat} (hn : n ≤ (cz_rm mL_law).cells) (hw : w ≤ (cz_rm mL_law).slots) (pre0 : (I0 x 1).toInt = (I0 m 6).toInt) {ls : Nat → Option Value} (hl0 : ls 0 = some (.float 1000000)) (hl1 : ls 1 = some (.ref x)) (hl2 : ls 2 = some (.ref m)) (hl3 : ls 3 = some (.ref o)) (hl4 : ls 4 = some (.int i0)) (hk : ∀ (I' : cz_I) (R' : cz_R) (L' : cz_L), St T cn K N d wi_road37 wr_road37 I0 R0 I' R' ∧ ((I' x 1).toInt = (I' m 6).toInt) ∧ True → Tr X mL_law 1392 ls [] cn K N I' R' L' n w) : Tr X mL_law 1289 ls [] cn K N I0 R0 L0 n w := by
  have hS0 : St T cn K N d wi_road37 wr_road37 I0 R0 I0 R0 := St.rf0 hW0
  obtain ⟨v1, c2⟩ : ∃ v, I0 x 1 = v := ⟨_, rfl⟩
  have b3 := iv1_1 hW0 tx c2
  obtain ⟨v4, c5⟩ : ∃ v, I0 m 6 = v := ⟨_, rfl⟩
  have b6 := iv15_6 hW0 tm c5
  have p7 := pre0
  rw [c2] at p7
  rw [c5] at p7
  refine tr_aload_n dL_law_1289 hl1 ?_
  refine tr_aload_nS dL_law_1290 hl0 ?_
  refine tr_iload dL_law_1291 hl4 ?_
  refine q_iconst dL_law_1293 (by decide) ?_
  intro v8 h9
  refine q_iaddE dL_law_1294 (by intro j1 j2 j3 j4; omega) ?_
  intro v10 h11
  refine q_sld hs dL_law_1295 (by omega) (by omega) ?_
  intro v12
  refine tr_aload_nS dL_law_1296 hl0 ?_
  refine tr_iload dL_law_1297 hl4 ?_
  refine q_iconst dL_law_1299 (by decide) ?_
  intro v13 h14
  refine q_iaddE dL_law_1300 (by intro j1 j2 j3 j4; omega) ?_
  intro v15 h16
  refine q_sld hs dL_law_1301 (by omega) (by omega) ?_
  intro v17
  refine q_callVi hE (M' := mX10_event) (as := [_, _]) dL_law_1302 lk13_177 inX10_event seX10_event myX10_event (by decide) ⟨by decide, by decide⟩ rfl (kR1 hS0.1 tx) (Nat.le_of_ble_eq_true rfl) rfl rfl hn hw (k_X10_event hS0.1 tx) ?_
  rintro v22 cn' K' N' I18 R19 L20 ⟨rfl, rfl, rfl, rfl, rfl, g21, -⟩
  have hS23 := hS0.tr g21 (by decide +kernel) (by decide +kernel)
  refine tr_pop dL_law_1305 rfl ?_
  refine tr_aload_n dL_law_1306 hl2 ?_
  refine tr_aload_nS dL_law_1307 hl0 ?_
  refine tr_iload dL_law_1308 hl4 ?_
  refine q_iconst dL_law_1310 (by decide) ?_
  intro v24 h25
  refine q_iaddE dL_law_1311 (by intro j1 j2 j3 j4; omega) ?_
  intro v26 h27
  refine q_sld hs dL_law_1312 (by omega) (by omega) ?_
  intro v28
  refine tr_aload_nS dL_law_1313 hl0 ?_
  refine tr_iload dL_law_1314 hl4 ?_
  refine q_iconst dL_law_1316 (by decide) ?_
  intro v29 h30
  refine q_iaddE dL_law_1317 (by intro j1 j2 j3 j4; omega) ?_
  intro v31 h32
  refine q_sld hs dL_law_1318 (by omega) (by omega) ?_
  intro v33
  refine q_callVi hE (M' := mX12_event) (as := [_, _]) dL_law_1319 lk13_180 inX12_event seX12_event myX12_event (by decide) ⟨by decide, by decide⟩ rfl (kR15 hS23.1 tm) (Nat.le_of_ble_eq_true rfl) rfl rfl hn hw (k_X12_event hS23.1 tm) ?_
  rintro v38 cn' K' N' I34 R35 L36 ⟨rfl, rfl, rfl, rfl, rfl, g37, -⟩
  have hS39 := hS23.tr g37 (by decide +kernel) (by decide +kernel)
  refine tr_pop dL_law_1322 rfl ?_
  refine tr_goto 1392 dL_law_1323 (by decide) ?_
  exact hk _ _ _ ⟨hS39, (by (try rw [((hS39.cell tx (by decide +kernel)).trans c2)]); (try rw [((hS39.cell tm (by decide +kernel)).trans c5)]); (try omega)), trivial⟩
def wi_road39 : List Nat := [960]
def wr_road39 : List Nat := []
set_option maxHeartbeats 4000000 in
theorem s_road39 {X : cz_X} (hE : cz_env X) {T : Nat → Nat} {cn : Nat} {K N : Nat → Nat} {I0 : cz_I} {R0 : cz_R} {L0 : cz_L} {d : Int} (hW0 : Wf T cn K N I0 R0 d) {x : Nat} (tx : T x = 1) {m : Nat} (tm : T m = 15) {o : Nat} (tox : T o = 94) {i0 : Int32} {Ln : Nat} {xs : Nat → Int32} (hs : cz_scr X Ln xs) (hi0 : 0 ≤ i0.toInt ∧ i0.toInt + 6 ≤ (Ln : Int) ∧ (Ln : Int) ≤ 3072) {n w : Nat} (hn : n ≤ (cz_rm mL_law).cells) (hw : w ≤ (cz_rm mL_law).slots) (pre0 : (I0 x 1).toInt = (I0 m 6).toInt) {ls : Nat → Option Value} (hl0 : ls 0 = some (.float 1000000)) (hl1 : ls 1 = some (.ref x)) (hl2 : ls 2 = some (.ref m)) (hl3 : ls 3 = some (.ref o)) (hl4 : ls 4 = some (.int i0)) (hk : ∀ (I' : cz_I) (R' : cz_R) (L' : cz_L), St T cn K N d wi_road39 wr_road39 I0 R0 I' R' ∧ ((I' x 1).toInt = (I' m 6).toInt) ∧ True → Tr X mL_law 1392 ls [] cn K N I' R' L' n w) : Tr X mL_law 1354 ls [] cn K N I0 R0 L0 n w := by
  have hS0 : St T cn K N d wi_road39 wr_road39 I0 R0 I0 R0 := St.rf0 hW0
  obtain ⟨v1, c2⟩ : ∃ v, I0 x 1 = v := ⟨_, rfl⟩
  have b3 := iv1_1 hW0 tx c2
  obtain ⟨v4, c5⟩ : ∃ v, I0 m 6 = v := ⟨_, rfl⟩
  have b6 := iv15_6 hW0 tm c5
  have p7 := pre0
  rw [c2] at p7
  rw [c5] at p7
  refine tr_aload_n dL_law_1354 hl1 ?_
  refine tr_aload_nS dL_law_1355 hl0 ?_
  refine tr_iload dL_law_1356 hl4 ?_
  refine q_iconst dL_law_1358 (by decide) ?_
  intro v8 h9
  refine q_iaddE dL_law_1359 (by intro j1 j2 j3 j4; omega) ?_
  intro v10 h11
  refine q_sld hs dL_law_1360 (by omega) (by omega) ?_
  intro v12
  refine q_callVi hE (M' := mX10_size) (as := [_]) dL_law_1361 lk13_187 inX10_size seX10_size myX10_size (by decide) ⟨by decide, by decide⟩ rfl (kR1 hS0.1 tx) (Nat.le_of_ble_eq_true rfl) rfl rfl hn hw (k_X10_size hS0.1 tx) ?_
  rintro v17 cn' K' N' I13 R14 L15 ⟨rfl, rfl, rfl, rfl, rfl, rfl, -⟩
  refine tr_pop dL_law_1364 rfl ?_
  refine tr_aload_n dL_law_1365 hl2 ?_
  refine tr_aload_nS dL_law_1366 hl0 ?_
  refine tr_iload dL_law_1367 hl4 ?_
  refine q_iconst dL_law_1369 (by decide) ?_
  intro v18 h19
  refine q_iaddE dL_law_1370 (by intro j1 j2 j3 j4; omega) ?_
  intro v20 h21
  refine q_sld hs dL_law_1371 (by omega) (by omega) ?_
  intro v22
  refine q_callVi hE (M' := mX12_size) (as := [_]) dL_law_1372 lk13_190 inX12_size seX12_size myX12_size (by decide) ⟨by decide, by decide⟩ rfl (kR15 hS0.1 tm) (Nat.le_of_ble_eq_true rfl) rfl rfl hn hw (k_X12_size hS0.1 tm) ?_
  rintro v27 cn' K' N' I23 R24 L25 ⟨rfl, rfl, rfl, rfl, rfl, g26, -⟩
  have hS28 := hS0.tr g26 (by decide +kernel) (by decide +kernel)
  refine tr_pop dL_law_1375 rfl ?_
  refine tr_goto 1392 dL_law_1376 (by decide) ?_
  exact hk _ _ _ ⟨hS28, (by (try rw [((hS28.cell tx (by decide +kernel)).trans c2)]); (try rw [((hS28.cell tm (by decide +kernel)).trans c5)]); (try omega)), trivial⟩
def wi_road40 : List Nat := [960]
def wr_road40 : List Nat := []
set_option maxHeartbeats 4000000 in
theorem s_road40 {X : cz_X} (hE : cz_env X) {T : Nat → Nat} {cn : Nat} {K N : Nat → Nat} {I0 : cz_I} {R0 : cz_R} {L0 : cz_L} {d : Int} (hW0 : Wf T cn K N I0 R0 d) {x : Nat} (tx : T x = 1) {m : Nat} (tm : T m = 15) {o : Nat} (tox : T o = 94) {i0 : Int32} {Ln : Nat} {xs : Nat → Int32} (hs : cz_scr X Ln xs) (hi0 : 0 ≤ i0.toInt ∧ i0.toInt + 6 ≤ (Ln : Int) ∧ (Ln : Int) ≤ 3072) {n w : Nat} (hn : n ≤ (cz_rm mL_law).cells) (hw : w ≤ (cz_rm mL_law).slots) (pre0 : (I0 x 1).toInt = (I0 m 6).toInt) {ls : Nat → Option Value} (hl0 : ls 0 = some (.float 1000000)) (hl1 : ls 1 = some (.ref x)) (hl2 : ls 2 = some (.ref m)) (hl3 : ls 3 = some (.ref o)) (hl4 : ls 4 = some (.int i0)) (hk : ∀ (I' : cz_I) (R' : cz_R) (L' : cz_L), St T cn K N d wi_road40 wr_road40 I0 R0 I' R' ∧ ((I' x 1).toInt = (I' m 6).toInt) ∧ True → Tr X mL_law 1392 ls [] cn K N I' R' L' n w) : Tr X mL_law 1379 ls [] cn K N I0 R0 L0 n w := by
  have hS0 : St T cn K N d wi_road40 wr_road40 I0 R0 I0 R0 := St.rf0 hW0
  obtain ⟨v1, c2⟩ : ∃ v, I0 x 1 = v := ⟨_, rfl⟩
  have b3 := iv1_1 hW0 tx c2
  obtain ⟨v4, c5⟩ : ∃ v, I0 m 6 = v := ⟨_, rfl⟩
  have b6 := iv15_6 hW0 tm c5
  have p7 := pre0
  rw [c2] at p7
  rw [c5] at p7
  refine tr_aload_n dL_law_1379 hl1 ?_
  refine q_callVi hE (M' := mX10_trouble) (as := []) dL_law_1380 lk13_191 inX10_trouble seX10_trouble myX10_trouble (by decide) ⟨by decide, by decide⟩ rfl (kR1 hS0.1 tx) (Nat.le_of_ble_eq_true rfl) rfl rfl hn hw (k_X10_trouble hS0.1 tx) ?_
  rintro v12 cn' K' N' I8 R9 L10 ⟨rfl, rfl, rfl, rfl, rfl, rfl, -⟩
  refine tr_pop dL_law_1383 rfl ?_
  refine tr_aload_n dL_law_1384 hl2 ?_
  refine q_callVi hE (M' := mX12_trouble) (as := []) dL_law_1385 lk13_194 inX12_trouble seX12_trouble myX12_trouble (by decide) ⟨by decide, by decide⟩ rfl (kR15 hS0.1 tm) (Nat.le_of_ble_eq_true rfl) rfl rfl hn hw (k_X12_trouble hS0.1 tm) ?_
  rintro v17 cn' K' N' I13 R14 L15 ⟨rfl, rfl, rfl, rfl, rfl, g16, -⟩
  have hS18 := hS0.tr g16 (by decide +kernel) (by decide +kernel)
  refine tr_pop dL_law_1388 rfl ?_
  refine tr_goto 1392 dL_law_1389 (by decide) ?_
  exact hk _ _ _ ⟨hS18, (by (try rw [((hS18.cell tx (by decide +kernel)).trans c2)]); (try rw [((hS18.cell tm (by decide +kernel)).trans c5)]); (try omega)), trivial⟩
