section CzLaw2
variable {X : cz_X} {M : cz_M} {pc : Nat} {ls : Nat → Option Value} {st : List Value} {cn : Nat} {K N : Nat → Nat} {I : cz_I} {R : cz_R} {L : cz_L} {n w : Nat}
theorem q_sld {Ln : Nat} {xs : Nat → Int32} {i : Int32} (hs : cz_scr X Ln xs) (hd : decode (cz_cc M) pc = .ok (.iaload, 1)) (h0 : 0 ≤ i.toInt) (h1 : i.toInt < (Ln : Int)) (k : ∀ v : Int32, Tr X M (pc + 1) ls (.int v :: st) cn K N I R L n w) : Tr X M pc ls (.int i :: .float 1000000 :: st) cn K N I R L n w := tr_sld hs hd (ti_in rfl h0 h1) (k _)
theorem q_sldE {Ln : Nat} {xs : Nat → Int32} {i v : Int32} (hs : cz_scr X Ln xs) (hd : decode (cz_cc M) pc = .ok (.iaload, 1)) (h0 : 0 ≤ i.toInt) (h1 : i.toInt < (Ln : Int)) (hv : xs i.toNatClampNeg = v) (k : Tr X M (pc + 1) ls (.int v :: st) cn K N I R L n w) : Tr X M pc ls (.int i :: .float 1000000 :: st) cn K N I R L n w := tr_sld hs hd (ti_in rfl h0 h1) (by rw [hv]; exact k)
theorem q_slen {Ln : Nat} {xs : Nat → Int32} (hs : cz_scr X Ln xs) (hL : Ln ≤ 3072) (hd : decode (cz_cc M) pc = .ok (.arraylength, 1)) (k : ∀ v : Int32, v.toInt = (Ln : Int) → Tr X M (pc + 1) ls (.int v :: st) cn K N I R L n w) : Tr X M pc ls (.float 1000000 :: st) cn K N I R L n w := tr_slen hs hd (k _ (by
  exact Int32.toInt_ofNat_of_lt (by omega)))
end CzLaw2
def wi_road2 : List Nat := [960]
def wr_road2 : List Nat := []
set_option maxHeartbeats 4000000 in
theorem s_road2 {X : cz_X} (hE : cz_env X) {T : Nat → Nat} {cn : Nat} {K N : Nat → Nat} {I0 : cz_I} {R0 : cz_R} {L0 : cz_L} {d : Int} (hW0 : Wf T cn K N I0 R0 d) {x : Nat} (tx : T x = 1) {m : Nat} (tm : T m = 15) {o : Nat} (tox : T o = 94) {i0 : Int32} {Ln : Nat} {xs : Nat → Int32} (hs : cz_scr X Ln xs) (hi0 : 0 ≤ i0.toInt ∧ i0.toInt + 6 ≤ (Ln : Int) ∧ (Ln : Int) ≤ 3072) {n w : Nat} (hn : n ≤ (cz_rm mL_law).cells) (hw : w ≤ (cz_rm mL_law).slots) (pre0 : (I0 x 1).toInt = (I0 m 6).toInt) {ls : Nat → Option Value} (hl0 : ls 0 = some (.float 1000000)) (hl1 : ls 1 = some (.ref x)) (hl2 : ls 2 = some (.ref m)) (hl3 : ls 3 = some (.ref o)) (hl4 : ls 4 = some (.int i0)) (hk : ∀ (I' : cz_I) (R' : cz_R) (L' : cz_L), St T cn K N d wi_road2 wr_road2 I0 R0 I' R' ∧ ((I' x 1).toInt = (I' m 6).toInt) ∧ True → Tr X mL_law 1392 ls [] cn K N I' R' L' n w) : Tr X mL_law 318 ls [] cn K N I0 R0 L0 n w := by
  have hS0 : St T cn K N d wi_road2 wr_road2 I0 R0 I0 R0 := St.rf0 hW0
  obtain ⟨v1, c2⟩ : ∃ v, I0 x 1 = v := ⟨_, rfl⟩
  have b3 := iv1_1 hW0 tx c2
  obtain ⟨v4, c5⟩ : ∃ v, I0 m 6 = v := ⟨_, rfl⟩
  have b6 := iv15_6 hW0 tm c5
  have p7 := pre0
  rw [c2] at p7
  rw [c5] at p7
  refine tr_aload_n dL_law_318 hl1 ?_
  obtain ⟨v8, c9⟩ : ∃ v, I0 x 15 = v := ⟨_, rfl⟩
  refine q_callVi hE (M' := mX10_fault) (as := []) dL_law_319 lk13_28 inX10_fault seX10_fault myX10_fault (by decide) ⟨by decide, by decide⟩ rfl (kR1 hS0.1 tx) (Nat.le_of_ble_eq_true rfl) rfl rfl hn hw (k_X10_fault hS0.1 tx) ?_
  rintro v14 cn' K' N' I10 R11 L12 ⟨rfl, rfl, rfl, rfl, rfl, rfl, p15, -⟩
  rw [c9] at p15
  refine tr_pop dL_law_322 rfl ?_
  refine tr_aload_n dL_law_323 hl2 ?_
  obtain ⟨v16, c17⟩ : ∃ v, I0 m 13 = v := ⟨_, rfl⟩
  refine q_callVi hE (M' := mX12_fault) (as := []) dL_law_324 lk13_32 inX12_fault seX12_fault myX12_fault (by decide) ⟨by decide, by decide⟩ rfl (kR15 hS0.1 tm) (Nat.le_of_ble_eq_true rfl) rfl rfl hn hw (k_X12_fault hS0.1 tm) ?_
  rintro v22 cn' K' N' I18 R19 L20 ⟨rfl, rfl, rfl, rfl, rfl, g21, p23, -⟩
  have hS24 := hS0.tr g21 (by decide +kernel) (by decide +kernel)
  rw [c17] at p23
  refine tr_pop dL_law_327 rfl ?_
  refine tr_goto 1392 dL_law_328 (by decide) ?_
  exact hk _ _ _ ⟨hS24, (by (try rw [((hS24.cell tx (by decide +kernel)).trans c2)]); (try rw [((hS24.cell tm (by decide +kernel)).trans c5)]); (try exact om_acd7a85a p7)), trivial⟩
def wi_road3 : List Nat := [960]
def wr_road3 : List Nat := []
set_option maxHeartbeats 4000000 in
theorem s_road3 {X : cz_X} (hE : cz_env X) {T : Nat → Nat} {cn : Nat} {K N : Nat → Nat} {I0 : cz_I} {R0 : cz_R} {L0 : cz_L} {d : Int} (hW0 : Wf T cn K N I0 R0 d) {x : Nat} (tx : T x = 1) {m : Nat} (tm : T m = 15) {o : Nat} (tox : T o = 94) {i0 : Int32} {Ln : Nat} {xs : Nat → Int32} (hs : cz_scr X Ln xs) (hi0 : 0 ≤ i0.toInt ∧ i0.toInt + 6 ≤ (Ln : Int) ∧ (Ln : Int) ≤ 3072) {n w : Nat} (hn : n ≤ (cz_rm mL_law).cells) (hw : w ≤ (cz_rm mL_law).slots) (pre0 : (I0 x 1).toInt = (I0 m 6).toInt) {ls : Nat → Option Value} (hl0 : ls 0 = some (.float 1000000)) (hl1 : ls 1 = some (.ref x)) (hl2 : ls 2 = some (.ref m)) (hl3 : ls 3 = some (.ref o)) (hl4 : ls 4 = some (.int i0)) (hk : ∀ (I' : cz_I) (R' : cz_R) (L' : cz_L), St T cn K N d wi_road3 wr_road3 I0 R0 I' R' ∧ ((I' x 1).toInt = (I' m 6).toInt) ∧ True → Tr X mL_law 1392 ls [] cn K N I' R' L' n w) : Tr X mL_law 331 ls [] cn K N I0 R0 L0 n w := by
  have hS0 : St T cn K N d wi_road3 wr_road3 I0 R0 I0 R0 := St.rf0 hW0
  obtain ⟨v1, c2⟩ : ∃ v, I0 x 1 = v := ⟨_, rfl⟩
  have b3 := iv1_1 hW0 tx c2
  obtain ⟨v4, c5⟩ : ∃ v, I0 m 6 = v := ⟨_, rfl⟩
  have b6 := iv15_6 hW0 tm c5
  have p7 := pre0
  rw [c2] at p7
  rw [c5] at p7
  refine tr_aload_n dL_law_331 hl1 ?_
  refine q_callVi hE (M' := mX10_where) (as := []) dL_law_332 lk13_33 inX10_where seX10_where myX10_where (by decide) ⟨by decide, by decide⟩ rfl (kR1 hS0.1 tx) (Nat.le_of_ble_eq_true rfl) rfl rfl hn hw (k_X10_where hS0.1 tx) ?_
  rintro v12 cn' K' N' I8 R9 L10 ⟨rfl, rfl, rfl, rfl, rfl, rfl, -⟩
  refine tr_pop dL_law_335 rfl ?_
  refine tr_aload_n dL_law_336 hl2 ?_
  refine q_callVi hE (M' := mX12_where) (as := []) dL_law_337 lk13_36 inX12_where seX12_where myX12_where (by decide) ⟨by decide, by decide⟩ rfl (kR15 hS0.1 tm) (Nat.le_of_ble_eq_true rfl) rfl rfl hn hw (k_X12_where hS0.1 tm) ?_
  rintro v17 cn' K' N' I13 R14 L15 ⟨rfl, rfl, rfl, rfl, rfl, g16, -⟩
  have hS18 := hS0.tr g16 (by decide +kernel) (by decide +kernel)
  refine tr_pop dL_law_340 rfl ?_
  refine tr_goto 1392 dL_law_341 (by decide) ?_
  exact hk _ _ _ ⟨hS18, (by (try rw [((hS18.cell tx (by decide +kernel)).trans c2)]); (try rw [((hS18.cell tm (by decide +kernel)).trans c5)]); (try exact om_acd7a85a p7)), trivial⟩
def wi_road37 : List Nat := [81, 960, 961, 962]
def wr_road37 : List Nat := []
set_option maxHeartbeats 4000000 in
theorem s_road37 {X : cz_X} (hE : cz_env X) {T : Nat → Nat} {cn : Nat} {K N : Nat → Nat} {I0 : cz_I} {R0 : cz_R} {L0 : cz_L} {d : Int} (hW0 : Wf T cn K N I0 R0 d) {x : Nat} (tx : T x = 1) {m : Nat} (tm : T m = 15) {o : Nat} (tox : T o = 94) {i0 : Int32} {Ln : Nat} {xs : Nat → Int32} (hs : cz_scr X Ln xs) (hi0 : 0 ≤ i0.toInt ∧ i0.toInt + 6 ≤ (Ln : Int) ∧ (Ln : Int) ≤ 3072) {n w : Nat} (hn : n ≤ (cz_rm mL_law).cells) (hw : w ≤ (cz_rm mL_law).slots) (pre0 : (I0 x 1).toInt = (I0 m 6).toInt) {ls : Nat → Option Value} (hl0 : ls 0 = some (.float 1000000)) (hl1 : ls 1 = some (.ref x)) (hl2 : ls 2 = some (.ref m)) (hl3 : ls 3 = some (.ref o)) (hl4 : ls 4 = some (.int i0)) (hk : ∀ (I' : cz_I) (R' : cz_R) (L' : cz_L), St T cn K N d wi_road37 wr_road37 I0 R0 I' R' ∧ ((I' x 1).toInt = (I' m 6).toInt) ∧ True → Tr X mL_law 1392 ls [] cn K N I' R' L' n w) : Tr X mL_law 1289 ls [] cn K N I0 R0 L0 n w := by
  have hS0 : St T cn K N d wi_road37 wr_road37 I0 R0 I0 R0 := St.rf0 hW0
  obtain ⟨v1, c2⟩ : ∃ v, I0 x 1 = v := ⟨_, rfl⟩
  have b3 := iv1_1 hW0 tx c2
  obtain ⟨v4, c5⟩ : ∃ v, I0 m 6 = v := ⟨_, rfl⟩
  have b6 := iv15_6 hW0 tm c5
  have p7 := pre0
  rw [c2] at p7
  rw [c5] at p7
  refine tr_aload_n dL_law_1289 hl1 ?_
  refine tr_aload_nS dL_law_1290 hl0 ?_
  refine tr_iload dL_law_1291 hl4 ?_
  refine q_iconst dL_law_1293 (by decide) ?_
  intro v8 h9
  refine q_iaddE dL_law_1294 (by intro j1 j2 j3 j4; exact om_17eb726d hi0.1 hi0.2.1 hi0.2.2 h9 j2) ?_
  intro v10 h11
  refine q_sld hs dL_law_1295 (by exact om_47122985 hi0.1 h9 h11) (by exact om_fa599ab8 hi0.2.1 h9 h11) ?_
  intro v12
  refine tr_aload_nS dL_law_1296 hl0 ?_
  refine tr_iload dL_law_1297 hl4 ?_
  refine q_iconst dL_law_1299 (by decide) ?_
  intro v13 h14
  refine q_iaddE dL_law_1300 (by intro j1 j2 j3 j4; exact om_571a48c2 hi0.2.1 hi0.2.2 hi0.1 h9 h11 h14 j2) ?_
  intro v15 h16
  refine q_sld hs dL_law_1301 (by exact om_3f87045e hi0.1 h9 h11 h14 h16) (by exact om_df138946 hi0.2.1 h9 h11 h14 h16) ?_
  intro v17
  refine q_callVi hE (M' := mX10_event) (as := [_, _]) dL_law_1302 lk13_177 inX10_event seX10_event myX10_event (by decide) ⟨by decide, by decide⟩ rfl (kR1 hS0.1 tx) (Nat.le_of_ble_eq_true rfl) rfl rfl hn hw (k_X10_event hS0.1 tx) ?_
  rintro v22 cn' K' N' I18 R19 L20 ⟨rfl, rfl, rfl, rfl, rfl, g21, -⟩
  have hS23 := hS0.tr g21 (by decide +kernel) (by decide +kernel)
  refine tr_pop dL_law_1305 rfl ?_
  refine tr_aload_n dL_law_1306 hl2 ?_
  refine tr_aload_nS dL_law_1307 hl0 ?_
  refine tr_iload dL_law_1308 hl4 ?_
  refine q_iconst dL_law_1310 (by decide) ?_
  intro v24 h25
  refine q_iaddE dL_law_1311 (by intro j1 j2 j3 j4; exact om_3cfd3c56 hi0.2.1 hi0.2.2 hi0.1 h9 h11 h14 h16 h25 j2) ?_
  intro v26 h27
  refine q_sld hs dL_law_1312 (by exact om_28786ce8 hi0.1 h9 h11 h14 h16 h25 h27) (by exact om_c0100a7f hi0.2.1 h9 h11 h14 h16 h25 h27) ?_
  intro v28
  refine tr_aload_nS dL_law_1313 hl0 ?_
  refine tr_iload dL_law_1314 hl4 ?_
  refine q_iconst dL_law_1316 (by decide) ?_
  intro v29 h30
  refine q_iaddE dL_law_1317 (by intro j1 j2 j3 j4; exact om_65be0549 hi0.2.1 hi0.2.2 hi0.1 h9 h11 h14 h16 h25 h27 h30 j2) ?_
  intro v31 h32
  refine q_sld hs dL_law_1318 (by exact om_e58669ef hi0.1 h9 h11 h14 h16 h25 h27 h30 h32) (by exact om_a5afb816 hi0.2.1 h9 h11 h14 h16 h25 h27 h30 h32) ?_
  intro v33
  refine q_callVi hE (M' := mX12_event) (as := [_, _]) dL_law_1319 lk13_180 inX12_event seX12_event myX12_event (by decide) ⟨by decide, by decide⟩ rfl (kR15 hS23.1 tm) (Nat.le_of_ble_eq_true rfl) rfl rfl hn hw (k_X12_event hS23.1 tm) ?_
  rintro v38 cn' K' N' I34 R35 L36 ⟨rfl, rfl, rfl, rfl, rfl, g37, -⟩
  have hS39 := hS23.tr g37 (by decide +kernel) (by decide +kernel)
  refine tr_pop dL_law_1322 rfl ?_
  refine tr_goto 1392 dL_law_1323 (by decide) ?_
  exact hk _ _ _ ⟨hS39, (by (try rw [((hS39.cell tx (by decide +kernel)).trans c2)]); (try rw [((hS39.cell tm (by decide +kernel)).trans c5)]); (try exact om_acd7a85a p7)), trivial⟩
def wi_road39 : List Nat := [960]
def wr_road39 : List Nat := []
set_option maxHeartbeats 4000000 in
theorem s_road39 {X : cz_X} (hE : cz_env X) {T : Nat → Nat} {cn : Nat} {K N : Nat → Nat} {I0 : cz_I} {R0 : cz_R} {L0 : cz_L} {d : Int} (hW0 : Wf T cn K N I0 R0 d) {x : Nat} (tx : T x = 1) {m : Nat} (tm : T m = 15) {o : Nat} (tox : T o = 94) {i0 : Int32} {Ln : Nat} {xs : Nat → Int32} (hs : cz_scr X Ln xs) (hi0 : 0 ≤ i0.toInt ∧ i0.toInt + 6 ≤ (Ln : Int) ∧ (Ln : Int) ≤ 3072) {n w : Nat} (hn : n ≤ (cz_rm mL_law).cells) (hw : w ≤ (cz_rm mL_law).slots) (pre0 : (I0 x 1).toInt = (I0 m 6).toInt) {ls : Nat → Option Value} (hl0 : ls 0 = some (.float 1000000)) (hl1 : ls 1 = some (.ref x)) (hl2 : ls 2 = some (.ref m)) (hl3 : ls 3 = some (.ref o)) (hl4 : ls 4 = some (.int i0)) (hk : ∀ (I' : cz_I) (R' : cz_R) (L' : cz_L), St T cn K N d wi_road39 wr_road39 I0 R0 I' R' ∧ ((I' x 1).toInt = (I' m 6).toInt) ∧ True → Tr X mL_law 1392 ls [] cn K N I' R' L' n w) : Tr X mL_law 1354 ls [] cn K N I0 R0 L0 n w := by
  have hS0 : St T cn K N d wi_road39 wr_road39 I0 R0 I0 R0 := St.rf0 hW0
  obtain ⟨v1, c2⟩ : ∃ v, I0 x 1 = v := ⟨_, rfl⟩
  have b3 := iv1_1 hW0 tx c2
  obtain ⟨v4, c5⟩ : ∃ v, I0 m 6 = v := ⟨_, rfl⟩
  have b6 := iv15_6 hW0 tm c5
  have p7 := pre0
  rw [c2] at p7
  rw [c5] at p7
  refine tr_aload_n dL_law_1354 hl1 ?_
  refine tr_aload_nS dL_law_1355 hl0 ?_
  refine tr_iload dL_law_1356 hl4 ?_
  refine q_iconst dL_law_1358 (by decide) ?_
  intro v8 h9
  refine q_iaddE dL_law_1359 (by intro j1 j2 j3 j4; exact om_17eb726d hi0.1 hi0.2.1 hi0.2.2 h9 j2) ?_
  intro v10 h11
  refine q_sld hs dL_law_1360 (by exact om_47122985 hi0.1 h9 h11) (by exact om_fa599ab8 hi0.2.1 h9 h11) ?_
  intro v12
  refine q_callVi hE (M' := mX10_size) (as := [_]) dL_law_1361 lk13_187 inX10_size seX10_size myX10_size (by decide) ⟨by decide, by decide⟩ rfl (kR1 hS0.1 tx) (Nat.le_of_ble_eq_true rfl) rfl rfl hn hw (k_X10_size hS0.1 tx) ?_
  rintro v17 cn' K' N' I13 R14 L15 ⟨rfl, rfl, rfl, rfl, rfl, rfl, -⟩
  refine tr_pop dL_law_1364 rfl ?_
  refine tr_aload_n dL_law_1365 hl2 ?_
  refine tr_aload_nS dL_law_1366 hl0 ?_
  refine tr_iload dL_law_1367 hl4 ?_
  refine q_iconst dL_law_1369 (by decide) ?_
  intro v18 h19
  refine q_iaddE dL_law_1370 (by intro j1 j2 j3 j4; exact om_3056c8b4 hi0.2.1 hi0.2.2 hi0.1 h9 h11 h19 j2) ?_
  intro v20 h21
  refine q_sld hs dL_law_1371 (by exact om_e67316e2 hi0.1 h9 h11 h19 h21) (by exact om_328be9fe hi0.2.1 h9 h11 h19 h21) ?_
  intro v22
  refine q_callVi hE (M' := mX12_size) (as := [_]) dL_law_1372 lk13_190 inX12_size seX12_size myX12_size (by decide) ⟨by decide, by decide⟩ rfl (kR15 hS0.1 tm) (Nat.le_of_ble_eq_true rfl) rfl rfl hn hw (k_X12_size hS0.1 tm) ?_
  rintro v27 cn' K' N' I23 R24 L25 ⟨rfl, rfl, rfl, rfl, rfl, g26, -⟩
  have hS28 := hS0.tr g26 (by decide +kernel) (by decide +kernel)
  refine tr_pop dL_law_1375 rfl ?_
  refine tr_goto 1392 dL_law_1376 (by decide) ?_
  exact hk _ _ _ ⟨hS28, (by (try rw [((hS28.cell tx (by decide +kernel)).trans c2)]); (try rw [((hS28.cell tm (by decide +kernel)).trans c5)]); (try exact om_acd7a85a p7)), trivial⟩
def wi_road40 : List Nat := [960]
def wr_road40 : List Nat := []
set_option maxHeartbeats 4000000 in
theorem s_road40 {X : cz_X} (hE : cz_env X) {T : Nat → Nat} {cn : Nat} {K N : Nat → Nat} {I0 : cz_I} {R0 : cz_R} {L0 : cz_L} {d : Int} (hW0 : Wf T cn K N I0 R0 d) {x : Nat} (tx : T x = 1) {m : Nat} (tm : T m = 15) {o : Nat} (tox : T o = 94) {i0 : Int32} {Ln : Nat} {xs : Nat → Int32} (hs : cz_scr X Ln xs) (hi0 : 0 ≤ i0.toInt ∧ i0.toInt + 6 ≤ (Ln : Int) ∧ (Ln : Int) ≤ 3072) {n w : Nat} (hn : n ≤ (cz_rm mL_law).cells) (hw : w ≤ (cz_rm mL_law).slots) (pre0 : (I0 x 1).toInt = (I0 m 6).toInt) {ls : Nat → Option Value} (hl0 : ls 0 = some (.float 1000000)) (hl1 : ls 1 = some (.ref x)) (hl2 : ls 2 = some (.ref m)) (hl3 : ls 3 = some (.ref o)) (hl4 : ls 4 = some (.int i0)) (hk : ∀ (I' : cz_I) (R' : cz_R) (L' : cz_L), St T cn K N d wi_road40 wr_road40 I0 R0 I' R' ∧ ((I' x 1).toInt = (I' m 6).toInt) ∧ True → Tr X mL_law 1392 ls [] cn K N I' R' L' n w) : Tr X mL_law 1379 ls [] cn K N I0 R0 L0 n w := by
  have hS0 : St T cn K N d wi_road40 wr_road40 I0 R0 I0 R0 := St.rf0 hW0
  obtain ⟨v1, c2⟩ : ∃ v, I0 x 1 = v := ⟨_, rfl⟩
  have b3 := iv1_1 hW0 tx c2
  obtain ⟨v4, c5⟩ : ∃ v, I0 m 6 = v := ⟨_, rfl⟩
  have b6 := iv15_6 hW0 tm c5
  have p7 := pre0
  rw [c2] at p7
  rw [c5] at p7
  refine tr_aload_n dL_law_1379 hl1 ?_
  refine q_callVi hE (M' := mX10_trouble) (as := []) dL_law_1380 lk13_191 inX10_trouble seX10_trouble myX10_trouble (by decide) ⟨by decide, by decide⟩ rfl (kR1 hS0.1 tx) (Nat.le_of_ble_eq_true rfl) rfl rfl hn hw (k_X10_trouble hS0.1 tx) ?_
  rintro v12 cn' K' N' I8 R9 L10 ⟨rfl, rfl, rfl, rfl, rfl, rfl, -⟩
  refine tr_pop dL_law_1383 rfl ?_
  refine tr_aload_n dL_law_1384 hl2 ?_
  refine q_callVi hE (M' := mX12_trouble) (as := []) dL_law_1385 lk13_194 inX12_trouble seX12_trouble myX12_trouble (by decide) ⟨by decide, by decide⟩ rfl (kR15 hS0.1 tm) (Nat.le_of_ble_eq_true rfl) rfl rfl hn hw (k_X12_trouble hS0.1 tm) ?_
  rintro v17 cn' K' N' I13 R14 L15 ⟨rfl, rfl, rfl, rfl, rfl, g16, -⟩
  have hS18 := hS0.tr g16 (by decide +kernel) (by decide +kernel)
  refine tr_pop dL_law_1388 rfl ?_
  refine tr_goto 1392 dL_law_1389 (by decide) ?_
  exact hk _ _ _ ⟨hS18, (by (try rw [((hS18.cell tx (by decide +kernel)).trans c2)]); (try rw [((hS18.cell tm (by decide +kernel)).trans c5)]); (try exact om_acd7a85a p7)), trivial⟩
