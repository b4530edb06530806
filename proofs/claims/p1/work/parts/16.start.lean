/-! ===== the law's context, out of what the Statement gives of the start ===== -/
theorem cz_str {args : Array Value} {s : State} {own tx : String} {k : Nat} (h : (Cond.stringRef own k tx).before args s = true) : ∃ a : Nat, vk_R own k tx a s := by
  have hcur : ∃ cur, s.vm.findClass own = some cur := by
    have h1 := h
    simp only [Cond.before, Cond.holds, Cond.value] at h1
    cases hc : s.vm.findClass own with
    | none => simp [hc] at h1
    | some cur => exact ⟨cur, rfl⟩
  obtain ⟨cur, hcur⟩ := hcur
  obtain ⟨k1, cf, i, a, -, -, -, -, -, hev⟩ := Cond.stringRef_spec hcur h
  exact ⟨a, vk_R.of h hev⟩
theorem cz_same {args : Array Value} {s : State} {a b tx tx' : String} {i j x y : Nat} (h : (Cond.eq (.string a i) (.string b j)).before args s = true) (h1 : vk_R a i tx x s) (h2 : vk_R b j tx' y s) : x = y := by
  have e1 : (Term.string a i).eval args s none [] s = some (.ref x) := h1.2
  have e2 : (Term.string b j).eval args s none [] s = some (.ref y) := h2.2
  simp only [Cond.before, Cond.holds, Cond.value, e1, e2] at h
  simpa using h
theorem cz_low {w : Cond} (h : w ∈ cz_T) : w ∈ lw_tbl := (List.mem_filter.mp h).1
theorem cz_insA {k : Nat} (h : k < 13) : Cond.instantiable (cz_on k) (cz_nf k) ∈ cz_T := match k, h with
  | 0, _ => ins0
  | 1, _ => ins1
  | 2, _ => ins2
  | 3, _ => ins3
  | 4, _ => ins4
  | 5, _ => ins5
  | 6, _ => ins6
  | 7, _ => ins7
  | 8, _ => ins8
  | 9, _ => ins9
  | 10, _ => ins10
  | 11, _ => ins11
  | 12, _ => ins12
  | k + 13, h => absurd h (by omega)
theorem cz_prim {args : Array Value} {s : State} {ty : FieldType} (hty : ty = .byte ∨ ty = .int ∨ ty = .long ∨ ty = .boolean) (h : (Cond.arrayClass ty).before args s = true) : ∃ cA : ClassId, ArrOfT s cA ty ∧ va_RA s cA ty := by
  obtain ⟨cA, kA, comp, h1, h2, h3⟩ := Cond.arrayClass_spec h
  refine ⟨cA, fun n z => ⟨fun k h => (by cases h), kA, h2, comp, h3⟩, ?_⟩
  rcases hty with rfl | rfl | rfl | rfl <;> exact h1
theorem cz_over {s : State} {C : String} (h : va_AO C s) : ∃ cA : ClassId, ArrOfT s cA (.object C) ∧ va_RA s cA (.object C) := by
  obtain ⟨comp, cA, kA, h1, -, h3, h4, h5⟩ := Cond.arrayOver_spec h
  exact ⟨cA, fun n z => ⟨fun k h => (by cases h), kA, h3, comp, h4⟩, kA, comp, h3, h4, h1, h5⟩
theorem cz_NFin : ∀ q ∈ cz_NF, Cond.fieldLinkNest q.1 q.2.1 q.2.2.1 q.2.2.2.1 q.2.2.2.2.1 q.2.2.2.2.2 ∈ lw_tbl := by decide +kernel
theorem cz_NMin : ∀ q ∈ cz_NM, Cond.methodLinkNest q.1 q.2.1 q.2.2.1 q.2.2.2 ∈ lw_tbl := by decide +kernel
theorem cz_AOin : ∀ C ∈ cz_AO, Cond.arrayOver (.object C) ∈ lw_tbl := by decide +kernel
set_option maxRecDepth 100000 in
set_option maxHeartbeats 4000000 in
theorem cz_strs {args : Array Value} {s : State} (b : Nat) (hts : ∀ w ∈ lw_tbl, w.before args s = true) (hgv : (Jvm.Cond.and given_1 narrow_1).before args s = true) : ∃ sA : Nat → Nat, sA 1000000 = b ∧ ∀ q ∈ cz_SR, vk_R q.1 q.2.1 q.2.2.1 (sA q.2.2.2) s := by
  have hs := flat_of_before _ hgv
  obtain ⟨a0, v0⟩ := cz_str (hts (.stringRef "EclipseCheese$Reader" 131 "cloud") (List.mem_of_getElem? (i := 684) (by decide +kernel)))
  obtain ⟨a1, v1⟩ := cz_str (hts (.stringRef "EclipseCheese$Reader" 133 "eclipse") (List.mem_of_getElem? (i := 685) (by decide +kernel)))
  obtain ⟨a2, v2⟩ := cz_str (hts (.stringRef "EclipseCheese$Reader" 135 "lamp") (List.mem_of_getElem? (i := 686) (by decide +kernel)))
  obtain ⟨a3, v3⟩ := cz_str (hts (.stringRef "EclipseCheese$Reader" 137 "shutter") (List.mem_of_getElem? (i := 687) (by decide +kernel)))
  obtain ⟨a4, v4⟩ := cz_str (hts (.stringRef "EclipseCheese$Reader" 139 "bolt") (List.mem_of_getElem? (i := 688) (by decide +kernel)))
  obtain ⟨a5, v5⟩ := cz_str (hts (.stringRef "EclipseCheese$Reader" 141 "cheese") (List.mem_of_getElem? (i := 689) (by decide +kernel)))
  obtain ⟨a6, v6⟩ := cz_str (hts (.stringRef "EclipseCheese$Reader" 143 "almanac") (List.mem_of_getElem? (i := 690) (by decide +kernel)))
  obtain ⟨a7, v7⟩ := cz_str (hts (.stringRef "EclipseCheese$Reader" 145 "turner") (List.mem_of_getElem? (i := 691) (by decide +kernel)))
  obtain ⟨a8, v8⟩ := cz_str (hts (.stringRef "EclipseCheese$Reader" 147 "call") (List.mem_of_getElem? (i := 692) (by decide +kernel)))
  obtain ⟨a9, v9⟩ := cz_str (hts (.stringRef "EclipseCheese$Reader" 149 "slice") (List.mem_of_getElem? (i := 693) (by decide +kernel)))
  obtain ⟨a10, v10⟩ := cz_str (hts (.stringRef "EclipseCheese$Reader" 151 "alp") (List.mem_of_getElem? (i := 694) (by decide +kernel)))
  obtain ⟨a11, v11⟩ := cz_str (hts (.stringRef "EclipseCheese$Reader" 203 "minutes") (List.mem_of_getElem? (i := 762) (by decide +kernel)))
  obtain ⟨a12, v12⟩ := cz_str (hts (.stringRef "EclipseCheese$Reader" 204 "huts") (List.mem_of_getElem? (i := 779) (by decide +kernel)))
  obtain ⟨a13, v13⟩ := cz_str (hts (.stringRef "EclipseCheese$Reader" 205 "prices") (List.mem_of_getElem? (i := 780) (by decide +kernel)))
  obtain ⟨a14, v14⟩ := cz_str (hts (.stringRef "EclipseCheese$Reader" 238 "down") (List.mem_of_getElem? (i := 797) (by decide +kernel)))
  obtain ⟨a15, v15⟩ := cz_str (hts (.stringRef "EclipseCheese$Reader" 234 "hut") (List.mem_of_getElem? (i := 806) (by decide +kernel)))
  obtain ⟨a16, v16⟩ := cz_str (hts (.stringRef "EclipseCheese$Reader" 268 "sees") (List.mem_of_getElem? (i := 823) (by decide +kernel)))
  obtain ⟨a17, v17⟩ := cz_str (hts (.stringRef "EclipseCheese$Reader" 270 "blind") (List.mem_of_getElem? (i := 824) (by decide +kernel)))
  obtain ⟨a18, v18⟩ := cz_str (hts (.stringRef "EclipseCheese$Reader" 272 "deaf") (List.mem_of_getElem? (i := 825) (by decide +kernel)))
  obtain ⟨a19, v19⟩ := cz_str (hts (.stringRef "EclipseCheese$Reader" 253 "from") (List.mem_of_getElem? (i := 826) (by decide +kernel)))
  obtain ⟨a20, v20⟩ := cz_str (hts (.stringRef "EclipseCheese$Reader" 124 "to") (List.mem_of_getElem? (i := 831) (by decide +kernel)))
  obtain ⟨a21, v21⟩ := cz_str (hts (.stringRef "EclipseCheese$Reader" 256 "hands") (List.mem_of_getElem? (i := 832) (by decide +kernel)))
  obtain ⟨a22, v22⟩ := cz_str (hts (.stringRef "EclipseCheese$Reader" 260 "takes") (List.mem_of_getElem? (i := 833) (by decide +kernel)))
  obtain ⟨a23, v23⟩ := cz_str (hts (.stringRef "EclipseCheese$Reader" 293 "at") (List.mem_of_getElem? (i := 845) (by decide +kernel)))
  obtain ⟨a24, v24⟩ := cz_str (hts (.stringRef "EclipseCheese$Reader" 297 "for") (List.mem_of_getElem? (i := 846) (by decide +kernel)))
  obtain ⟨a25, v25⟩ := cz_str (hts (.stringRef "EclipseCheese$Reader" 302 "costs") (List.mem_of_getElem? (i := 847) (by decide +kernel)))
  obtain ⟨a26, v26⟩ := cz_str (hts (.stringRef "EclipseCheese" 327 "no such cheese missed anything") (List.mem_of_getElem? (i := 1326) (by decide +kernel)))
  obtain ⟨a27, v27⟩ := cz_str (hts (.stringRef "EclipseCheeseModel" 164 "alp") (List.mem_of_getElem? (i := 1636) (by decide +kernel)))
  obtain ⟨a28, v28⟩ := cz_str (hts (.stringRef "EclipseCheeseModel" 248 "minutes") (List.mem_of_getElem? (i := 1654) (by decide +kernel)))
  obtain ⟨a29, v29⟩ := cz_str (hts (.stringRef "EclipseCheeseModel" 253 "huts") (List.mem_of_getElem? (i := 1674) (by decide +kernel)))
  obtain ⟨a30, v30⟩ := cz_str (hts (.stringRef "EclipseCheeseModel" 255 "prices") (List.mem_of_getElem? (i := 1675) (by decide +kernel)))
  obtain ⟨a31, v31⟩ := cz_str (hts (.stringRef "EclipseCheeseModel" 166 "cloud") (List.mem_of_getElem? (i := 1680) (by decide +kernel)))
  obtain ⟨a32, v32⟩ := cz_str (hts (.stringRef "EclipseCheeseModel" 272 "to") (List.mem_of_getElem? (i := 1689) (by decide +kernel)))
  obtain ⟨a33, v33⟩ := cz_str (hts (.stringRef "EclipseCheeseModel" 168 "eclipse") (List.mem_of_getElem? (i := 1690) (by decide +kernel)))
  obtain ⟨a34, v34⟩ := cz_str (hts (.stringRef "EclipseCheeseModel" 170 "lamp") (List.mem_of_getElem? (i := 1691) (by decide +kernel)))
  obtain ⟨a35, v35⟩ := cz_str (hts (.stringRef "EclipseCheeseModel" 172 "shutter") (List.mem_of_getElem? (i := 1692) (by decide +kernel)))
  obtain ⟨a36, v36⟩ := cz_str (hts (.stringRef "EclipseCheeseModel" 174 "bolt") (List.mem_of_getElem? (i := 1693) (by decide +kernel)))
  obtain ⟨a37, v37⟩ := cz_str (hts (.stringRef "EclipseCheeseModel" 176 "cheese") (List.mem_of_getElem? (i := 1694) (by decide +kernel)))
  obtain ⟨a38, v38⟩ := cz_str (hts (.stringRef "EclipseCheeseModel" 178 "almanac") (List.mem_of_getElem? (i := 1707) (by decide +kernel)))
  obtain ⟨a39, v39⟩ := cz_str (hts (.stringRef "EclipseCheeseModel" 180 "turner") (List.mem_of_getElem? (i := 1708) (by decide +kernel)))
  obtain ⟨a40, v40⟩ := cz_str (hts (.stringRef "EclipseCheeseModel" 182 "call") (List.mem_of_getElem? (i := 1709) (by decide +kernel)))
  obtain ⟨a41, v41⟩ := cz_str (hts (.stringRef "EclipseCheeseModel" 184 "slice") (List.mem_of_getElem? (i := 1710) (by decide +kernel)))
  obtain ⟨a42, v42⟩ := cz_str (hts (.stringRef "EclipseCheeseModel" 186 "down") (List.mem_of_getElem? (i := 1711) (by decide +kernel)))
  obtain ⟨a43, v43⟩ := cz_str (hts (.stringRef "EclipseCheeseModel" 289 "hut") (List.mem_of_getElem? (i := 1716) (by decide +kernel)))
  obtain ⟨a44, v44⟩ := cz_str (hts (.stringRef "EclipseCheeseModel" 318 "sees") (List.mem_of_getElem? (i := 1741) (by decide +kernel)))
  obtain ⟨a45, v45⟩ := cz_str (hts (.stringRef "EclipseCheeseModel" 320 "blind") (List.mem_of_getElem? (i := 1742) (by decide +kernel)))
  obtain ⟨a46, v46⟩ := cz_str (hts (.stringRef "EclipseCheeseModel" 322 "deaf") (List.mem_of_getElem? (i := 1743) (by decide +kernel)))
  obtain ⟨a47, v47⟩ := cz_str (hts (.stringRef "EclipseCheeseModel" 324 "from") (List.mem_of_getElem? (i := 1744) (by decide +kernel)))
  obtain ⟨a48, v48⟩ := cz_str (hts (.stringRef "EclipseCheeseModel" 325 "hands") (List.mem_of_getElem? (i := 1745) (by decide +kernel)))
  obtain ⟨a49, v49⟩ := cz_str (hts (.stringRef "EclipseCheeseModel" 327 "takes") (List.mem_of_getElem? (i := 1746) (by decide +kernel)))
  obtain ⟨a50, v50⟩ := cz_str (hts (.stringRef "EclipseCheeseModel" 352 "at") (List.mem_of_getElem? (i := 1754) (by decide +kernel)))
  obtain ⟨a51, v51⟩ := cz_str (hts (.stringRef "EclipseCheeseModel" 354 "for") (List.mem_of_getElem? (i := 1755) (by decide +kernel)))
  obtain ⟨a52, v52⟩ := cz_str (hts (.stringRef "EclipseCheeseModel" 356 "costs") (List.mem_of_getElem? (i := 1756) (by decide +kernel)))
  obtain rfl := cz_same (hs (.eq (.string "EclipseCheese$Reader" 151) (.string "EclipseCheeseModel" 164)) (by decide +kernel)) v10 v27
  obtain rfl := cz_same (hs (.eq (.string "EclipseCheese$Reader" 203) (.string "EclipseCheeseModel" 248)) (by decide +kernel)) v11 v28
  obtain rfl := cz_same (hs (.eq (.string "EclipseCheese$Reader" 204) (.string "EclipseCheeseModel" 253)) (by decide +kernel)) v12 v29
  obtain rfl := cz_same (hs (.eq (.string "EclipseCheese$Reader" 205) (.string "EclipseCheeseModel" 255)) (by decide +kernel)) v13 v30
  obtain rfl := cz_same (hs (.eq (.string "EclipseCheese$Reader" 131) (.string "EclipseCheeseModel" 166)) (by decide +kernel)) v0 v31
  obtain rfl := cz_same (hs (.eq (.string "EclipseCheese$Reader" 124) (.string "EclipseCheeseModel" 272)) (by decide +kernel)) v20 v32
  obtain rfl := cz_same (hs (.eq (.string "EclipseCheese$Reader" 133) (.string "EclipseCheeseModel" 168)) (by decide +kernel)) v1 v33
  obtain rfl := cz_same (hs (.eq (.string "EclipseCheese$Reader" 135) (.string "EclipseCheeseModel" 170)) (by decide +kernel)) v2 v34
  obtain rfl := cz_same (hs (.eq (.string "EclipseCheese$Reader" 137) (.string "EclipseCheeseModel" 172)) (by decide +kernel)) v3 v35
  obtain rfl := cz_same (hs (.eq (.string "EclipseCheese$Reader" 139) (.string "EclipseCheeseModel" 174)) (by decide +kernel)) v4 v36
  obtain rfl := cz_same (hs (.eq (.string "EclipseCheese$Reader" 141) (.string "EclipseCheeseModel" 176)) (by decide +kernel)) v5 v37
  obtain rfl := cz_same (hs (.eq (.string "EclipseCheese$Reader" 143) (.string "EclipseCheeseModel" 178)) (by decide +kernel)) v6 v38
  obtain rfl := cz_same (hs (.eq (.string "EclipseCheese$Reader" 145) (.string "EclipseCheeseModel" 180)) (by decide +kernel)) v7 v39
  obtain rfl := cz_same (hs (.eq (.string "EclipseCheese$Reader" 147) (.string "EclipseCheeseModel" 182)) (by decide +kernel)) v8 v40
  obtain rfl := cz_same (hs (.eq (.string "EclipseCheese$Reader" 149) (.string "EclipseCheeseModel" 184)) (by decide +kernel)) v9 v41
  obtain rfl := cz_same (hs (.eq (.string "EclipseCheese$Reader" 238) (.string "EclipseCheeseModel" 186)) (by decide +kernel)) v14 v42
  obtain rfl := cz_same (hs (.eq (.string "EclipseCheese$Reader" 234) (.string "EclipseCheeseModel" 289)) (by decide +kernel)) v15 v43
  obtain rfl := cz_same (hs (.eq (.string "EclipseCheese$Reader" 268) (.string "EclipseCheeseModel" 318)) (by decide +kernel)) v16 v44
  obtain rfl := cz_same (hs (.eq (.string "EclipseCheese$Reader" 270) (.string "EclipseCheeseModel" 320)) (by decide +kernel)) v17 v45
  obtain rfl := cz_same (hs (.eq (.string "EclipseCheese$Reader" 272) (.string "EclipseCheeseModel" 322)) (by decide +kernel)) v18 v46
  obtain rfl := cz_same (hs (.eq (.string "EclipseCheese$Reader" 253) (.string "EclipseCheeseModel" 324)) (by decide +kernel)) v19 v47
  obtain rfl := cz_same (hs (.eq (.string "EclipseCheese$Reader" 256) (.string "EclipseCheeseModel" 325)) (by decide +kernel)) v21 v48
  obtain rfl := cz_same (hs (.eq (.string "EclipseCheese$Reader" 260) (.string "EclipseCheeseModel" 327)) (by decide +kernel)) v22 v49
  obtain rfl := cz_same (hs (.eq (.string "EclipseCheese$Reader" 293) (.string "EclipseCheeseModel" 352)) (by decide +kernel)) v23 v50
  obtain rfl := cz_same (hs (.eq (.string "EclipseCheese$Reader" 297) (.string "EclipseCheeseModel" 354)) (by decide +kernel)) v24 v51
  obtain rfl := cz_same (hs (.eq (.string "EclipseCheese$Reader" 302) (.string "EclipseCheeseModel" 356)) (by decide +kernel)) v25 v52
  refine ⟨fun n => if n = 1000000 then b else [a6, a10, a23, a17, a4, a8, a5, a0, a25, a18, a14, a1, a24, a19, a21, a15, a12, a2, a11, a26, a13, a16, a3, a9, a22, a20, a7].getD n 0, by simp, ?_⟩
  unfold cz_SR
  exact List.forall_mem_cons.mpr ⟨v0, List.forall_mem_cons.mpr ⟨v1, List.forall_mem_cons.mpr ⟨v2, List.forall_mem_cons.mpr ⟨v3, List.forall_mem_cons.mpr ⟨v4, List.forall_mem_cons.mpr ⟨v5, List.forall_mem_cons.mpr ⟨v6, List.forall_mem_cons.mpr ⟨v7, List.forall_mem_cons.mpr ⟨v8, List.forall_mem_cons.mpr ⟨v9, List.forall_mem_cons.mpr ⟨v10, List.forall_mem_cons.mpr ⟨v11, List.forall_mem_cons.mpr ⟨v12, List.forall_mem_cons.mpr ⟨v13, List.forall_mem_cons.mpr ⟨v14, List.forall_mem_cons.mpr ⟨v15, List.forall_mem_cons.mpr ⟨v16, List.forall_mem_cons.mpr ⟨v17, List.forall_mem_cons.mpr ⟨v18, List.forall_mem_cons.mpr ⟨v19, List.forall_mem_cons.mpr ⟨v20, List.forall_mem_cons.mpr ⟨v21, List.forall_mem_cons.mpr ⟨v22, List.forall_mem_cons.mpr ⟨v23, List.forall_mem_cons.mpr ⟨v24, List.forall_mem_cons.mpr ⟨v25, List.forall_mem_cons.mpr ⟨v26, List.forall_mem_cons.mpr ⟨v27, List.forall_mem_cons.mpr ⟨v28, List.forall_mem_cons.mpr ⟨v29, List.forall_mem_cons.mpr ⟨v30, List.forall_mem_cons.mpr ⟨v31, List.forall_mem_cons.mpr ⟨v32, List.forall_mem_cons.mpr ⟨v33, List.forall_mem_cons.mpr ⟨v34, List.forall_mem_cons.mpr ⟨v35, List.forall_mem_cons.mpr ⟨v36, List.forall_mem_cons.mpr ⟨v37, List.forall_mem_cons.mpr ⟨v38, List.forall_mem_cons.mpr ⟨v39, List.forall_mem_cons.mpr ⟨v40, List.forall_mem_cons.mpr ⟨v41, List.forall_mem_cons.mpr ⟨v42, List.forall_mem_cons.mpr ⟨v43, List.forall_mem_cons.mpr ⟨v44, List.forall_mem_cons.mpr ⟨v45, List.forall_mem_cons.mpr ⟨v46, List.forall_mem_cons.mpr ⟨v47, List.forall_mem_cons.mpr ⟨v48, List.forall_mem_cons.mpr ⟨v49, List.forall_mem_cons.mpr ⟨v50, List.forall_mem_cons.mpr ⟨v51, List.forall_mem_cons.mpr ⟨v52, fun _ h => absurd h List.not_mem_nil⟩⟩⟩⟩⟩⟩⟩⟩⟩⟩⟩⟩⟩⟩⟩⟩⟩⟩⟩⟩⟩⟩⟩⟩⟩⟩⟩⟩⟩⟩⟩⟩⟩⟩⟩⟩⟩⟩⟩⟩⟩⟩⟩⟩⟩⟩⟩⟩⟩⟩⟩⟩⟩
theorem cz_arrs {args : Array Value} {s : State} (hts : ∀ w ∈ lw_tbl, w.before args s = true) : ∃ cA : Nat → ClassId, ∀ k, k < 9 → ArrOfT s (cA (13 + k)) (cz_ty (13 + k)) ∧ va_RA s (cA (13 + k)) (cz_ty (13 + k)) := by
  have hao : ∀ C ∈ cz_AO, va_AO C s := fun C hC => va_AO.of (hts _ (cz_AOin C hC))
  obtain ⟨c0, p0⟩ := cz_prim (ty := .byte) (Or.inl rfl) (hts _ (cz_low arc_byte))
  obtain ⟨c1, p1⟩ := cz_prim (ty := .int) (Or.inr (Or.inl rfl)) (hts _ (cz_low arc_int))
  obtain ⟨c2, p2⟩ := cz_prim (ty := .long) (Or.inr (Or.inr (Or.inl rfl))) (hts _ (cz_low arc_long))
  obtain ⟨c3, p3⟩ := cz_prim (ty := .boolean) (Or.inr (Or.inr (Or.inr rfl))) (hts _ (cz_low arc_boolean))
  obtain ⟨c4, p4⟩ := cz_over (hao RX1 (by decide +kernel))
  obtain ⟨c5, p5⟩ := cz_over (hao RX2 (by decide +kernel))
  obtain ⟨c6, p6⟩ := cz_over (hao RX3 (by decide +kernel))
  obtain ⟨c7, p7⟩ := cz_over (hao RX4 (by decide +kernel))
  obtain ⟨c8, p8⟩ := cz_over (hao RX9 (by decide +kernel))
  refine ⟨fun k => [c0, c1, c2, c3, c4, c5, c6, c7, c8].getD (k - 13) c0, fun k hk => ?_⟩
  rcases (show k = 0 ∨ k = 1 ∨ k = 2 ∨ k = 3 ∨ k = 4 ∨ k = 5 ∨ k = 6 ∨ k = 7 ∨ k = 8 by omega) with rfl | rfl | rfl | rfl | rfl | rfl | rfl | rfl | rfl
  · exact p0
  · exact p1
  · exact p2
  · exact p3
  · exact p4
  · exact p5
  · exact p6
  · exact p7
  · exact p8
theorem cz_begin {args : Array Value} {s : State} (b : Nat) (hts : ∀ w ∈ lw_tbl, w.before args s = true) (hgv : (Jvm.Cond.and given_1 narrow_1).before args s = true) : ∃ (D : va_G) (cA : Nat → ClassId) (sA : Nat → Nat), sA 1000000 = b ∧ ∀ al : Nat → Nat, cz_K (D, cA, al, sA) s := by
  obtain ⟨sA, hb, hS⟩ := cz_strs b hts hgv
  obtain ⟨cA, hA⟩ := cz_arrs hts
  have hk : ∀ k : Nat, ∃ (cC : ClassId) (iS : Nat → Nat), k < 13 → u_Kn s (cz_on k) (cz_TT k) (cz_nf k) cC iS := by
    intro k
    by_cases h : k < 13
    · obtain ⟨cC, iS, hK⟩ := u_known (C := cz_on k) (T := cz_TT k) (N := cz_nf k) (n := cz_nf k) hts (fun w hw => cz_low ((cz_cls h).2.1 w hw)) (hts _ (cz_low (cz_insA h)))
      exact ⟨cC, iS, fun _ => hK⟩
    · exact ⟨0, fun _ => 0, fun q => absurd q h⟩
  obtain ⟨dD, hdD⟩ : ∃ dD : va_G, ∀ k : Nat, k < 13 → u_Kn s (cz_on k) (cz_TT k) (cz_nf k) (dD.1 k) (dD.2 k) := ⟨(fun k => Classical.choose (hk k), fun k => Classical.choose (Classical.choose_spec (hk k))), fun k h => Classical.choose_spec (Classical.choose_spec (hk k)) h⟩
  refine ⟨dD, cA, sA, hb, fun al => ⟨⟨fun k q hq => ?_, fun k q hq => ?_⟩, fun q hq => va_Nw.of rfl (hts _ (cz_NFin q hq)), fun q hq => va_Nw.of rfl (hts _ (cz_NMin q hq)), fun C hC => va_AO.of (hts _ (cz_AOin C hC)), hS⟩⟩
  · have hlt : k < 13 := (List.getElem?_eq_some_iff.mp hq).1
    have hc := (cz_cls hlt).1
    cases Option.some.inj (hq.symm.trans hc)
    exact hdD k hlt
  · have hlt : k < 9 := by
      have := (List.getElem?_eq_some_iff.mp hq).1
      simpa [cz_tys] using this
    have hc := cz_tyat (dD, cA, al, sA) (kd := 13 + k) (by omega) (by omega)
    rw [show 13 + k - 13 = k by omega] at hc
    cases Option.some.inj (hq.symm.trans hc)
    exact hA k hlt
theorem cz_f1_of {K N : Nat → Nat} {I : cz_I} {R : cz_R} {L : cz_L} (h : cz_new0 202 K N I R L) : cz_f1 (va_up K 202 15) (va_up N 202 1) I R := by
  obtain ⟨-, h1, h2, h3, h4, -⟩ := h
  refine ⟨fun k v hk hv => by rw [va_up, if_neg (by omega)]; exact (h1 k (by omega)).trans hv, fun k v hk hv => by rw [va_up, if_neg (by omega)]; exact (h2 k (by omega)).trans hv, fun k j x hk hx => (h3 k j (by omega) hk.2).trans hx, fun k j hk => (h4 k j (by omega) hk.2).trans ?_⟩
  rw [in0, if_neg (by omega)]
theorem cz_f2_of {K N : Nat → Nat} {I : cz_I} {R : cz_R} {L : cz_L} (h : cz_new0 202 K N I R L) : cz_f2 (va_up K 202 15) (va_up N 202 1) I R := by
  obtain ⟨-, h1, h2, h3, h4, -⟩ := h
  refine ⟨fun k v hk hv => by rw [va_up, if_neg (by omega)]; exact (h1 k hk.2).trans hv, fun k v hk hv => by rw [va_up, if_neg (by omega)]; exact (h2 k hk.2).trans hv, fun k j x hk hx => (h3 k j hk.2.1 hk.2.2).trans hx, fun k j hk => (h4 k j hk.2.1 hk.2.2.1).trans ?_, (h4 183 2 (by decide) (by decide +kernel)).trans (by decide +kernel)⟩
  rw [in0, if_neg hk.2.2.2]
theorem cz_sw41 (a : Int32) : (a.toInt < 0 ∨ 40 < a.toInt) ∨ a = 0 ∨ a = 1 ∨ a = 2 ∨ a = 3 ∨ a = 4 ∨ a = 5 ∨ a = 6 ∨ a = 7 ∨ a = 8 ∨ a = 9 ∨ a = 10 ∨ a = 11 ∨ a = 12 ∨ a = 13 ∨ a = 14 ∨ a = 15 ∨ a = 16 ∨ a = 17 ∨ a = 18 ∨ a = 19 ∨ a = 20 ∨ a = 21 ∨ a = 22 ∨ a = 23 ∨ a = 24 ∨ a = 25 ∨ a = 26 ∨ a = 27 ∨ a = 28 ∨ a = 29 ∨ a = 30 ∨ a = 31 ∨ a = 32 ∨ a = 33 ∨ a = 34 ∨ a = 35 ∨ a = 36 ∨ a = 37 ∨ a = 38 ∨ a = 39 ∨ a = 40 := by
  simp only [← Int32.toInt_inj]
  have e0 : ((0 : Int32)).toInt = 0 := by decide +kernel
  have e1 : ((1 : Int32)).toInt = 1 := by decide +kernel
  have e2 : ((2 : Int32)).toInt = 2 := by decide +kernel
  have e3 : ((3 : Int32)).toInt = 3 := by decide +kernel
  have e4 : ((4 : Int32)).toInt = 4 := by decide +kernel
  have e5 : ((5 : Int32)).toInt = 5 := by decide +kernel
  have e6 : ((6 : Int32)).toInt = 6 := by decide +kernel
  have e7 : ((7 : Int32)).toInt = 7 := by decide +kernel
  have e8 : ((8 : Int32)).toInt = 8 := by decide +kernel
  have e9 : ((9 : Int32)).toInt = 9 := by decide +kernel
  have e10 : ((10 : Int32)).toInt = 10 := by decide +kernel
  have e11 : ((11 : Int32)).toInt = 11 := by decide +kernel
  have e12 : ((12 : Int32)).toInt = 12 := by decide +kernel
  have e13 : ((13 : Int32)).toInt = 13 := by decide +kernel
  have e14 : ((14 : Int32)).toInt = 14 := by decide +kernel
  have e15 : ((15 : Int32)).toInt = 15 := by decide +kernel
  have e16 : ((16 : Int32)).toInt = 16 := by decide +kernel
  have e17 : ((17 : Int32)).toInt = 17 := by decide +kernel
  have e18 : ((18 : Int32)).toInt = 18 := by decide +kernel
  have e19 : ((19 : Int32)).toInt = 19 := by decide +kernel
  have e20 : ((20 : Int32)).toInt = 20 := by decide +kernel
  have e21 : ((21 : Int32)).toInt = 21 := by decide +kernel
  have e22 : ((22 : Int32)).toInt = 22 := by decide +kernel
  have e23 : ((23 : Int32)).toInt = 23 := by decide +kernel
  have e24 : ((24 : Int32)).toInt = 24 := by decide +kernel
  have e25 : ((25 : Int32)).toInt = 25 := by decide +kernel
  have e26 : ((26 : Int32)).toInt = 26 := by decide +kernel
  have e27 : ((27 : Int32)).toInt = 27 := by decide +kernel
  have e28 : ((28 : Int32)).toInt = 28 := by decide +kernel
  have e29 : ((29 : Int32)).toInt = 29 := by decide +kernel
  have e30 : ((30 : Int32)).toInt = 30 := by decide +kernel
  have e31 : ((31 : Int32)).toInt = 31 := by decide +kernel
  have e32 : ((32 : Int32)).toInt = 32 := by decide +kernel
  have e33 : ((33 : Int32)).toInt = 33 := by decide +kernel
  have e34 : ((34 : Int32)).toInt = 34 := by decide +kernel
  have e35 : ((35 : Int32)).toInt = 35 := by decide +kernel
  have e36 : ((36 : Int32)).toInt = 36 := by decide +kernel
  have e37 : ((37 : Int32)).toInt = 37 := by decide +kernel
  have e38 : ((38 : Int32)).toInt = 38 := by decide +kernel
  have e39 : ((39 : Int32)).toInt = 39 := by decide +kernel
  have e40 : ((40 : Int32)).toInt = 40 := by decide +kernel
  omega
set_option maxRecDepth 100000 in
set_option maxHeartbeats 4000000 in
theorem law_head {X : cz_X} {xs : Nat → Int32} {Ln : Nat} {K N : Nat → Nat} {I : cz_I} {R : cz_R} {L : cz_L} (hLn : Ln ≤ 6) (hZ : cz_LZ X) (hs : cz_scr X Ln xs) (hx : cz_LX X) (hF : cz_Fr 203 I R L) (hf1 : cz_f1 K N I R) (hf2 : cz_f2 K N I R) : Tr X mL_law 23 law_ls [] 203 K N I R L 203 15311 := by
  rcases (show Ln = 0 ∨ Ln = 1 ∨ Ln = 2 ∨ Ln = 3 ∨ Ln = 4 ∨ Ln = 5 ∨ Ln = 6 by omega) with rfl | rfl | rfl | rfl | rfl | rfl | rfl
  · skip
    refine tr_iload dL_law_23 rfl ?_
    refine tr_aload_nS dL_law_25 rfl ?_
    refine tr_slen hs dL_law_26 ?_
    refine tr_topi 0 (by decide +kernel) ?_
    refine tr_bipush (v := 6) dL_law_27 (by decide +kernel) ?_
    refine tr_isub dL_law_29 ?_
    refine tr_topi (-6) (by decide +kernel) ?_
    refine tr_icmp_gt 1426 dL_law_30 (by decide) (fun _ => ?_) (fun h => absurd (by decide +kernel) h)
    refine tr_iconst (v := 1) dL_law_1426 (by decide +kernel) ?_
    exact tr_lawret hZ dL_law_1427 (by decide) (by decide)
  · skip
    refine tr_iload dL_law_23 rfl ?_
    refine tr_aload_nS dL_law_25 rfl ?_
    refine tr_slen hs dL_law_26 ?_
    refine tr_topi 1 (by decide +kernel) ?_
    refine tr_bipush (v := 6) dL_law_27 (by decide +kernel) ?_
    refine tr_isub dL_law_29 ?_
    refine tr_topi (-5) (by decide +kernel) ?_
    refine tr_icmp_gt 1426 dL_law_30 (by decide) (fun _ => ?_) (fun h => absurd (by decide +kernel) h)
    refine tr_iconst (v := 1) dL_law_1426 (by decide +kernel) ?_
    exact tr_lawret hZ dL_law_1427 (by decide) (by decide)
  · skip
    refine tr_iload dL_law_23 rfl ?_
    refine tr_aload_nS dL_law_25 rfl ?_
    refine tr_slen hs dL_law_26 ?_
    refine tr_topi 2 (by decide +kernel) ?_
    refine tr_bipush (v := 6) dL_law_27 (by decide +kernel) ?_
    refine tr_isub dL_law_29 ?_
    refine tr_topi (-4) (by decide +kernel) ?_
    refine tr_icmp_gt 1426 dL_law_30 (by decide) (fun _ => ?_) (fun h => absurd (by decide +kernel) h)
    refine tr_iconst (v := 1) dL_law_1426 (by decide +kernel) ?_
    exact tr_lawret hZ dL_law_1427 (by decide) (by decide)
  · skip
    refine tr_iload dL_law_23 rfl ?_
    refine tr_aload_nS dL_law_25 rfl ?_
    refine tr_slen hs dL_law_26 ?_
    refine tr_topi 3 (by decide +kernel) ?_
    refine tr_bipush (v := 6) dL_law_27 (by decide +kernel) ?_
    refine tr_isub dL_law_29 ?_
    refine tr_topi (-3) (by decide +kernel) ?_
    refine tr_icmp_gt 1426 dL_law_30 (by decide) (fun _ => ?_) (fun h => absurd (by decide +kernel) h)
    refine tr_iconst (v := 1) dL_law_1426 (by decide +kernel) ?_
    exact tr_lawret hZ dL_law_1427 (by decide) (by decide)
  · skip
    refine tr_iload dL_law_23 rfl ?_
    refine tr_aload_nS dL_law_25 rfl ?_
    refine tr_slen hs dL_law_26 ?_
    refine tr_topi 4 (by decide +kernel) ?_
    refine tr_bipush (v := 6) dL_law_27 (by decide +kernel) ?_
    refine tr_isub dL_law_29 ?_
    refine tr_topi (-2) (by decide +kernel) ?_
    refine tr_icmp_gt 1426 dL_law_30 (by decide) (fun _ => ?_) (fun h => absurd (by decide +kernel) h)
    refine tr_iconst (v := 1) dL_law_1426 (by decide +kernel) ?_
    exact tr_lawret hZ dL_law_1427 (by decide) (by decide)
  · skip
    refine tr_iload dL_law_23 rfl ?_
    refine tr_aload_nS dL_law_25 rfl ?_
    refine tr_slen hs dL_law_26 ?_
    refine tr_topi 5 (by decide +kernel) ?_
    refine tr_bipush (v := 6) dL_law_27 (by decide +kernel) ?_
    refine tr_isub dL_law_29 ?_
    refine tr_topi (-1) (by decide +kernel) ?_
    refine tr_icmp_gt 1426 dL_law_30 (by decide) (fun _ => ?_) (fun h => absurd (by decide +kernel) h)
    refine tr_iconst (v := 1) dL_law_1426 (by decide +kernel) ?_
    exact tr_lawret hZ dL_law_1427 (by decide) (by decide)
  · skip
    refine tr_iload dL_law_23 rfl ?_
    refine tr_aload_nS dL_law_25 rfl ?_
    refine tr_slen hs dL_law_26 ?_
    refine tr_topi 6 (by decide +kernel) ?_
    refine tr_bipush (v := 6) dL_law_27 (by decide +kernel) ?_
    refine tr_isub dL_law_29 ?_
    refine tr_topi 0 (by decide +kernel) ?_
    refine tr_icmp_gt 1426 dL_law_30 (by decide) (fun h => absurd h (by decide +kernel)) (fun _ => ?_)
    refine tr_aload_nS dL_law_33 rfl ?_
    refine tr_iload dL_law_34 rfl ?_
    refine tr_sld hs dL_law_36 (cz_inl 6 rfl (by decide +kernel)) ?_
    refine tr_bipush (v := 63) dL_law_37 (by decide +kernel) ?_
    refine tr_iand dL_law_39 ?_
    generalize (xs _ &&& 63) = v
    rcases cz_sw41 v with h | rfl | rfl | rfl | rfl | rfl | rfl | rfl | rfl | rfl | rfl | rfl | rfl | rfl | rfl | rfl | rfl | rfl | rfl | rfl | rfl | rfl | rfl | rfl | rfl | rfl | rfl | rfl | rfl | rfl | rfl | rfl | rfl | rfl | rfl | rfl | rfl | rfl | rfl | rfl | rfl | rfl
    · exact tr_tabOut 1420 dL_law_40 h (by decide) (law_nx hZ hs rfl rfl (by decide) (by decide))
    · exact tr_tabIn (off := 180) 220 dL_law_40 (by decide +kernel) (by decide +kernel) (by decide +kernel) (by decide) (law_c0 hZ hs hf1 hf2)
    · exact tr_tabIn (off := 253) 293 dL_law_40 (by decide +kernel) (by decide +kernel) (by decide +kernel) (by decide) (law_c1 hZ hs hf1 hf2)
    · exact tr_tabIn (off := 278) 318 dL_law_40 (by decide +kernel) (by decide +kernel) (by decide +kernel) (by decide) (law_c2 hZ hs hf1 hf2)
    · exact tr_tabIn (off := 291) 331 dL_law_40 (by decide +kernel) (by decide +kernel) (by decide +kernel) (by decide) (law_c3 hZ hs hf1 hf2)
    · exact tr_tabIn (off := 304) 344 dL_law_40 (by decide +kernel) (by decide +kernel) (by decide +kernel) (by decide) (law_c4 hZ hs hf1 hf2)
    · exact tr_tabIn (off := 329) 369 dL_law_40 (by decide +kernel) (by decide +kernel) (by decide +kernel) (by decide) (law_c5 hZ hs hf1 hf2)
    · exact tr_tabIn (off := 394) 434 dL_law_40 (by decide +kernel) (by decide +kernel) (by decide +kernel) (by decide) (law_c6 hZ hs hf1 hf2)
    · exact tr_tabIn (off := 447) 487 dL_law_40 (by decide +kernel) (by decide +kernel) (by decide +kernel) (by decide) (law_c7 hZ hs hf1 hf2)
    · exact tr_tabIn (off := 484) 524 dL_law_40 (by decide +kernel) (by decide +kernel) (by decide +kernel) (by decide) (law_c8 hZ hs hf1 hf2)
    · exact tr_tabIn (off := 497) 537 dL_law_40 (by decide +kernel) (by decide +kernel) (by decide +kernel) (by decide) (law_c9 hZ hs hf1 hf2)
    · exact tr_tabIn (off := 522) 562 dL_law_40 (by decide +kernel) (by decide +kernel) (by decide +kernel) (by decide) (law_c10 hZ hs hf1 hf2)
    · exact tr_tabIn (off := 559) 599 dL_law_40 (by decide +kernel) (by decide +kernel) (by decide +kernel) (by decide) (law_c11 hZ hs hf1 hf2)
    · exact tr_tabIn (off := 608) 648 dL_law_40 (by decide +kernel) (by decide +kernel) (by decide +kernel) (by decide) (law_c12 hZ hs hf1 hf2)
    · exact tr_tabIn (off := 645) 685 dL_law_40 (by decide +kernel) (by decide +kernel) (by decide +kernel) (by decide) (law_c13 hZ hs hf1 hf2)
    · exact tr_tabIn (off := 670) 710 dL_law_40 (by decide +kernel) (by decide +kernel) (by decide +kernel) (by decide) (law_c14 hZ hs hf1 hf2)
    · exact tr_tabIn (off := 707) 747 dL_law_40 (by decide +kernel) (by decide +kernel) (by decide +kernel) (by decide) (law_c15 hZ hs hf1 hf2)
    · exact tr_tabIn (off := 744) 784 dL_law_40 (by decide +kernel) (by decide +kernel) (by decide +kernel) (by decide) (law_c16 hZ hs hf1 hf2)
    · exact tr_tabIn (off := 781) 821 dL_law_40 (by decide +kernel) (by decide +kernel) (by decide +kernel) (by decide) (law_c17 hZ hs hf1 hf2)
    · exact tr_tabIn (off := 818) 858 dL_law_40 (by decide +kernel) (by decide +kernel) (by decide +kernel) (by decide) (law_c18 hZ hs hf1 hf2)
    · exact tr_tabIn (off := 855) 895 dL_law_40 (by decide +kernel) (by decide +kernel) (by decide +kernel) (by decide) (law_c19 hZ hs hf1 hf2)
    · exact tr_tabIn (off := 868) 908 dL_law_40 (by decide +kernel) (by decide +kernel) (by decide +kernel) (by decide) (law_c20 hZ hs hf1 hf2)
    · exact tr_tabIn (off := 893) 933 dL_law_40 (by decide +kernel) (by decide +kernel) (by decide +kernel) (by decide) (law_c21 hZ hs hf1 hf2)
    · exact tr_tabIn (off := 906) 946 dL_law_40 (by decide +kernel) (by decide +kernel) (by decide +kernel) (by decide) (law_c22 hZ hs hf1 hf2)
    · exact tr_tabIn (off := 919) 959 dL_law_40 (by decide +kernel) (by decide +kernel) (by decide +kernel) (by decide) (law_c23 hZ hs hf1 hf2)
    · exact tr_tabIn (off := 932) 972 dL_law_40 (by decide +kernel) (by decide +kernel) (by decide +kernel) (by decide) (law_c24 hZ hs hf1 hf2)
    · exact tr_tabIn (off := 945) 985 dL_law_40 (by decide +kernel) (by decide +kernel) (by decide +kernel) (by decide) (law_c25 hZ hs hf1 hf2)
    · exact tr_tabIn (off := 970) 1010 dL_law_40 (by decide +kernel) (by decide +kernel) (by decide +kernel) (by decide) (law_c26 hZ hs hf1 hf2)
    · exact tr_tabIn (off := 995) 1035 dL_law_40 (by decide +kernel) (by decide +kernel) (by decide +kernel) (by decide) (law_c27 hZ hs hf1 hf2)
    · exact tr_tabIn (off := 1044) 1084 dL_law_40 (by decide +kernel) (by decide +kernel) (by decide +kernel) (by decide) (law_c28 hZ hs hf1 hf2)
    · exact tr_tabIn (off := 1097) 1137 dL_law_40 (by decide +kernel) (by decide +kernel) (by decide +kernel) (by decide) (law_c29 hZ hs hf1 hf2)
    · exact tr_tabIn (off := 1110) 1150 dL_law_40 (by decide +kernel) (by decide +kernel) (by decide +kernel) (by decide) (law_c30 hZ hs hf1 hf2)
    · exact tr_tabIn (off := 1147) 1187 dL_law_40 (by decide +kernel) (by decide +kernel) (by decide +kernel) (by decide) (law_c31 hZ hs hf1 hf2)
    · exact tr_tabIn (off := 1160) 1200 dL_law_40 (by decide +kernel) (by decide +kernel) (by decide +kernel) (by decide) (law_c32 hZ hs hf1 hf2)
    · exact tr_tabIn (off := 1173) 1213 dL_law_40 (by decide +kernel) (by decide +kernel) (by decide +kernel) (by decide) (law_c33 hZ hs hf1 hf2)
    · exact tr_tabIn (off := 1198) 1238 dL_law_40 (by decide +kernel) (by decide +kernel) (by decide +kernel) (by decide) (law_c34 hZ hs hf1 hf2)
    · exact tr_tabIn (off := 1211) 1251 dL_law_40 (by decide +kernel) (by decide +kernel) (by decide +kernel) (by decide) (law_c35 hZ hs hf1 hf2)
    · exact tr_tabIn (off := 1224) 1264 dL_law_40 (by decide +kernel) (by decide +kernel) (by decide +kernel) (by decide) (law_c36 hZ hs hf1 hf2)
    · exact tr_tabIn (off := 1249) 1289 dL_law_40 (by decide +kernel) (by decide +kernel) (by decide +kernel) (by decide) (law_c37 hZ hs hf1 hf2)
    · exact tr_tabIn (off := 1286) 1326 dL_law_40 (by decide +kernel) (by decide +kernel) (by decide +kernel) (by decide) (law_c38 hZ hs hx hF hf1 hf2)
    · exact tr_tabIn (off := 1342) 1382 dL_law_40 (by decide +kernel) (by decide +kernel) (by decide +kernel) (by decide) (law_c39 hZ hs hf1 hf2)
    · exact tr_tabIn (off := 1367) 1407 dL_law_40 (by decide +kernel) (by decide +kernel) (by decide +kernel) (by decide) (law_c40 hZ hs hf1 hf2)
set_option maxRecDepth 100000 in
set_option maxHeartbeats 4000000 in
theorem law_start {X : cz_X} {xs : Nat → Int32} {Ln : Nat} (hLn : Ln ≤ 6) (hZ : cz_LZ X) (hs : cz_scr X Ln xs) (hx : cz_LX X) : Tr X mL_law 0 (cz_en [.float 1000000]) [] 0 (fun _ => 99) (fun _ => 0) (fun _ _ => 0) (fun _ _ => none) (fun _ _ => 0) 0 0 := by
  obtain ⟨K1, N1, I1, R1, K, N, I, R, g1, g2, hnew⟩ := cz_made
  have f0 : cz_Fr 0 (fun _ _ => 0) (fun _ _ => none) (fun _ _ => 0) := ⟨fun k _ => ⟨rfl, rfl, rfl⟩, fun k j x h => by cases h⟩
  obtain ⟨f1, t1⟩ := cz_go_ok (fun _ _ => 0) _ _ _ _ _ _ _ _ _ _ _ _ _ _ _ _ _ g1 f0.more
  obtain ⟨f2, t2⟩ := cz_go_ok (fun _ _ => 0) _ _ _ _ _ _ _ _ _ _ _ _ _ _ _ _ _ g2 f1.more
  refine tr_newF (ci := 10) f0 dL_law_0 (by decide) lc13_8 ins10 ini10 (by decide) (by decide) ?_
  refine tr_dup dL_law_3 rfl ?_
  refine tr_callI (M' := mX10_init) (as := []) dL_law_4 lk13_15 inX10_init rfl rfl myX10_init ⟨by decide, by decide⟩ rfl (Nat.le_of_ble_eq_true rfl) (by decide) (by decide) (cz_gocon (by decide +kernel) rfl (by decide) rfl t1) ?_
  rintro _ _ _ _ _ _ _ ⟨rfl, rfl, rfl, rfl, rfl, rfl, rfl⟩
  refine tr_astore_n dL_law_7 (by decide) (by decide) ?_
  refine tr_newF (ci := 12) f1 dL_law_8 (by decide) lc13_16 ins12 ini12 (by decide) (by decide) ?_
  refine tr_dup dL_law_11 rfl ?_
  refine tr_callI (M' := mX12_init) (as := []) dL_law_12 lk13_18 inX12_init rfl rfl myX12_init ⟨by decide, by decide⟩ rfl (Nat.le_of_ble_eq_true rfl) (by decide) (by decide) (cz_gocon (by decide +kernel) rfl (by decide) rfl t2) ?_
  rintro _ _ _ _ _ _ _ ⟨rfl, rfl, rfl, rfl, rfl, rfl, rfl⟩
  refine tr_astore_n dL_law_15 (by decide) (by decide) ?_
  refine tr_iconst (v := 1) dL_law_16 (by decide +kernel) ?_
  refine tr_newaF (len := 1) f2 dL_law_17 (by decide) arc_long (by decide +kernel) (by decide +kernel) (by decide) (by decide) (by decide) ?_
  refine tr_astore_n dL_law_19 (by decide) (by decide) ?_
  refine tr_iconst (v := 0) dL_law_20 (by decide +kernel) ?_
  refine tr_istore dL_law_21 (by decide) (by decide) ?_
  exact law_head hLn hZ hs hx f2.more (cz_f1_of hnew) (cz_f2_of hnew)
