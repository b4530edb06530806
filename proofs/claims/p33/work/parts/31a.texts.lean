theorem cz_str {args : Array Value} {s : State} {own tx : String} {k : Nat} (h : (Cond.stringRef own k tx).before args s = true) : ∃ a : Nat, vk_R own k tx a s := by
  have hcur : ∃ cur, s.vm.findClass own = some cur := by
    have h1 := h
    simp only [Cond.before, Cond.holds, Cond.value] at h1
    cases hc : s.vm.findClass own with
    | none => simp [hc] at h1
    | some cur => exact ⟨cur, rfl⟩
  obtain ⟨cur, hcur⟩ := hcur
  obtain ⟨k1, cf, i, a, -, -, -, -, -, hev⟩ := Cond.stringRef_spec hcur h
  exact ⟨a, vk_R.of h hev⟩
theorem cz_sameS {args : Array Value} {s : State} {a b tx tx' : String} {i j x y : Nat} (h : (Cond.eq (.string a i) (.string b j)).before args s = true) (h1 : vk_R a i tx x s) (h2 : vk_R b j tx' y s) : x = y := by
  have e1 : (Term.string a i).eval args s none [] s = some (.ref x) := h1.2
  have e2 : (Term.string b j).eval args s none [] s = some (.ref y) := h2.2
  simp only [Cond.before, Cond.holds, Cond.value, e1, e2] at h
  simpa using h
theorem cz_low {w : Cond} (h : w ∈ cz_T) : w ∈ lw_tbl := (List.mem_filter.mp h).1
theorem cz_insA {k : Nat} (h : k < 13) : Cond.instantiable (cz_on k) (cz_nf k) ∈ cz_T := match k, h with
  | 0, _ => ins0
  | 1, _ => ins1
  | 2, _ => ins2
  | 3, _ => ins3
  | 4, _ => ins4
  | 5, _ => ins5
  | 6, _ => ins6
  | 7, _ => ins7
  | 8, _ => ins8
  | 9, _ => ins9
  | 10, _ => ins10
  | 11, _ => ins11
  | 12, _ => ins12
  | k + 13, h => absurd h (by omega)
theorem cz_prim {args : Array Value} {s : State} {ty : FieldType} (hty : ty = .byte ∨ ty = .int ∨ ty = .long ∨ ty = .boolean) (h : (Cond.arrayClass ty).before args s = true) : ∃ cA : ClassId, ArrOfT s cA ty ∧ va_RA s cA ty := by
  obtain ⟨cA, kA, comp, h1, h2, h3⟩ := Cond.arrayClass_spec h
  refine ⟨cA, fun n z => ⟨fun k h => (by cases h), kA, h2, comp, h3⟩, ?_⟩
  rcases hty with rfl | rfl | rfl | rfl <;> exact h1
theorem cz_over {s : State} {C : String} (h : va_AO C s) : ∃ cA : ClassId, ArrOfT s cA (.object C) ∧ va_RA s cA (.object C) := by
  obtain ⟨comp, cA, kA, h1, -, h3, h4, h5⟩ := Cond.arrayOver_spec h
  exact ⟨cA, fun n z => ⟨fun k h => (by cases h), kA, h3, comp, h4⟩, kA, comp, h3, h4, h1, h5⟩
theorem cz_NFin : ∀ q ∈ cz_NF, Cond.fieldLinkNest q.1 q.2.1 q.2.2.1 q.2.2.2.1 q.2.2.2.2.1 q.2.2.2.2.2 ∈ lw_tbl := by decide +kernel
theorem cz_NMin : ∀ q ∈ cz_NM, Cond.methodLinkNest q.1 q.2.1 q.2.2.1 q.2.2.2 ∈ lw_tbl := by decide +kernel
theorem cz_AOin : ∀ C ∈ cz_AO, Cond.arrayOver (.object C) ∈ lw_tbl := by decide +kernel
theorem cz_tx {args : Array Value} {s : State} {own tx : String} {k a len : Nat} {byt : Nat → Int32} {A : Nat → Prop} (hv : vk_R own k tx a s) (hN : len < 2 ^ 31) (hex : (Cond.exactly (.string own k) "java/lang/String").before args s = true) (hco : (Cond.eq (.field (.string own k) "java/lang/String" "coder" "B") (.int 0)).before args s = true) (har : (Cond.arrayOf (.field (.string own k) "java/lang/String" "value" "[B") .byte).before args s = true) (hle : (Cond.eq (.length (.field (.string own k) "java/lang/String" "value" "[B")) (.int (Int32.ofNat len))).before args s = true) (hel : ∀ j : Nat, j < len → (Cond.eq (.elem (.field (.string own k) "java/lang/String" "value" "[B") (.int (Int32.ofNat j))) (.int (byt j))).before args s = true) (hA : ∀ a : Nat, a < s.heap.size → ¬ A a) :
    ∃ t : Nat, va_O "java/lang/String" a A s s.heap ∧ va_OF "java/lang/String" "coder" "B" (.int 0) a A s s.heap ∧ va_OF "java/lang/String" "value" "[B" (.ref t) a A s s.heap ∧ va_T .byte t len (fun j => .int (byt j)) A s s.heap := by
  obtain ⟨a', c, cA, kA, q1, q2, q3, q4, q5, q6, -⟩ := Cond.exactly_spec (args := args) (first := s) (o := none) (s := s) (idx := []) (t := .string own k) (cls := "java/lang/String") hex
  obtain ⟨t, ht, hT⟩ := va_Tof (f := fun j => .int (byt j)) (A := A) hN har (va_eqt hle) (fun j hj => va_eqt (hel j hj)) hA
  have e1 : (Term.string own k).eval args s none [] s = some (.ref a) := hv.2
  have e2 : a' = a := by
    have := q1.symm.trans e1
    cases this; rfl
  subst e2
  exact ⟨t, ⟨cA, q3, q5, by rw [q6]; exact q2, hA a' (Array.getElem?_eq_some_iff.mp q3).1⟩, vk_OFof q1 (va_eqt hco) hA, vk_OFof q1 ht hA, hT⟩
theorem cz_txinj : ∀ i < 27, ∀ j < 27, cz_slen.getD i 0 = cz_slen.getD j 0 → (∀ k < cz_slen.getD i 0, (cz_sbyt.getD i []).getD k 0 = (cz_sbyt.getD j []).getD k 0) → i = j := by decide +kernel
theorem cz_lninj : ∀ i < 27, ∀ j < 27, Int32.ofNat (cz_slen.getD i 0) = Int32.ofNat (cz_slen.getD j 0) → cz_slen.getD i 0 = cz_slen.getD j 0 := by decide +kernel
/-- texts that differ lie at places that differ -/
theorem cz_inj {adK adV : Nat → Nat} {A : Nat → Prop} {U : State} {H : Heap} (h : ∀ i : Nat, i < cz_NS → va_O "java/lang/String" (adK i) A U H ∧ va_OF "java/lang/String" "coder" "B" (.int 0) (adK i) A U H ∧ va_OF "java/lang/String" "value" "[B" (.ref (adV i)) (adK i) A U H ∧ va_T .byte (adV i) (cz_slen.getD i 0) (fun j => .int ((cz_sbyt.getD i []).getD j 0)) A U H) : ∀ i j : Nat, i < cz_NS → j < cz_NS → adK i = adK j → i = j := by
  intro i j hi hj e
  obtain ⟨-, -, ⟨cf, k, fi, f, ce, f1, f2, f3, f4, f5, -⟩, ⟨c1, g1, -, -, g4, g5, g6, -⟩⟩ := h i hi
  obtain ⟨-, -, ⟨cf', k', fi', f', ce', f1', f2', f3', f4', f5', -⟩, ⟨c1', g1', -, -, g4', g5', g6', -⟩⟩ := h j hj
  rw [e] at f3
  cases Option.some.inj (f1.symm.trans f1')
  cases Option.some.inj (f3.symm.trans f3')
  have ev : adV i = adV j := by
    exact Value.ref.inj (Option.some.inj (f5.symm.trans f5'))
  rw [ev] at g1
  cases Option.some.inj (g1.symm.trans g1')
  have el := cz_lninj i hi j hj (g5.symm.trans g5')
  refine cz_txinj i hi j hj el (fun q hq => ?_)
  exact Value.int.inj (Option.some.inj ((g6 q hq).symm.trans (g6' q (by rw [← el]; exact hq))))

set_option maxRecDepth 100000 in
set_option maxHeartbeats 4000000 in
theorem cz_strs {args : Array Value} {s : State} (b : Nat) (hts : ∀ w ∈ lw_tbl, w.before args s = true) (hgv : (Jvm.Cond.and given_1 narrow_1).before args s = true) : ∃ sA : Nat → Nat, sA 1000000 = b ∧ (∀ q ∈ cz_SR, vk_R q.1 q.2.1 q.2.2.1 (sA q.2.2.2) s) ∧ (∀ i : Nat, i < cz_NS → va_O "java/lang/String" (sA i) (fun q => s.heap.size ≤ q) s s.heap ∧ va_OF "java/lang/String" "coder" "B" (.int 0) (sA i) (fun q => s.heap.size ≤ q) s s.heap ∧ va_OF "java/lang/String" "value" "[B" (.ref (sA (2000000 + i))) (sA i) (fun q => s.heap.size ≤ q) s s.heap ∧ va_T .byte (sA (2000000 + i)) (cz_slen.getD i 0) (fun j => .int ((cz_sbyt.getD i []).getD j 0)) (fun q => s.heap.size ≤ q) s s.heap) ∧ (va_Z "jdk/internal/util/Preconditions" "SIOOBE_FORMATTER" "Ljava/util/function/BiFunction;" .null (fun q => s.heap.size ≤ q) s s.heap ∨ va_Z "jdk/internal/util/Preconditions" "SIOOBE_FORMATTER" "Ljava/util/function/BiFunction;" (.ref (sA 3000000)) (fun q => s.heap.size ≤ q) s s.heap) := by
  have hs := flat_of_before _ hgv
  have hA : ∀ a : Nat, a < s.heap.size → ¬ (fun q : Nat => s.heap.size ≤ q) a := fun a h => Nat.not_le.mpr h
  obtain ⟨a0, v0⟩ := cz_str (hts (.stringRef "EclipseCheese$Reader" 131 "cloud") (List.mem_of_getElem? (i := 684) (by decide +kernel)))
  obtain ⟨a1, v1⟩ := cz_str (hts (.stringRef "EclipseCheese$Reader" 133 "eclipse") (List.mem_of_getElem? (i := 685) (by decide +kernel)))
  obtain ⟨a2, v2⟩ := cz_str (hts (.stringRef "EclipseCheese$Reader" 135 "lamp") (List.mem_of_getElem? (i := 686) (by decide +kernel)))
  obtain ⟨a3, v3⟩ := cz_str (hts (.stringRef "EclipseCheese$Reader" 137 "shutter") (List.mem_of_getElem? (i := 687) (by decide +kernel)))
  obtain ⟨a4, v4⟩ := cz_str (hts (.stringRef "EclipseCheese$Reader" 139 "bolt") (List.mem_of_getElem? (i := 688) (by decide +kernel)))
  obtain ⟨a5, v5⟩ := cz_str (hts (.stringRef "EclipseCheese$Reader" 141 "cheese") (List.mem_of_getElem? (i := 689) (by decide +kernel)))
  obtain ⟨a6, v6⟩ := cz_str (hts (.stringRef "EclipseCheese$Reader" 143 "almanac") (List.mem_of_getElem? (i := 690) (by decide +kernel)))
  obtain ⟨a7, v7⟩ := cz_str (hts (.stringRef "EclipseCheese$Reader" 145 "turner") (List.mem_of_getElem? (i := 691) (by decide +kernel)))
  obtain ⟨a8, v8⟩ := cz_str (hts (.stringRef "EclipseCheese$Reader" 147 "call") (List.mem_of_getElem? (i := 692) (by decide +kernel)))
  obtain ⟨a9, v9⟩ := cz_str (hts (.stringRef "EclipseCheese$Reader" 149 "slice") (List.mem_of_getElem? (i := 693) (by decide +kernel)))
  obtain ⟨a10, v10⟩ := cz_str (hts (.stringRef "EclipseCheese$Reader" 151 "alp") (List.mem_of_getElem? (i := 694) (by decide +kernel)))
  obtain ⟨a11, v11⟩ := cz_str (hts (.stringRef "EclipseCheese$Reader" 203 "minutes") (List.mem_of_getElem? (i := 762) (by decide +kernel)))
  obtain ⟨a12, v12⟩ := cz_str (hts (.stringRef "EclipseCheese$Reader" 204 "huts") (List.mem_of_getElem? (i := 779) (by decide +kernel)))
  obtain ⟨a13, v13⟩ := cz_str (hts (.stringRef "EclipseCheese$Reader" 205 "prices") (List.mem_of_getElem? (i := 780) (by decide +kernel)))
  obtain ⟨a14, v14⟩ := cz_str (hts (.stringRef "EclipseCheese$Reader" 238 "down") (List.mem_of_getElem? (i := 797) (by decide +kernel)))
  obtain ⟨a15, v15⟩ := cz_str (hts (.stringRef "EclipseCheese$Reader" 234 "hut") (List.mem_of_getElem? (i := 806) (by decide +kernel)))
  obtain ⟨a16, v16⟩ := cz_str (hts (.stringRef "EclipseCheese$Reader" 268 "sees") (List.mem_of_getElem? (i := 823) (by decide +kernel)))
  obtain ⟨a17, v17⟩ := cz_str (hts (.stringRef "EclipseCheese$Reader" 270 "blind") (List.mem_of_getElem? (i := 824) (by decide +kernel)))
  obtain ⟨a18, v18⟩ := cz_str (hts (.stringRef "EclipseCheese$Reader" 272 "deaf") (List.mem_of_getElem? (i := 825) (by decide +kernel)))
  obtain ⟨a19, v19⟩ := cz_str (hts (.stringRef "EclipseCheese$Reader" 253 "from") (List.mem_of_getElem? (i := 826) (by decide +kernel)))
  obtain ⟨a20, v20⟩ := cz_str (hts (.stringRef "EclipseCheese$Reader" 124 "to") (List.mem_of_getElem? (i := 831) (by decide +kernel)))
  obtain ⟨a21, v21⟩ := cz_str (hts (.stringRef "EclipseCheese$Reader" 256 "hands") (List.mem_of_getElem? (i := 832) (by decide +kernel)))
  obtain ⟨a22, v22⟩ := cz_str (hts (.stringRef "EclipseCheese$Reader" 260 "takes") (List.mem_of_getElem? (i := 833) (by decide +kernel)))
  obtain ⟨a23, v23⟩ := cz_str (hts (.stringRef "EclipseCheese$Reader" 293 "at") (List.mem_of_getElem? (i := 845) (by decide +kernel)))
  obtain ⟨a24, v24⟩ := cz_str (hts (.stringRef "EclipseCheese$Reader" 297 "for") (List.mem_of_getElem? (i := 846) (by decide +kernel)))
  obtain ⟨a25, v25⟩ := cz_str (hts (.stringRef "EclipseCheese$Reader" 302 "costs") (List.mem_of_getElem? (i := 847) (by decide +kernel)))
  obtain ⟨a26, v26⟩ := cz_str (hts (.stringRef "EclipseCheese" 327 "no such cheese missed anything") (List.mem_of_getElem? (i := 1326) (by decide +kernel)))
  obtain ⟨a27, v27⟩ := cz_str (hts (.stringRef "EclipseCheeseModel" 164 "alp") (List.mem_of_getElem? (i := 1632) (by decide +kernel)))
  obtain ⟨a28, v28⟩ := cz_str (hts (.stringRef "EclipseCheeseModel" 248 "minutes") (List.mem_of_getElem? (i := 1650) (by decide +kernel)))
  obtain ⟨a29, v29⟩ := cz_str (hts (.stringRef "EclipseCheeseModel" 253 "huts") (List.mem_of_getElem? (i := 1670) (by decide +kernel)))
  obtain ⟨a30, v30⟩ := cz_str (hts (.stringRef "EclipseCheeseModel" 255 "prices") (List.mem_of_getElem? (i := 1671) (by decide +kernel)))
  obtain ⟨a31, v31⟩ := cz_str (hts (.stringRef "EclipseCheeseModel" 166 "cloud") (List.mem_of_getElem? (i := 1676) (by decide +kernel)))
  obtain ⟨a32, v32⟩ := cz_str (hts (.stringRef "EclipseCheeseModel" 272 "to") (List.mem_of_getElem? (i := 1685) (by decide +kernel)))
  obtain ⟨a33, v33⟩ := cz_str (hts (.stringRef "EclipseCheeseModel" 168 "eclipse") (List.mem_of_getElem? (i := 1686) (by decide +kernel)))
  obtain ⟨a34, v34⟩ := cz_str (hts (.stringRef "EclipseCheeseModel" 170 "lamp") (List.mem_of_getElem? (i := 1687) (by decide +kernel)))
  obtain ⟨a35, v35⟩ := cz_str (hts (.stringRef "EclipseCheeseModel" 172 "shutter") (List.mem_of_getElem? (i := 1688) (by decide +kernel)))
  obtain ⟨a36, v36⟩ := cz_str (hts (.stringRef "EclipseCheeseModel" 174 "bolt") (List.mem_of_getElem? (i := 1689) (by decide +kernel)))
  obtain ⟨a37, v37⟩ := cz_str (hts (.stringRef "EclipseCheeseModel" 176 "cheese") (List.mem_of_getElem? (i := 1690) (by decide +kernel)))
  obtain ⟨a38, v38⟩ := cz_str (hts (.stringRef "EclipseCheeseModel" 178 "almanac") (List.mem_of_getElem? (i := 1703) (by decide +kernel)))
  obtain ⟨a39, v39⟩ := cz_str (hts (.stringRef "EclipseCheeseModel" 180 "turner") (List.mem_of_getElem? (i := 1704) (by decide +kernel)))
  obtain ⟨a40, v40⟩ := cz_str (hts (.stringRef "EclipseCheeseModel" 182 "call") (List.mem_of_getElem? (i := 1705) (by decide +kernel)))
  obtain ⟨a41, v41⟩ := cz_str (hts (.stringRef "EclipseCheeseModel" 184 "slice") (List.mem_of_getElem? (i := 1706) (by decide +kernel)))
  obtain ⟨a42, v42⟩ := cz_str (hts (.stringRef "EclipseCheeseModel" 186 "down") (List.mem_of_getElem? (i := 1707) (by decide +kernel)))
  obtain ⟨a43, v43⟩ := cz_str (hts (.stringRef "EclipseCheeseModel" 289 "hut") (List.mem_of_getElem? (i := 1712) (by decide +kernel)))
  obtain ⟨a44, v44⟩ := cz_str (hts (.stringRef "EclipseCheeseModel" 318 "sees") (List.mem_of_getElem? (i := 1737) (by decide +kernel)))
  obtain ⟨a45, v45⟩ := cz_str (hts (.stringRef "EclipseCheeseModel" 320 "blind") (List.mem_of_getElem? (i := 1738) (by decide +kernel)))
  obtain ⟨a46, v46⟩ := cz_str (hts (.stringRef "EclipseCheeseModel" 322 "deaf") (List.mem_of_getElem? (i := 1739) (by decide +kernel)))
  obtain ⟨a47, v47⟩ := cz_str (hts (.stringRef "EclipseCheeseModel" 324 "from") (List.mem_of_getElem? (i := 1740) (by decide +kernel)))
  obtain ⟨a48, v48⟩ := cz_str (hts (.stringRef "EclipseCheeseModel" 325 "hands") (List.mem_of_getElem? (i := 1741) (by decide +kernel)))
  obtain ⟨a49, v49⟩ := cz_str (hts (.stringRef "EclipseCheeseModel" 327 "takes") (List.mem_of_getElem? (i := 1742) (by decide +kernel)))
  obtain ⟨a50, v50⟩ := cz_str (hts (.stringRef "EclipseCheeseModel" 352 "at") (List.mem_of_getElem? (i := 1750) (by decide +kernel)))
  obtain ⟨a51, v51⟩ := cz_str (hts (.stringRef "EclipseCheeseModel" 354 "for") (List.mem_of_getElem? (i := 1751) (by decide +kernel)))
  obtain ⟨a52, v52⟩ := cz_str (hts (.stringRef "EclipseCheeseModel" 356 "costs") (List.mem_of_getElem? (i := 1752) (by decide +kernel)))
  obtain rfl := cz_sameS (hs (.eq (.string "EclipseCheese$Reader" 151) (.string "EclipseCheeseModel" 164)) (by decide +kernel)) v10 v27
  obtain rfl := cz_sameS (hs (.eq (.string "EclipseCheese$Reader" 203) (.string "EclipseCheeseModel" 248)) (by decide +kernel)) v11 v28
  obtain rfl := cz_sameS (hs (.eq (.string "EclipseCheese$Reader" 204) (.string "EclipseCheeseModel" 253)) (by decide +kernel)) v12 v29
  obtain rfl := cz_sameS (hs (.eq (.string "EclipseCheese$Reader" 205) (.string "EclipseCheeseModel" 255)) (by decide +kernel)) v13 v30
  obtain rfl := cz_sameS (hs (.eq (.string "EclipseCheese$Reader" 131) (.string "EclipseCheeseModel" 166)) (by decide +kernel)) v0 v31
  obtain rfl := cz_sameS (hs (.eq (.string "EclipseCheese$Reader" 124) (.string "EclipseCheeseModel" 272)) (by decide +kernel)) v20 v32
  obtain rfl := cz_sameS (hs (.eq (.string "EclipseCheese$Reader" 133) (.string "EclipseCheeseModel" 168)) (by decide +kernel)) v1 v33
  obtain rfl := cz_sameS (hs (.eq (.string "EclipseCheese$Reader" 135) (.string "EclipseCheeseModel" 170)) (by decide +kernel)) v2 v34
  obtain rfl := cz_sameS (hs (.eq (.string "EclipseCheese$Reader" 137) (.string "EclipseCheeseModel" 172)) (by decide +kernel)) v3 v35
  obtain rfl := cz_sameS (hs (.eq (.string "EclipseCheese$Reader" 139) (.string "EclipseCheeseModel" 174)) (by decide +kernel)) v4 v36
  obtain rfl := cz_sameS (hs (.eq (.string "EclipseCheese$Reader" 141) (.string "EclipseCheeseModel" 176)) (by decide +kernel)) v5 v37
  obtain rfl := cz_sameS (hs (.eq (.string "EclipseCheese$Reader" 143) (.string "EclipseCheeseModel" 178)) (by decide +kernel)) v6 v38
  obtain rfl := cz_sameS (hs (.eq (.string "EclipseCheese$Reader" 145) (.string "EclipseCheeseModel" 180)) (by decide +kernel)) v7 v39
  obtain rfl := cz_sameS (hs (.eq (.string "EclipseCheese$Reader" 147) (.string "EclipseCheeseModel" 182)) (by decide +kernel)) v8 v40
  obtain rfl := cz_sameS (hs (.eq (.string "EclipseCheese$Reader" 149) (.string "EclipseCheeseModel" 184)) (by decide +kernel)) v9 v41
  obtain rfl := cz_sameS (hs (.eq (.string "EclipseCheese$Reader" 238) (.string "EclipseCheeseModel" 186)) (by decide +kernel)) v14 v42
  obtain rfl := cz_sameS (hs (.eq (.string "EclipseCheese$Reader" 234) (.string "EclipseCheeseModel" 289)) (by decide +kernel)) v15 v43
  obtain rfl := cz_sameS (hs (.eq (.string "EclipseCheese$Reader" 268) (.string "EclipseCheeseModel" 318)) (by decide +kernel)) v16 v44
  obtain rfl := cz_sameS (hs (.eq (.string "EclipseCheese$Reader" 270) (.string "EclipseCheeseModel" 320)) (by decide +kernel)) v17 v45
  obtain rfl := cz_sameS (hs (.eq (.string "EclipseCheese$Reader" 272) (.string "EclipseCheeseModel" 322)) (by decide +kernel)) v18 v46
  obtain rfl := cz_sameS (hs (.eq (.string "EclipseCheese$Reader" 253) (.string "EclipseCheeseModel" 324)) (by decide +kernel)) v19 v47
  obtain rfl := cz_sameS (hs (.eq (.string "EclipseCheese$Reader" 256) (.string "EclipseCheeseModel" 325)) (by decide +kernel)) v21 v48
  obtain rfl := cz_sameS (hs (.eq (.string "EclipseCheese$Reader" 260) (.string "EclipseCheeseModel" 327)) (by decide +kernel)) v22 v49
  obtain rfl := cz_sameS (hs (.eq (.string "EclipseCheese$Reader" 293) (.string "EclipseCheeseModel" 352)) (by decide +kernel)) v23 v50
  obtain rfl := cz_sameS (hs (.eq (.string "EclipseCheese$Reader" 297) (.string "EclipseCheeseModel" 354)) (by decide +kernel)) v24 v51
  obtain rfl := cz_sameS (hs (.eq (.string "EclipseCheese$Reader" 302) (.string "EclipseCheeseModel" 356)) (by decide +kernel)) v25 v52
  obtain ⟨t0, x0⟩ := cz_tx (A := fun q => s.heap.size ≤ q) (len := 7) (byt := fun j => (([97, 108, 109, 97, 110, 97, 99] : List Int32)).getD j 0) v6 (by decide) (hs _ (by decide +kernel)) (hs _ (by decide +kernel)) (hs _ (by decide +kernel)) (hs _ (by decide +kernel)) (fun j hj => match j, hj with | 0, _ => hs _ (by decide +kernel) | 1, _ => hs _ (by decide +kernel) | 2, _ => hs _ (by decide +kernel) | 3, _ => hs _ (by decide +kernel) | 4, _ => hs _ (by decide +kernel) | 5, _ => hs _ (by decide +kernel) | 6, _ => hs _ (by decide +kernel) | j + 7, h => absurd h (by omega)) hA
  obtain ⟨t1, x1⟩ := cz_tx (A := fun q => s.heap.size ≤ q) (len := 3) (byt := fun j => (([97, 108, 112] : List Int32)).getD j 0) v10 (by decide) (hs _ (by decide +kernel)) (hs _ (by decide +kernel)) (hs _ (by decide +kernel)) (hs _ (by decide +kernel)) (fun j hj => match j, hj with | 0, _ => hs _ (by decide +kernel) | 1, _ => hs _ (by decide +kernel) | 2, _ => hs _ (by decide +kernel) | j + 3, h => absurd h (by omega)) hA
  obtain ⟨t2, x2⟩ := cz_tx (A := fun q => s.heap.size ≤ q) (len := 2) (byt := fun j => (([97, 116] : List Int32)).getD j 0) v23 (by decide) (hs _ (by decide +kernel)) (hs _ (by decide +kernel)) (hs _ (by decide +kernel)) (hs _ (by decide +kernel)) (fun j hj => match j, hj with | 0, _ => hs _ (by decide +kernel) | 1, _ => hs _ (by decide +kernel) | j + 2, h => absurd h (by omega)) hA
  obtain ⟨t3, x3⟩ := cz_tx (A := fun q => s.heap.size ≤ q) (len := 5) (byt := fun j => (([98, 108, 105, 110, 100] : List Int32)).getD j 0) v17 (by decide) (hs _ (by decide +kernel)) (hs _ (by decide +kernel)) (hs _ (by decide +kernel)) (hs _ (by decide +kernel)) (fun j hj => match j, hj with | 0, _ => hs _ (by decide +kernel) | 1, _ => hs _ (by decide +kernel) | 2, _ => hs _ (by decide +kernel) | 3, _ => hs _ (by decide +kernel) | 4, _ => hs _ (by decide +kernel) | j + 5, h => absurd h (by omega)) hA
  obtain ⟨t4, x4⟩ := cz_tx (A := fun q => s.heap.size ≤ q) (len := 4) (byt := fun j => (([98, 111, 108, 116] : List Int32)).getD j 0) v4 (by decide) (hs _ (by decide +kernel)) (hs _ (by decide +kernel)) (hs _ (by decide +kernel)) (hs _ (by decide +kernel)) (fun j hj => match j, hj with | 0, _ => hs _ (by decide +kernel) | 1, _ => hs _ (by decide +kernel) | 2, _ => hs _ (by decide +kernel) | 3, _ => hs _ (by decide +kernel) | j + 4, h => absurd h (by omega)) hA
  obtain ⟨t5, x5⟩ := cz_tx (A := fun q => s.heap.size ≤ q) (len := 4) (byt := fun j => (([99, 97, 108, 108] : List Int32)).getD j 0) v8 (by decide) (hs _ (by decide +kernel)) (hs _ (by decide +kernel)) (hs _ (by decide +kernel)) (hs _ (by decide +kernel)) (fun j hj => match j, hj with | 0, _ => hs _ (by decide +kernel) | 1, _ => hs _ (by decide +kernel) | 2, _ => hs _ (by decide +kernel) | 3, _ => hs _ (by decide +kernel) | j + 4, h => absurd h (by omega)) hA
  obtain ⟨t6, x6⟩ := cz_tx (A := fun q => s.heap.size ≤ q) (len := 6) (byt := fun j => (([99, 104, 101, 101, 115, 101] : List Int32)).getD j 0) v5 (by decide) (hs _ (by decide +kernel)) (hs _ (by decide +kernel)) (hs _ (by decide +kernel)) (hs _ (by decide +kernel)) (fun j hj => match j, hj with | 0, _ => hs _ (by decide +kernel) | 1, _ => hs _ (by decide +kernel) | 2, _ => hs _ (by decide +kernel) | 3, _ => hs _ (by decide +kernel) | 4, _ => hs _ (by decide +kernel) | 5, _ => hs _ (by decide +kernel) | j + 6, h => absurd h (by omega)) hA
  obtain ⟨t7, x7⟩ := cz_tx (A := fun q => s.heap.size ≤ q) (len := 5) (byt := fun j => (([99, 108, 111, 117, 100] : List Int32)).getD j 0) v0 (by decide) (hs _ (by decide +kernel)) (hs _ (by decide +kernel)) (hs _ (by decide +kernel)) (hs _ (by decide +kernel)) (fun j hj => match j, hj with | 0, _ => hs _ (by decide +kernel) | 1, _ => hs _ (by decide +kernel) | 2, _ => hs _ (by decide +kernel) | 3, _ => hs _ (by decide +kernel) | 4, _ => hs _ (by decide +kernel) | j + 5, h => absurd h (by omega)) hA
  obtain ⟨t8, x8⟩ := cz_tx (A := fun q => s.heap.size ≤ q) (len := 5) (byt := fun j => (([99, 111, 115, 116, 115] : List Int32)).getD j 0) v25 (by decide) (hs _ (by decide +kernel)) (hs _ (by decide +kernel)) (hs _ (by decide +kernel)) (hs _ (by decide +kernel)) (fun j hj => match j, hj with | 0, _ => hs _ (by decide +kernel) | 1, _ => hs _ (by decide +kernel) | 2, _ => hs _ (by decide +kernel) | 3, _ => hs _ (by decide +kernel) | 4, _ => hs _ (by decide +kernel) | j + 5, h => absurd h (by omega)) hA
  obtain ⟨t9, x9⟩ := cz_tx (A := fun q => s.heap.size ≤ q) (len := 4) (byt := fun j => (([100, 101, 97, 102] : List Int32)).getD j 0) v18 (by decide) (hs _ (by decide +kernel)) (hs _ (by decide +kernel)) (hs _ (by decide +kernel)) (hs _ (by decide +kernel)) (fun j hj => match j, hj with | 0, _ => hs _ (by decide +kernel) | 1, _ => hs _ (by decide +kernel) | 2, _ => hs _ (by decide +kernel) | 3, _ => hs _ (by decide +kernel) | j + 4, h => absurd h (by omega)) hA
  obtain ⟨t10, x10⟩ := cz_tx (A := fun q => s.heap.size ≤ q) (len := 4) (byt := fun j => (([100, 111, 119, 110] : List Int32)).getD j 0) v14 (by decide) (hs _ (by decide +kernel)) (hs _ (by decide +kernel)) (hs _ (by decide +kernel)) (hs _ (by decide +kernel)) (fun j hj => match j, hj with | 0, _ => hs _ (by decide +kernel) | 1, _ => hs _ (by decide +kernel) | 2, _ => hs _ (by decide +kernel) | 3, _ => hs _ (by decide +kernel) | j + 4, h => absurd h (by omega)) hA
  obtain ⟨t11, x11⟩ := cz_tx (A := fun q => s.heap.size ≤ q) (len := 7) (byt := fun j => (([101, 99, 108, 105, 112, 115, 101] : List Int32)).getD j 0) v1 (by decide) (hs _ (by decide +kernel)) (hs _ (by decide +kernel)) (hs _ (by decide +kernel)) (hs _ (by decide +kernel)) (fun j hj => match j, hj with | 0, _ => hs _ (by decide +kernel) | 1, _ => hs _ (by decide +kernel) | 2, _ => hs _ (by decide +kernel) | 3, _ => hs _ (by decide +kernel) | 4, _ => hs _ (by decide +kernel) | 5, _ => hs _ (by decide +kernel) | 6, _ => hs _ (by decide +kernel) | j + 7, h => absurd h (by omega)) hA
  obtain ⟨t12, x12⟩ := cz_tx (A := fun q => s.heap.size ≤ q) (len := 3) (byt := fun j => (([102, 111, 114] : List Int32)).getD j 0) v24 (by decide) (hs _ (by decide +kernel)) (hs _ (by decide +kernel)) (hs _ (by decide +kernel)) (hs _ (by decide +kernel)) (fun j hj => match j, hj with | 0, _ => hs _ (by decide +kernel) | 1, _ => hs _ (by decide +kernel) | 2, _ => hs _ (by decide +kernel) | j + 3, h => absurd h (by omega)) hA
  obtain ⟨t13, x13⟩ := cz_tx (A := fun q => s.heap.size ≤ q) (len := 4) (byt := fun j => (([102, 114, 111, 109] : List Int32)).getD j 0) v19 (by decide) (hs _ (by decide +kernel)) (hs _ (by decide +kernel)) (hs _ (by decide +kernel)) (hs _ (by decide +kernel)) (fun j hj => match j, hj with | 0, _ => hs _ (by decide +kernel) | 1, _ => hs _ (by decide +kernel) | 2, _ => hs _ (by decide +kernel) | 3, _ => hs _ (by decide +kernel) | j + 4, h => absurd h (by omega)) hA
  obtain ⟨t14, x14⟩ := cz_tx (A := fun q => s.heap.size ≤ q) (len := 5) (byt := fun j => (([104, 97, 110, 100, 115] : List Int32)).getD j 0) v21 (by decide) (hs _ (by decide +kernel)) (hs _ (by decide +kernel)) (hs _ (by decide +kernel)) (hs _ (by decide +kernel)) (fun j hj => match j, hj with | 0, _ => hs _ (by decide +kernel) | 1, _ => hs _ (by decide +kernel) | 2, _ => hs _ (by decide +kernel) | 3, _ => hs _ (by decide +kernel) | 4, _ => hs _ (by decide +kernel) | j + 5, h => absurd h (by omega)) hA
  obtain ⟨t15, x15⟩ := cz_tx (A := fun q => s.heap.size ≤ q) (len := 3) (byt := fun j => (([104, 117, 116] : List Int32)).getD j 0) v15 (by decide) (hs _ (by decide +kernel)) (hs _ (by decide +kernel)) (hs _ (by decide +kernel)) (hs _ (by decide +kernel)) (fun j hj => match j, hj with | 0, _ => hs _ (by decide +kernel) | 1, _ => hs _ (by decide +kernel) | 2, _ => hs _ (by decide +kernel) | j + 3, h => absurd h (by omega)) hA
  obtain ⟨t16, x16⟩ := cz_tx (A := fun q => s.heap.size ≤ q) (len := 4) (byt := fun j => (([104, 117, 116, 115] : List Int32)).getD j 0) v12 (by decide) (hs _ (by decide +kernel)) (hs _ (by decide +kernel)) (hs _ (by decide +kernel)) (hs _ (by decide +kernel)) (fun j hj => match j, hj with | 0, _ => hs _ (by decide +kernel) | 1, _ => hs _ (by decide +kernel) | 2, _ => hs _ (by decide +kernel) | 3, _ => hs _ (by decide +kernel) | j + 4, h => absurd h (by omega)) hA
  obtain ⟨t17, x17⟩ := cz_tx (A := fun q => s.heap.size ≤ q) (len := 4) (byt := fun j => (([108, 97, 109, 112] : List Int32)).getD j 0) v2 (by decide) (hs _ (by decide +kernel)) (hs _ (by decide +kernel)) (hs _ (by decide +kernel)) (hs _ (by decide +kernel)) (fun j hj => match j, hj with | 0, _ => hs _ (by decide +kernel) | 1, _ => hs _ (by decide +kernel) | 2, _ => hs _ (by decide +kernel) | 3, _ => hs _ (by decide +kernel) | j + 4, h => absurd h (by omega)) hA
  obtain ⟨t18, x18⟩ := cz_tx (A := fun q => s.heap.size ≤ q) (len := 7) (byt := fun j => (([109, 105, 110, 117, 116, 101, 115] : List Int32)).getD j 0) v11 (by decide) (hs _ (by decide +kernel)) (hs _ (by decide +kernel)) (hs _ (by decide +kernel)) (hs _ (by decide +kernel)) (fun j hj => match j, hj with | 0, _ => hs _ (by decide +kernel) | 1, _ => hs _ (by decide +kernel) | 2, _ => hs _ (by decide +kernel) | 3, _ => hs _ (by decide +kernel) | 4, _ => hs _ (by decide +kernel) | 5, _ => hs _ (by decide +kernel) | 6, _ => hs _ (by decide +kernel) | j + 7, h => absurd h (by omega)) hA
  obtain ⟨t19, x19⟩ := cz_tx (A := fun q => s.heap.size ≤ q) (len := 30) (byt := fun j => (([110, 111, 32, 115, 117, 99, 104, 32, 99, 104, 101, 101, 115, 101, 32, 109, 105, 115, 115, 101, 100, 32, 97, 110, 121, 116, 104, 105, 110, 103] : List Int32)).getD j 0) v26 (by decide) (hs _ (by decide +kernel)) (hs _ (by decide +kernel)) (hs _ (by decide +kernel)) (hs _ (by decide +kernel)) (fun j hj => match j, hj with | 0, _ => hs _ (by decide +kernel) | 1, _ => hs _ (by decide +kernel) | 2, _ => hs _ (by decide +kernel) | 3, _ => hs _ (by decide +kernel) | 4, _ => hs _ (by decide +kernel) | 5, _ => hs _ (by decide +kernel) | 6, _ => hs _ (by decide +kernel) | 7, _ => hs _ (by decide +kernel) | 8, _ => hs _ (by decide +kernel) | 9, _ => hs _ (by decide +kernel) | 10, _ => hs _ (by decide +kernel) | 11, _ => hs _ (by decide +kernel) | 12, _ => hs _ (by decide +kernel) | 13, _ => hs _ (by decide +kernel) | 14, _ => hs _ (by decide +kernel) | 15, _ => hs _ (by decide +kernel) | 16, _ => hs _ (by decide +kernel) | 17, _ => hs _ (by decide +kernel) | 18, _ => hs _ (by decide +kernel) | 19, _ => hs _ (by decide +kernel) | 20, _ => hs _ (by decide +kernel) | 21, _ => hs _ (by decide +kernel) | 22, _ => hs _ (by decide +kernel) | 23, _ => hs _ (by decide +kernel) | 24, _ => hs _ (by decide +kernel) | 25, _ => hs _ (by decide +kernel) | 26, _ => hs _ (by decide +kernel) | 27, _ => hs _ (by decide +kernel) | 28, _ => hs _ (by decide +kernel) | 29, _ => hs _ (by decide +kernel) | j + 30, h => absurd h (by omega)) hA
  obtain ⟨t20, x20⟩ := cz_tx (A := fun q => s.heap.size ≤ q) (len := 6) (byt := fun j => (([112, 114, 105, 99, 101, 115] : List Int32)).getD j 0) v13 (by decide) (hs _ (by decide +kernel)) (hs _ (by decide +kernel)) (hs _ (by decide +kernel)) (hs _ (by decide +kernel)) (fun j hj => match j, hj with | 0, _ => hs _ (by decide +kernel) | 1, _ => hs _ (by decide +kernel) | 2, _ => hs _ (by decide +kernel) | 3, _ => hs _ (by decide +kernel) | 4, _ => hs _ (by decide +kernel) | 5, _ => hs _ (by decide +kernel) | j + 6, h => absurd h (by omega)) hA
  obtain ⟨t21, x21⟩ := cz_tx (A := fun q => s.heap.size ≤ q) (len := 4) (byt := fun j => (([115, 101, 101, 115] : List Int32)).getD j 0) v16 (by decide) (hs _ (by decide +kernel)) (hs _ (by decide +kernel)) (hs _ (by decide +kernel)) (hs _ (by decide +kernel)) (fun j hj => match j, hj with | 0, _ => hs _ (by decide +kernel) | 1, _ => hs _ (by decide +kernel) | 2, _ => hs _ (by decide +kernel) | 3, _ => hs _ (by decide +kernel) | j + 4, h => absurd h (by omega)) hA
  obtain ⟨t22, x22⟩ := cz_tx (A := fun q => s.heap.size ≤ q) (len := 7) (byt := fun j => (([115, 104, 117, 116, 116, 101, 114] : List Int32)).getD j 0) v3 (by decide) (hs _ (by decide +kernel)) (hs _ (by decide +kernel)) (hs _ (by decide +kernel)) (hs _ (by decide +kernel)) (fun j hj => match j, hj with | 0, _ => hs _ (by decide +kernel) | 1, _ => hs _ (by decide +kernel) | 2, _ => hs _ (by decide +kernel) | 3, _ => hs _ (by decide +kernel) | 4, _ => hs _ (by decide +kernel) | 5, _ => hs _ (by decide +kernel) | 6, _ => hs _ (by decide +kernel) | j + 7, h => absurd h (by omega)) hA
  obtain ⟨t23, x23⟩ := cz_tx (A := fun q => s.heap.size ≤ q) (len := 5) (byt := fun j => (([115, 108, 105, 99, 101] : List Int32)).getD j 0) v9 (by decide) (hs _ (by decide +kernel)) (hs _ (by decide +kernel)) (hs _ (by decide +kernel)) (hs _ (by decide +kernel)) (fun j hj => match j, hj with | 0, _ => hs _ (by decide +kernel) | 1, _ => hs _ (by decide +kernel) | 2, _ => hs _ (by decide +kernel) | 3, _ => hs _ (by decide +kernel) | 4, _ => hs _ (by decide +kernel) | j + 5, h => absurd h (by omega)) hA
  obtain ⟨t24, x24⟩ := cz_tx (A := fun q => s.heap.size ≤ q) (len := 5) (byt := fun j => (([116, 97, 107, 101, 115] : List Int32)).getD j 0) v22 (by decide) (hs _ (by decide +kernel)) (hs _ (by decide +kernel)) (hs _ (by decide +kernel)) (hs _ (by decide +kernel)) (fun j hj => match j, hj with | 0, _ => hs _ (by decide +kernel) | 1, _ => hs _ (by decide +kernel) | 2, _ => hs _ (by decide +kernel) | 3, _ => hs _ (by decide +kernel) | 4, _ => hs _ (by decide +kernel) | j + 5, h => absurd h (by omega)) hA
  obtain ⟨t25, x25⟩ := cz_tx (A := fun q => s.heap.size ≤ q) (len := 2) (byt := fun j => (([116, 111] : List Int32)).getD j 0) v20 (by decide) (hs _ (by decide +kernel)) (hs _ (by decide +kernel)) (hs _ (by decide +kernel)) (hs _ (by decide +kernel)) (fun j hj => match j, hj with | 0, _ => hs _ (by decide +kernel) | 1, _ => hs _ (by decide +kernel) | j + 2, h => absurd h (by omega)) hA
  obtain ⟨t26, x26⟩ := cz_tx (A := fun q => s.heap.size ≤ q) (len := 6) (byt := fun j => (([116, 117, 114, 110, 101, 114] : List Int32)).getD j 0) v7 (by decide) (hs _ (by decide +kernel)) (hs _ (by decide +kernel)) (hs _ (by decide +kernel)) (hs _ (by decide +kernel)) (fun j hj => match j, hj with | 0, _ => hs _ (by decide +kernel) | 1, _ => hs _ (by decide +kernel) | 2, _ => hs _ (by decide +kernel) | 3, _ => hs _ (by decide +kernel) | 4, _ => hs _ (by decide +kernel) | 5, _ => hs _ (by decide +kernel) | j + 6, h => absurd h (by omega)) hA
  have hq : va_Zq "jdk/internal/util/Preconditions" "SIOOBE_FORMATTER" "Ljava/util/function/BiFunction;" (fun q => s.heap.size ≤ q) s s.heap := va_Zqof (hts _ (by decide +kernel)) (hts _ (by decide +kernel)) (hs _ (by decide +kernel)) hA
  obtain ⟨f, hf⟩ : ∃ f : Nat, va_Z "jdk/internal/util/Preconditions" "SIOOBE_FORMATTER" "Ljava/util/function/BiFunction;" .null (fun q => s.heap.size ≤ q) s s.heap ∨ va_Z "jdk/internal/util/Preconditions" "SIOOBE_FORMATTER" "Ljava/util/function/BiFunction;" (.ref f) (fun q => s.heap.size ≤ q) s s.heap := by
    rcases hq with h | ⟨f, h⟩
    · exact ⟨0, Or.inl h⟩
    · exact ⟨f, Or.inr h⟩
  refine ⟨fun n => if n = 1000000 then b else if n = 3000000 then f else if 2000000 ≤ n then [t0, t1, t2, t3, t4, t5, t6, t7, t8, t9, t10, t11, t12, t13, t14, t15, t16, t17, t18, t19, t20, t21, t22, t23, t24, t25, t26].getD (n - 2000000) 0 else [a6, a10, a23, a17, a4, a8, a5, a0, a25, a18, a14, a1, a24, a19, a21, a15, a12, a2, a11, a26, a13, a16, a3, a9, a22, a20, a7].getD n 0, by simp, ?_, ?_, ?_⟩
  · unfold cz_SR
    exact List.forall_mem_cons.mpr ⟨v0, List.forall_mem_cons.mpr ⟨v1, List.forall_mem_cons.mpr ⟨v2, List.forall_mem_cons.mpr ⟨v3, List.forall_mem_cons.mpr ⟨v4, List.forall_mem_cons.mpr ⟨v5, List.forall_mem_cons.mpr ⟨v6, List.forall_mem_cons.mpr ⟨v7, List.forall_mem_cons.mpr ⟨v8, List.forall_mem_cons.mpr ⟨v9, List.forall_mem_cons.mpr ⟨v10, List.forall_mem_cons.mpr ⟨v11, List.forall_mem_cons.mpr ⟨v12, List.forall_mem_cons.mpr ⟨v13, List.forall_mem_cons.mpr ⟨v14, List.forall_mem_cons.mpr ⟨v15, List.forall_mem_cons.mpr ⟨v16, List.forall_mem_cons.mpr ⟨v17, List.forall_mem_cons.mpr ⟨v18, List.forall_mem_cons.mpr ⟨v19, List.forall_mem_cons.mpr ⟨v20, List.forall_mem_cons.mpr ⟨v21, List.forall_mem_cons.mpr ⟨v22, List.forall_mem_cons.mpr ⟨v23, List.forall_mem_cons.mpr ⟨v24, List.forall_mem_cons.mpr ⟨v25, List.forall_mem_cons.mpr ⟨v26, List.forall_mem_cons.mpr ⟨v27, List.forall_mem_cons.mpr ⟨v28, List.forall_mem_cons.mpr ⟨v29, List.forall_mem_cons.mpr ⟨v30, List.forall_mem_cons.mpr ⟨v31, List.forall_mem_cons.mpr ⟨v32, List.forall_mem_cons.mpr ⟨v33, List.forall_mem_cons.mpr ⟨v34, List.forall_mem_cons.mpr ⟨v35, List.forall_mem_cons.mpr ⟨v36, List.forall_mem_cons.mpr ⟨v37, List.forall_mem_cons.mpr ⟨v38, List.forall_mem_cons.mpr ⟨v39, List.forall_mem_cons.mpr ⟨v40, List.forall_mem_cons.mpr ⟨v41, List.forall_mem_cons.mpr ⟨v42, List.forall_mem_cons.mpr ⟨v43, List.forall_mem_cons.mpr ⟨v44, List.forall_mem_cons.mpr ⟨v45, List.forall_mem_cons.mpr ⟨v46, List.forall_mem_cons.mpr ⟨v47, List.forall_mem_cons.mpr ⟨v48, List.forall_mem_cons.mpr ⟨v49, List.forall_mem_cons.mpr ⟨v50, List.forall_mem_cons.mpr ⟨v51, List.forall_mem_cons.mpr ⟨v52, fun q hq => by cases hq⟩⟩⟩⟩⟩⟩⟩⟩⟩⟩⟩⟩⟩⟩⟩⟩⟩⟩⟩⟩⟩⟩⟩⟩⟩⟩⟩⟩⟩⟩⟩⟩⟩⟩⟩⟩⟩⟩⟩⟩⟩⟩⟩⟩⟩⟩⟩⟩⟩⟩⟩⟩⟩
  · intro i hi
    match i, hi with
    | 0, _ => exact x0
    | 1, _ => exact x1
    | 2, _ => exact x2
    | 3, _ => exact x3
    | 4, _ => exact x4
    | 5, _ => exact x5
    | 6, _ => exact x6
    | 7, _ => exact x7
    | 8, _ => exact x8
    | 9, _ => exact x9
    | 10, _ => exact x10
    | 11, _ => exact x11
    | 12, _ => exact x12
    | 13, _ => exact x13
    | 14, _ => exact x14
    | 15, _ => exact x15
    | 16, _ => exact x16
    | 17, _ => exact x17
    | 18, _ => exact x18
    | 19, _ => exact x19
    | 20, _ => exact x20
    | 21, _ => exact x21
    | 22, _ => exact x22
    | 23, _ => exact x23
    | 24, _ => exact x24
    | 25, _ => exact x25
    | 26, _ => exact x26
    | i + 27, h => exact absurd h (by unfold cz_NS; omega)
  · exact hf
theorem cz_arrs {args : Array Value} {s : State} (hts : ∀ w ∈ lw_tbl, w.before args s = true) : ∃ cA : Nat → ClassId, ∀ k, k < 9 → ArrOfT s (cA (13 + k)) (cz_ty (13 + k)) ∧ va_RA s (cA (13 + k)) (cz_ty (13 + k)) := by
  have hao : ∀ C ∈ cz_AO, va_AO C s := fun C hC => va_AO.of (hts _ (cz_AOin C hC))
  obtain ⟨c0, p0⟩ := cz_prim (ty := .byte) (Or.inl rfl) (hts _ (cz_low arc_byte))
  obtain ⟨c1, p1⟩ := cz_prim (ty := .int) (Or.inr (Or.inl rfl)) (hts _ (cz_low arc_int))
  obtain ⟨c2, p2⟩ := cz_prim (ty := .long) (Or.inr (Or.inr (Or.inl rfl))) (hts _ (cz_low arc_long))
  obtain ⟨c3, p3⟩ := cz_prim (ty := .boolean) (Or.inr (Or.inr (Or.inr rfl))) (hts _ (cz_low arc_boolean))
  obtain ⟨c4, p4⟩ := cz_over (hao RX1 (by decide +kernel))
  obtain ⟨c5, p5⟩ := cz_over (hao RX2 (by decide +kernel))
  obtain ⟨c6, p6⟩ := cz_over (hao RX3 (by decide +kernel))
  obtain ⟨c7, p7⟩ := cz_over (hao RX4 (by decide +kernel))
  obtain ⟨c8, p8⟩ := cz_over (hao RX9 (by decide +kernel))
  refine ⟨fun k => [c0, c1, c2, c3, c4, c5, c6, c7, c8].getD (k - 13) c0, fun k hk => ?_⟩
  rcases (show k = 0 ∨ k = 1 ∨ k = 2 ∨ k = 3 ∨ k = 4 ∨ k = 5 ∨ k = 6 ∨ k = 7 ∨ k = 8 by omega) with rfl | rfl | rfl | rfl | rfl | rfl | rfl | rfl | rfl
  · exact p0
  · exact p1
  · exact p2
  · exact p3
  · exact p4
  · exact p5
  · exact p6
  · exact p7
  · exact p8
theorem cz_begin {args : Array Value} {s : State} (b : Nat) (hts : ∀ w ∈ lw_tbl, w.before args s = true) (hgv : (Jvm.Cond.and given_1 narrow_1).before args s = true) : ∃ (D : va_G) (cA : Nat → ClassId) (sA : Nat → Nat), sA 1000000 = b ∧ ∀ al : Nat → Nat, cz_K (D, cA, al, sA) s ∧ cz_En (D, cA, al, sA) (fun q => s.heap.size ≤ q) s s.heap := by
  obtain ⟨sA, hb, hS, hTx, hFm⟩ := cz_strs b hts hgv
  have hs := flat_of_before _ hgv
  have hAA : ∀ a : Nat, a < s.heap.size → ¬ (fun q : Nat => s.heap.size ≤ q) a := fun a h => Nat.not_le.mpr h
  have hcs : va_Z "java/lang/String" "COMPACT_STRINGS" "Z" (.int 1) (fun q => s.heap.size ≤ q) s s.heap := va_Zof (hts _ (by decide +kernel)) (hts _ (by decide +kernel)) (va_eqt (hs (.eq (.static "java/lang/String" "COMPACT_STRINGS" "Z") (.int 1)) (by decide +kernel))) hAA
  obtain ⟨cA, hA⟩ := cz_arrs hts
  have hk : ∀ k : Nat, ∃ (cC : ClassId) (iS : Nat → Nat), k < 13 → u_Kn s (cz_on k) (cz_TT k) (cz_nf k) cC iS := by
    intro k
    by_cases h : k < 13
    · obtain ⟨cC, iS, hK⟩ := u_known (C := cz_on k) (T := cz_TT k) (N := cz_nf k) (n := cz_nf k) hts (fun w hw => cz_low ((cz_cls h).2.1 w hw)) (hts _ (cz_low (cz_insA h)))
      exact ⟨cC, iS, fun _ => hK⟩
    · exact ⟨0, fun _ => 0, fun q => absurd q h⟩
  obtain ⟨dD, hdD⟩ : ∃ dD : va_G, ∀ k : Nat, k < 13 → u_Kn s (cz_on k) (cz_TT k) (cz_nf k) (dD.1 k) (dD.2 k) := ⟨(fun k => Classical.choose (hk k), fun k => Classical.choose (Classical.choose_spec (hk k))), fun k h => Classical.choose_spec (Classical.choose_spec (hk k)) h⟩
  refine ⟨dD, cA, sA, hb, fun al => ⟨⟨⟨fun k q hq => ?_, fun k q hq => ?_⟩, fun q hq => va_Nw.of rfl (hts _ (cz_NFin q hq)), fun q hq => va_Nw.of rfl (hts _ (cz_NMin q hq)), fun C hC => va_AO.of (hts _ (cz_AOin C hC)), hS⟩, ⟨hTx, cz_inj hTx⟩, hcs, hFm⟩⟩
  · have hlt : k < 13 := (List.getElem?_eq_some_iff.mp hq).1
    have hc := (cz_cls hlt).1
    cases Option.some.inj (hq.symm.trans hc)
    exact hdD k hlt
  · have hlt : k < 9 := by
      have := (List.getElem?_eq_some_iff.mp hq).1
      simpa [cz_tys] using this
    have hc := cz_tyat (dD, cA, al, sA) (kd := 13 + k) (by omega) (by omega)
    rw [show 13 + k - 13 = k by omega] at hc
    cases Option.some.inj (hq.symm.trans hc)
    exact hA k hlt
