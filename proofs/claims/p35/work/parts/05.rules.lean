/-! ===== locals ===== -/
def cz_ll (g : cz_G) (M : cz_M) (ls : Nat → Option Value) : List (Nat × Value) := (List.range (cz_nL M)).filterMap (fun i => (ls i).map (fun v => (i, cz_rn g v)))
theorem cz_ll_mem {g : cz_G} {M : cz_M} {ls : Nat → Option Value} {i : Nat} {v : Value} (hi : i < cz_nL M) (h : ls i = some v) : (i, cz_rn g v) ∈ cz_ll g M ls := by
  refine List.mem_filterMap.mpr ⟨i, List.mem_range.mpr hi, ?_⟩
  rw [h]; rfl
theorem cz_has {g : cz_G} {M : cz_M} {arr : Array Slot} {ls : Nat → Option Value} (h : cz_lc g M arr ls) : lv_has arr (cz_nL M) (cz_ll g M ls) := by
  refine ⟨h.1, h.2.1, fun q hq => ?_⟩
  obtain ⟨i, -, hi⟩ := List.mem_filterMap.mp hq
  cases hv : ls i with
  | none => rw [hv] at hi; cases hi
  | some v =>
    rw [hv] at hi
    cases hi
    exact h.2.2.1 i v hv
theorem cz_lc_lt {g : cz_G} {M : cz_M} {arr : Array Slot} {ls : Nat → Option Value} (h : cz_lc g M arr ls) {i : Nat} {v : Value} (hv : ls i = some v) : i < cz_nL M := by
  rw [← h.1]; exact lv_lt (h.2.2.1 i v hv)
theorem cz_back1 {g : cz_G} {M : cz_M} {arr arr' : Array Slot} {ls : Nat → Option Value} {i : Nat} {v : Value} (h : cz_lc g M arr ls) (hc : v.category = 1) (hg : ∀ j ∈ cz_lg M, j + 1 ≠ i) (h' : lv_has arr' (cz_nL M) ((i, cz_rn g v) :: (cz_ll g M ls).filter (fun q => !(q.1 == i) && !(q.1 + 1 == i && q.2.category == 2)))) : cz_lc g M arr' (va_up ls i (some v)) := by
  refine ⟨h'.1, h'.2.1, fun j u hj => ?_, fun j u hj hu => ?_⟩
  · by_cases hji : j = i
    · subst hji
      simp only [va_up, if_true, Option.some.injEq] at hj
      subst hj
      exact h'.2.2 _ (List.mem_cons_self)
    · simp only [va_up, if_neg hji] at hj
      refine h'.2.2 (j, cz_rn g u) (List.mem_cons_of_mem _ (List.mem_filter.mpr ⟨cz_ll_mem (cz_lc_lt h hj) hj, ?_⟩))
      have h1 : ¬ (j + 1 = i ∧ u.category = 2) := fun q => hg j (h.2.2.2 j u hj q.2) q.1
      by_cases hq : j + 1 = i
      · have h2 : ¬ u.category = 2 := fun z => h1 ⟨hq, z⟩
        simp [hji, cz_rn_cat, h2]
      · simp [hji, hq]
  · by_cases hji : j = i
    · subst hji
      simp only [va_up, if_true, Option.some.injEq] at hj
      subst hj
      omega
    · simp only [va_up, if_neg hji] at hj
      exact h.2.2.2 j u hj hu
theorem cz_back2 {g : cz_G} {M : cz_M} {arr arr' : Array Slot} {ls : Nat → Option Value} {i : Nat} {x : Int64} (h : cz_lc g M arr ls) (hi : i ∈ cz_lg M) (hg : ∀ j ∈ cz_lg M, j + 1 ≠ i) (h' : lv_has arr' (cz_nL M) ((i, Value.long x) :: (cz_ll g M ls).filter (fun q => !(q.1 == i) && (!(q.1 == i + 1) && !(q.1 + 1 == i && q.2.category == 2))))) : cz_lc g M arr' (va_up (va_up ls i (some (.long x))) (i + 1) none) := by
  refine ⟨h'.1, h'.2.1, fun j u hj => ?_, fun j u hj hu => ?_⟩
  · by_cases hj1 : j = i + 1
    · subst hj1; simp [va_up] at hj
    · rw [va_up, if_neg hj1] at hj
      by_cases hji : j = i
      · subst hji
        simp only [va_up, if_true, Option.some.injEq] at hj
        subst hj
        exact h'.2.2 _ (List.mem_cons_self)
      · simp only [va_up, if_neg hji] at hj
        refine h'.2.2 (j, cz_rn g u) (List.mem_cons_of_mem _ (List.mem_filter.mpr ⟨cz_ll_mem (cz_lc_lt h hj) hj, ?_⟩))
        have h1 : ¬ (j + 1 = i ∧ u.category = 2) := fun q => hg j (h.2.2.2 j u hj q.2) q.1
        by_cases hq : j + 1 = i
        · have h2 : ¬ u.category = 2 := fun z => h1 ⟨hq, z⟩
          simp [hji, hj1, cz_rn_cat, h2]
        · simp [hji, hj1, hq]
  · by_cases hj1 : j = i + 1
    · subst hj1; simp [va_up] at hj
    · rw [va_up, if_neg hj1] at hj
      by_cases hji : j = i
      · subst hji; exact hi
      · simp only [va_up, if_neg hji] at hj
        exact h.2.2.2 j u hj hu
section CzRules2
variable {X : cz_X} {M : cz_M} {pc : Nat} {ls : Nat → Option Value} {st : List Value} {cn : Nat} {K N : Nat → Nat} {I : cz_I} {R : cz_R} {L : cz_L} {n w : Nat}
theorem tr_istore_n {i : Fin 4} {x : Int32} (hd : decode (cz_cc M) pc = .ok (.istore_n i, 1)) (hi : (i : Nat) < cz_nL M) (hg : ∀ j ∈ cz_lg M, j + 1 ≠ (i : Nat)) (k : Tr X M (pc + 1) (va_up ls i (some (.int x))) st cn K N I R L n w) : Tr X M pc ls (.int x :: st) cn K N I R L n w := by
  obtain ⟨p, l, e, s, m, args, below, meth, c, A, Z, g⟩ := X
  intro hC H locs arr hR hS hl
  exact lv_istore_n hC.1 hC.2.1 hd rfl (cz_has hl) hi rfl (fun arr' hl' => k hC H locs arr' hR hS (cz_back1 hl rfl hg hl'))
theorem tr_istore {i : Nat} {x : Int32} (hd : decode (cz_cc M) pc = .ok (.istore i, 2)) (hi : (i : Nat) < cz_nL M) (hg : ∀ j ∈ cz_lg M, j + 1 ≠ (i : Nat)) (k : Tr X M (pc + 2) (va_up ls i (some (.int x))) st cn K N I R L n w) : Tr X M pc ls (.int x :: st) cn K N I R L n w := by
  obtain ⟨p, l, e, s, m, args, below, meth, c, A, Z, g⟩ := X
  intro hC H locs arr hR hS hl
  exact lv_istore hC.1 hC.2.1 hd (cz_has hl) hi rfl (fun arr' hl' => k hC H locs arr' hR hS (cz_back1 hl rfl hg hl'))
theorem tr_astore_n {i : Fin 4} {x : Nat} (hd : decode (cz_cc M) pc = .ok (.astore_n i, 1)) (hi : (i : Nat) < cz_nL M) (hg : ∀ j ∈ cz_lg M, j + 1 ≠ (i : Nat)) (k : Tr X M (pc + 1) (va_up ls i (some (.ref x))) st cn K N I R L n w) : Tr X M pc ls (.ref x :: st) cn K N I R L n w := by
  obtain ⟨p, l, e, s, m, args, below, meth, c, A, Z, g⟩ := X
  intro hC H locs arr hR hS hl
  exact lv_astore_n hC.1 hC.2.1 hd rfl (cz_has hl) hi rfl (fun arr' hl' => k hC H locs arr' hR hS (cz_back1 hl rfl hg hl'))
theorem tr_astore {i : Nat} {x : Nat} (hd : decode (cz_cc M) pc = .ok (.astore i, 2)) (hi : (i : Nat) < cz_nL M) (hg : ∀ j ∈ cz_lg M, j + 1 ≠ (i : Nat)) (k : Tr X M (pc + 2) (va_up ls i (some (.ref x))) st cn K N I R L n w) : Tr X M pc ls (.ref x :: st) cn K N I R L n w := by
  obtain ⟨p, l, e, s, m, args, below, meth, c, A, Z, g⟩ := X
  intro hC H locs arr hR hS hl
  exact lv_astore hC.1 hC.2.1 hd (cz_has hl) hi rfl (fun arr' hl' => k hC H locs arr' hR hS (cz_back1 hl rfl hg hl'))
theorem tr_lstore_n {i : Fin 4} {x : Int64} (hd : decode (cz_cc M) pc = .ok (.lstore_n i, 1)) (hi : (i : Nat) + 1 < cz_nL M) (hm : (i : Nat) ∈ cz_lg M) (hg : ∀ j ∈ cz_lg M, j + 1 ≠ (i : Nat)) (k : Tr X M (pc + 1) (va_up (va_up ls i (some (.long x))) (i + 1) none) st cn K N I R L n w) : Tr X M pc ls (.long x :: st) cn K N I R L n w := by
  obtain ⟨p, l, e, s, m, args, below, meth, c, A, Z, g⟩ := X
  intro hC H locs arr hR hS hl
  exact lv_lstore_n hC.1 hC.2.1 hd rfl (cz_has hl) hi rfl (fun arr' hl' => k hC H locs arr' hR hS (cz_back2 hl hm hg hl'))
theorem tr_iinc {i : Nat} {z : Int} {x : Int32} (hd : decode (cz_cc M) pc = .ok (.iinc i z, 3)) (hv : ls i = some (.int x)) (hg : ∀ j ∈ cz_lg M, j + 1 ≠ i) (k : Tr X M (pc + 3) (va_up ls i (some (.int (x + Int32.ofInt z)))) st cn K N I R L n w) : Tr X M pc ls st cn K N I R L n w := by
  obtain ⟨p, l, e, s, m, args, below, meth, c, A, Z, g⟩ := X
  intro hC H locs arr hR hS hl
  obtain ⟨q, hq⟩ := List.getElem?_of_mem (cz_ll_mem (g := g) (cz_lc_lt hl hv) hv)
  exact lv_iinc hC.1 hC.2.1 hd (cz_has hl) hq rfl (cz_lc_lt hl hv) rfl (fun arr' hl' => k hC H locs arr' hR hS (cz_back1 (v := .int _) hl rfl hg hl'))
theorem cz_fv0 {g : cz_G} {k j : Nat} : cz_fv g I R L k j 0 = .int (I k j) := rfl
theorem cz_fv3 {g : cz_G} {k j : Nat} : cz_fv g I R L k j 3 = .int (I k j) := rfl
theorem cz_fv2 {g : cz_G} {k j : Nat} : cz_fv g I R L k j 2 = .long (L k j) := rfl
theorem cz_fv1 {g : cz_G} {k j x : Nat} (h : R k j = some x) : cz_fv g I R L k j 1 = .ref (cz_al g x) := by rw [cz_fv, if_pos rfl, h]; rfl
theorem cz_fv1n {g : cz_G} {k j : Nat} (h : R k j = none) : cz_fv g I R L k j 1 = .null := by rw [cz_fv, if_pos rfl, h]; rfl
theorem tr_getI {idx ci j k : Nat} {b : Bool} (hd : decode (cz_cc M) pc = .ok (.getfield idx, 3)) (hf : cz_fl M.1 idx = some (ci, j, 0, b)) (hk : K k = ci) (kk : Tr X M (pc + 3) ls (.int (I k j) :: st) cn K N I R L n w) : Tr X M pc ls (.ref k :: st) cn K N I R L n w := by
  obtain ⟨p, l, e, s, m, args, below, meth, c, A, Z, g⟩ := X
  intro hC H locs arr hR hS hl
  refine cz_getf hC hf hk hR hd ?_
  rw [cz_fv0]
  exact kk hC H locs arr hR hS hl
theorem tr_getZ {idx ci j k : Nat} {b : Bool} (hd : decode (cz_cc M) pc = .ok (.getfield idx, 3)) (hf : cz_fl M.1 idx = some (ci, j, 3, b)) (hk : K k = ci) (kk : Tr X M (pc + 3) ls (.int (I k j) :: st) cn K N I R L n w) : Tr X M pc ls (.ref k :: st) cn K N I R L n w := by
  obtain ⟨p, l, e, s, m, args, below, meth, c, A, Z, g⟩ := X
  intro hC H locs arr hR hS hl
  refine cz_getf hC hf hk hR hd ?_
  rw [cz_fv3]
  exact kk hC H locs arr hR hS hl
theorem tr_getL {idx ci j k : Nat} {b : Bool} (hd : decode (cz_cc M) pc = .ok (.getfield idx, 3)) (hf : cz_fl M.1 idx = some (ci, j, 2, b)) (hk : K k = ci) (kk : Tr X M (pc + 3) ls (.long (L k j) :: st) cn K N I R L n w) : Tr X M pc ls (.ref k :: st) cn K N I R L n w := by
  obtain ⟨p, l, e, s, m, args, below, meth, c, A, Z, g⟩ := X
  intro hC H locs arr hR hS hl
  refine cz_getf hC hf hk hR hd ?_
  rw [cz_fv2]
  exact kk hC H locs arr hR hS hl
theorem tr_getR {idx ci j k : Nat} {b : Bool} {x : Nat} (hd : decode (cz_cc M) pc = .ok (.getfield idx, 3)) (hf : cz_fl M.1 idx = some (ci, j, 1, b)) (hk : K k = ci) (hv : R k j = some x) (kk : Tr X M (pc + 3) ls (.ref x :: st) cn K N I R L n w) : Tr X M pc ls (.ref k :: st) cn K N I R L n w := by
  obtain ⟨p, l, e, s, m, args, below, meth, c, A, Z, g⟩ := X
  intro hC H locs arr hR hS hl
  refine cz_getf hC hf hk hR hd ?_
  rw [cz_fv1 hv]
  exact kk hC H locs arr hR hS hl
theorem tr_getN {idx ci j k : Nat} {b : Bool} (hd : decode (cz_cc M) pc = .ok (.getfield idx, 3)) (hf : cz_fl M.1 idx = some (ci, j, 1, b)) (hk : K k = ci) (hv : R k j = none) (kk : Tr X M (pc + 3) ls (.null :: st) cn K N I R L n w) : Tr X M pc ls (.ref k :: st) cn K N I R L n w := by
  obtain ⟨p, l, e, s, m, args, below, meth, c, A, Z, g⟩ := X
  intro hC H locs arr hR hS hl
  refine cz_getf hC hf hk hR hd ?_
  rw [cz_fv1n hv]
  exact kk hC H locs arr hR hS hl
theorem tr_putI {idx ci j k : Nat} {b : Bool} {x : Int32} (hd : decode (cz_cc M) pc = .ok (.putfield idx, 3)) (hf : cz_fl M.1 idx = some (ci, j, 0, b)) (hk : K k = ci) (hw : (cz_TT ci j).2.2.2 = false ∨ ((cz_nm M).name = "<init>" ∧ b = false ∧ (cz_TT ci j).1 = cz_on M.1)) (kk : Tr X M (pc + 3) ls st cn K N (cz_uI I k j x) R L n w) : Tr X M pc ls (.int x :: .ref k :: st) cn K N I R L n w := by
  obtain ⟨p, l, e, s, m, args, below, meth, c, A, Z, g⟩ := X
  intro hC H locs arr hR hS hl
  obtain ⟨h1, h2, h3, -⟩ := cz_fl_spec hf
  have hq := cz_okI x (cz_kd h1 h2 h3)
  exact cz_putf hC hf hk hR hS hd hw hq.1 hq.2 (cz_fsI h3 (by decide) (by decide)) (fun a ha => ⟨cz_uIn ha, rfl, rfl⟩) (fun H1 locs1 hR1 hS1 => kk hC H1 locs1 arr hR1 hS1 hl)
theorem tr_putZ {idx ci j k : Nat} {b : Bool} {x : Int32} (hd : decode (cz_cc M) pc = .ok (.putfield idx, 3)) (hf : cz_fl M.1 idx = some (ci, j, 3, b)) (hk : K k = ci) (hw : (cz_TT ci j).2.2.2 = false ∨ ((cz_nm M).name = "<init>" ∧ b = false ∧ (cz_TT ci j).1 = cz_on M.1)) (hx : x = 0 ∨ x = 1) (kk : Tr X M (pc + 3) ls st cn K N (cz_uI I k j x) R L n w) : Tr X M pc ls (.int x :: .ref k :: st) cn K N I R L n w := by
  obtain ⟨p, l, e, s, m, args, below, meth, c, A, Z, g⟩ := X
  intro hC H locs arr hR hS hl
  obtain ⟨h1, h2, h3, -⟩ := cz_fl_spec hf
  have hq := cz_okZ (cz_kd h1 h2 h3) hx
  exact cz_putf hC hf hk hR hS hd hw hq.1 hq.2 (cz_fsI h3 (by decide) (by decide)) (fun a ha => ⟨cz_uIn ha, rfl, rfl⟩) (fun H1 locs1 hR1 hS1 => kk hC H1 locs1 arr hR1 hS1 hl)
theorem tr_putL {idx ci j k : Nat} {b : Bool} {x : Int64} (hd : decode (cz_cc M) pc = .ok (.putfield idx, 3)) (hf : cz_fl M.1 idx = some (ci, j, 2, b)) (hk : K k = ci) (hw : (cz_TT ci j).2.2.2 = false ∨ ((cz_nm M).name = "<init>" ∧ b = false ∧ (cz_TT ci j).1 = cz_on M.1)) (kk : Tr X M (pc + 3) ls st cn K N I R (cz_uL L k j x) n w) : Tr X M pc ls (.long x :: .ref k :: st) cn K N I R L n w := by
  obtain ⟨p, l, e, s, m, args, below, meth, c, A, Z, g⟩ := X
  intro hC H locs arr hR hS hl
  obtain ⟨h1, h2, h3, -⟩ := cz_fl_spec hf
  have hq := cz_okL x (cz_kd h1 h2 h3)
  exact cz_putf hC hf hk hR hS hd hw hq.1 hq.2 (cz_fsL h3) (fun a ha => ⟨rfl, rfl, cz_uLn ha⟩) (fun H1 locs1 hR1 hS1 => kk hC H1 locs1 arr hR1 hS1 hl)
theorem tr_putR {idx ci j k : Nat} {b : Bool} {x : Nat} (hd : decode (cz_cc M) pc = .ok (.putfield idx, 3)) (hf : cz_fl M.1 idx = some (ci, j, 1, b)) (hk : K k = ci) (hw : (cz_TT ci j).2.2.2 = false ∨ ((cz_nm M).name = "<init>" ∧ b = false ∧ (cz_TT ci j).1 = cz_on M.1)) (kk : Tr X M (pc + 3) ls st cn K N I (cz_uR R k j (some x)) L n w) : Tr X M pc ls (.ref x :: .ref k :: st) cn K N I R L n w := by
  obtain ⟨p, l, e, s, m, args, below, meth, c, A, Z, g⟩ := X
  intro hC H locs arr hR hS hl
  obtain ⟨h1, h2, h3, -⟩ := cz_fl_spec hf
  have hq := cz_okR (v := .ref (cz_al g x)) (cz_kd h1 h2 h3) (Or.inr ⟨_, rfl⟩)
  exact cz_putf hC hf hk hR hS hd hw hq.1 hq.2 (cz_fsR (x := some x) h3) (fun a ha => ⟨rfl, cz_uRn ha, rfl⟩) (fun H1 locs1 hR1 hS1 => kk hC H1 locs1 arr hR1 hS1 hl)
theorem cz_ac13 {g : cz_G} {k : Nat} : cz_ac g I R L k 13 = .inl (I k) := by rw [cz_ac, if_neg (by decide), if_pos (by decide)]
theorem cz_ac14 {g : cz_G} {k : Nat} : cz_ac g I R L k 14 = .inl (I k) := by rw [cz_ac, if_neg (by decide), if_pos (by decide)]
theorem cz_ac16 {g : cz_G} {k : Nat} : cz_ac g I R L k 16 = .inl (I k) := by rw [cz_ac, if_neg (by decide), if_pos (by decide)]
theorem cz_ac15 {g : cz_G} {k : Nat} : cz_ac g I R L k 15 = .inr (.inl (L k)) := by rw [cz_ac, if_pos rfl]
theorem tr_iald {k : Nat} {i : Int32} (hd : decode (cz_cc M) pc = .ok (.iaload, 1)) (hk : K k = 14) (hi : vp_in i (N k)) (kk : Tr X M (pc + 1) ls (.int (I k i.toNatClampNeg) :: st) cn K N I R L n w) : Tr X M pc ls (.int i :: .ref k :: st) cn K N I R L n w := by
  obtain ⟨p, l, e, s, m, args, below, meth, c, A, Z, g⟩ := X
  intro hC H locs arr hR hS hl
  have hg := cz_getA (g := g) (N := N) (I := I) (R := R) (L := L) hR.2.2.2 hk (show 13 ≤ 14 by decide) (by decide)
  rw [cz_ac14] at hg
  exact va_iald (D := g.1) hC.1 hC.2.1 hC.2.2.2.2.2.2.2.2.1.1 hR.1 k (14 - 13) hg (cz_tyat g (kd := 14) (by decide) (by decide)) hi hd (kk hC H locs arr hR hS hl)
theorem tr_bald {k : Nat} {i : Int32} (hd : decode (cz_cc M) pc = .ok (.baload, 1)) (hk : K k = 13) (hi : vp_in i (N k)) (kk : Tr X M (pc + 1) ls (.int (I k i.toNatClampNeg) :: st) cn K N I R L n w) : Tr X M pc ls (.int i :: .ref k :: st) cn K N I R L n w := by
  obtain ⟨p, l, e, s, m, args, below, meth, c, A, Z, g⟩ := X
  intro hC H locs arr hR hS hl
  have hg := cz_getA (g := g) (N := N) (I := I) (R := R) (L := L) hR.2.2.2 hk (show 13 ≤ 13 by decide) (by decide)
  rw [cz_ac13] at hg
  exact va_bald (D := g.1) hC.1 hC.2.1 hC.2.2.2.2.2.2.2.2.1.1 hR.1 k (13 - 13) hg (cz_tyat g (kd := 13) (by decide) (by decide)) hi hd (kk hC H locs arr hR hS hl)
theorem tr_zald {k : Nat} {i : Int32} (hd : decode (cz_cc M) pc = .ok (.baload, 1)) (hk : K k = 16) (hi : vp_in i (N k)) (kk : Tr X M (pc + 1) ls (.int (I k i.toNatClampNeg) :: st) cn K N I R L n w) : Tr X M pc ls (.int i :: .ref k :: st) cn K N I R L n w := by
  obtain ⟨p, l, e, s, m, args, below, meth, c, A, Z, g⟩ := X
  intro hC H locs arr hR hS hl
  have hg := cz_getA (g := g) (N := N) (I := I) (R := R) (L := L) hR.2.2.2 hk (show 13 ≤ 16 by decide) (by decide)
  rw [cz_ac16] at hg
  exact va_zald (D := g.1) hC.1 hC.2.1 hC.2.2.2.2.2.2.2.2.1.1 hR.1 k (16 - 13) hg (cz_tyat g (kd := 16) (by decide) (by decide)) hi hd (kk hC H locs arr hR hS hl)
theorem tr_lald {k : Nat} {i : Int32} (hd : decode (cz_cc M) pc = .ok (.laload, 1)) (hk : K k = 15) (hi : vp_in i (N k)) (kk : Tr X M (pc + 1) ls (.long (L k i.toNatClampNeg) :: st) cn K N I R L n w) : Tr X M pc ls (.int i :: .ref k :: st) cn K N I R L n w := by
  obtain ⟨p, l, e, s, m, args, below, meth, c, A, Z, g⟩ := X
  intro hC H locs arr hR hS hl
  have hg := cz_getA (g := g) (N := N) (I := I) (R := R) (L := L) hR.2.2.2 hk (show 13 ≤ 15 by decide) (by decide)
  rw [cz_ac15] at hg
  exact va_lald (D := g.1) hC.1 hC.2.1 hC.2.2.2.2.2.2.2.2.1.1 hR.1 k (15 - 13) hg (cz_tyat g (kd := 15) (by decide) (by decide)) hi hd (kk hC H locs arr hR hS hl)
theorem cz_tyR {kd : Nat} (h1 : 17 ≤ kd) (h2 : kd < 22) : cz_ty kd = .object (cz_on (cz_el kd)) ∧ cz_el kd < 13 := by
  rcases (show kd = 17 ∨ kd = 18 ∨ kd = 19 ∨ kd = 20 ∨ kd = 21 by exact om_cdcbfd88 h1 h2) with rfl | rfl | rfl | rfl | rfl <;> exact ⟨rfl, by decide⟩
theorem cz_acR {g : cz_G} {k kd : Nat} (h1 : 17 ≤ kd) : cz_ac g I R L k kd = .inr (.inr (.inr (.inr (fun j => (R k j).map (cz_al g))))) := by
  rw [cz_ac, if_neg (by exact om_b0c3e790 h1), if_neg (by exact om_41e360d1 h1)]
theorem tr_aald {k kd x : Nat} {i : Int32} (hd : decode (cz_cc M) pc = .ok (.aaload, 1)) (hk : K k = kd) (h1 : 17 ≤ kd) (h2 : kd < 22) (hi : vp_in i (N k)) (hv : R k i.toNatClampNeg = some x) (kk : Tr X M (pc + 1) ls (.ref x :: st) cn K N I R L n w) : Tr X M pc ls (.int i :: .ref k :: st) cn K N I R L n w := by
  obtain ⟨p, l, e, s, m, args, below, meth, c, A, Z, g⟩ := X
  intro hC H locs arr hR hS hl
  have ht := cz_tyat g (show 13 ≤ kd by exact om_69156807 h1 h2) h2
  rw [(cz_tyR h1 h2).1] at ht
  have hg := cz_getA (g := g) (N := N) (I := I) (R := R) (L := L) hR.2.2.2 hk (show 13 ≤ kd by exact om_69156807 h1 h2) h2
  rw [cz_acR h1] at hg
  have hk1 := kk hC H locs arr hR hS hl
  refine va_aldq (D := g.1) hC.1 hC.2.1 hC.2.2.2.2.2.2.2.2.1.1 hR.1 k (kd - 13) hg ht hi hd ?_
  rw [hv]
  exact hk1
theorem tr_alen {k kd : Nat} (hd : decode (cz_cc M) pc = .ok (.arraylength, 1)) (hk : K k = kd) (h1 : 13 ≤ kd) (h2 : kd < 22) (kk : Tr X M (pc + 1) ls (.int (Int32.ofNat (N k)) :: st) cn K N I R L n w) : Tr X M pc ls (.ref k :: st) cn K N I R L n w := by
  obtain ⟨p, l, e, s, m, args, below, meth, c, A, Z, g⟩ := X
  intro hC H locs arr hR hS hl
  exact va_alen (D := g.1) hC.1 hC.2.1 hC.2.2.2.2.2.2.2.2.1.1 hR.1 k (kd - 13) (cz_getA hR.2.2.2 hk h1 h2) (cz_tyat g h1 h2) rfl hd (kk hC H locs arr hR hS hl)
theorem cz_sz {cA : ClassId} {nn : Nat} {f : Nat → Value} {i : Int32} (h : vp_in i nn) : ¬ (i < 0 ∨ (arrV cA nn f).slots.size ≤ i.toNatClampNeg) := by rw [arrV_size]; exact h
theorem tr_iast {k : Nat} {i : Int32} {x : Int32} (hd : decode (cz_cc M) pc = .ok (.iastore, 1)) (hk : K k = 14) (hi : vp_in i (N k)) (kk : Tr X M (pc + 1) ls st cn K N (cz_uI I k i.toNatClampNeg x) R L n w) : Tr X M pc ls (.int x :: .int i :: .ref k :: st) cn K N I R L n w := by
  obtain ⟨p, l, e, s, m, args, below, meth, c, A, Z, g⟩ := X
  intro hC H locs arr hR hS hl
  have hg := cz_getA (g := g) (N := N) (I := I) (R := R) (L := L) hR.2.2.2 hk (show 13 ≤ 14 by decide) (by decide)
  have hty := (hC.2.2.2.2.2.2.2.2.1.1.2 (14 - 13) _ (cz_tyat g (show 13 ≤ 14 by decide) (by decide))).1 (N k) (fun j => .int (I k j))
  have hcell : H[cz_al g k]? = some (arrV (g.2.1 14) (N k) (fun j => .int (I k j))) := by
    have hh : va_at g.1 vwCl (cz_al g k, .inl (g.2.1 14, N k, cz_ac g I R L k 14)) H := hR.1 k _ hg
    rw [cz_ac14] at hh
    exact hh
  refine W.iast hC.1 hC.2.1 hcell hty (fun q => by cases q) (cz_sz hi) rfl rfl hd fun H1 e1 z oq => ?_
  refine kk hC H1 _ arr (cz_asted hR hk (by decide) (by decide) ?_ z oq (fun a ha => ⟨cz_uIn ha, rfl, rfl⟩)) (hS.put z oq (hR.2.1.2 k _ hg)) hl
  rw [e1, cz_ac14, arrV_store, vp_cell_i]
  congr 2
  funext q
  by_cases hq : q = i.toNatClampNeg
  · subst hq
    simp [updV, cz_uI, upd]
    try rfl
  · simp [updV, cz_uI, upd, hq]
theorem tr_bast {k : Nat} {i : Int32} {x : Int32} (hd : decode (cz_cc M) pc = .ok (.bastore, 1)) (hk : K k = 13) (hi : vp_in i (N k)) (kk : Tr X M (pc + 1) ls st cn K N (cz_uI I k i.toNatClampNeg (vp_nar .byte x)) R L n w) : Tr X M pc ls (.int x :: .int i :: .ref k :: st) cn K N I R L n w := by
  obtain ⟨p, l, e, s, m, args, below, meth, c, A, Z, g⟩ := X
  intro hC H locs arr hR hS hl
  have hg := cz_getA (g := g) (N := N) (I := I) (R := R) (L := L) hR.2.2.2 hk (show 13 ≤ 13 by decide) (by decide)
  have hty := (hC.2.2.2.2.2.2.2.2.1.1.2 (13 - 13) _ (cz_tyat g (show 13 ≤ 13 by decide) (by decide))).1 (N k) (fun j => .int (I k j))
  have hcell : H[cz_al g k]? = some (arrV (g.2.1 13) (N k) (fun j => .int (I k j))) := by
    have hh : va_at g.1 vwCl (cz_al g k, .inl (g.2.1 13, N k, cz_ac g I R L k 13)) H := hR.1 k _ hg
    rw [cz_ac13] at hh
    exact hh
  refine W.bast hC.1 hC.2.1 hcell hty (fun q => by cases q) (cz_sz hi) rfl rfl hd fun H1 e1 z oq => ?_
  refine kk hC H1 _ arr (cz_asted hR hk (by decide) (by decide) ?_ z oq (fun a ha => ⟨cz_uIn ha, rfl, rfl⟩)) (hS.put z oq (hR.2.1.2 k _ hg)) hl
  rw [e1, cz_ac13, arrV_store, vp_cell_i]
  congr 2
  funext q
  by_cases hq : q = i.toNatClampNeg
  · subst hq
    simp [updV, cz_uI, upd, vp_nar]
    try rfl
  · simp [updV, cz_uI, upd, vp_nar, hq]
theorem tr_zast {k : Nat} {i : Int32} {x : Int32} (hd : decode (cz_cc M) pc = .ok (.bastore, 1)) (hk : K k = 16) (hi : vp_in i (N k)) (kk : Tr X M (pc + 1) ls st cn K N (cz_uI I k i.toNatClampNeg (vp_nar .boolean x)) R L n w) : Tr X M pc ls (.int x :: .int i :: .ref k :: st) cn K N I R L n w := by
  obtain ⟨p, l, e, s, m, args, below, meth, c, A, Z, g⟩ := X
  intro hC H locs arr hR hS hl
  have hg := cz_getA (g := g) (N := N) (I := I) (R := R) (L := L) hR.2.2.2 hk (show 13 ≤ 16 by decide) (by decide)
  have hty := (hC.2.2.2.2.2.2.2.2.1.1.2 (16 - 13) _ (cz_tyat g (show 13 ≤ 16 by decide) (by decide))).1 (N k) (fun j => .int (I k j))
  have hcell : H[cz_al g k]? = some (arrV (g.2.1 16) (N k) (fun j => .int (I k j))) := by
    have hh : va_at g.1 vwCl (cz_al g k, .inl (g.2.1 16, N k, cz_ac g I R L k 16)) H := hR.1 k _ hg
    rw [cz_ac16] at hh
    exact hh
  refine W.zast hC.1 hC.2.1 hcell hty (fun q => by cases q) (cz_sz hi) rfl rfl hd fun H1 e1 z oq => ?_
  refine kk hC H1 _ arr (cz_asted hR hk (by decide) (by decide) ?_ z oq (fun a ha => ⟨cz_uIn ha, rfl, rfl⟩)) (hS.put z oq (hR.2.1.2 k _ hg)) hl
  rw [e1, cz_ac16, arrV_store, vp_cell_i]
  congr 2
  funext q
  by_cases hq : q = i.toNatClampNeg
  · subst hq
    simp [updV, cz_uI, upd, vp_nar]
    try rfl
  · simp [updV, cz_uI, upd, vp_nar, hq]
theorem tr_last {k : Nat} {i : Int32} {x : Int64} (hd : decode (cz_cc M) pc = .ok (.lastore, 1)) (hk : K k = 15) (hi : vp_in i (N k)) (kk : Tr X M (pc + 1) ls st cn K N I R (cz_uL L k i.toNatClampNeg x) n w) : Tr X M pc ls (.long x :: .int i :: .ref k :: st) cn K N I R L n w := by
  obtain ⟨p, l, e, s, m, args, below, meth, c, A, Z, g⟩ := X
  intro hC H locs arr hR hS hl
  have hg := cz_getA (g := g) (N := N) (I := I) (R := R) (L := L) hR.2.2.2 hk (show 13 ≤ 15 by decide) (by decide)
  have hty := (hC.2.2.2.2.2.2.2.2.1.1.2 (15 - 13) _ (cz_tyat g (show 13 ≤ 15 by decide) (by decide))).1 (N k) (fun j => .long (L k j))
  have hcell : H[cz_al g k]? = some (arrV (g.2.1 15) (N k) (fun j => .long (L k j))) := by
    have hh : va_at g.1 vwCl (cz_al g k, .inl (g.2.1 15, N k, cz_ac g I R L k 15)) H := hR.1 k _ hg
    rw [cz_ac15] at hh
    exact hh
  refine W.last hC.1 hC.2.1 hcell hty (fun q => by cases q) (cz_sz hi) rfl rfl hd fun H1 e1 z oq => ?_
  refine kk hC H1 _ arr (cz_asted hR hk (by decide) (by decide) ?_ z oq (fun a ha => ⟨rfl, rfl, cz_uLn ha⟩)) (hS.put z oq (hR.2.1.2 k _ hg)) hl
  rw [e1, cz_ac15, arrV_store, vp_cell_l]
  congr 2
  funext q
  by_cases hq : q = i.toNatClampNeg
  · subst hq
    simp [updV, cz_uL, vp_updL]
    try rfl
  · simp [updV, cz_uL, vp_updL, hq]
theorem tr_aast {k kd x : Nat} {i : Int32} (hd : decode (cz_cc M) pc = .ok (.aastore, 1)) (hk : K k = kd) (h1 : 17 ≤ kd) (h2 : kd < 22) (hx : K x = cz_el kd) (hi : vp_in i (N k)) (kk : Tr X M (pc + 1) ls st cn K N I (cz_uR R k i.toNatClampNeg (some x)) L n w) : Tr X M pc ls (.ref x :: .int i :: .ref k :: st) cn K N I R L n w := by
  obtain ⟨p, l, e, s, m, args, below, meth, c, A, Z, g⟩ := X
  intro hC H locs arr hR hS hl
  have hKK := hC.2.2.2.2.2.2.2.2.1.1
  have hlt : i.toNatClampNeg < N k := Nat.not_le.mp fun q => hi (Or.inr q)
  have h0 : ¬ i < 0 := fun q => hi (Or.inl q)
  have hty := cz_tyR h1 h2
  obtain ⟨c1, -⟩ := cz_cls hty.2
  have hg := cz_getA (g := g) (N := N) (I := I) (R := R) (L := L) hR.2.2.2 hk (show 13 ≤ kd by exact om_69156807 h1 h2) h2
  have hgx := cz_getO (g := g) (N := N) (I := I) (R := R) (L := L) hR.2.2.2 hx hty.2
  obtain ⟨r', hr', cellV, g1, g2, g3, -⟩ := hR.1 x _ hgx
  have hcls := (hKK.1 _ _ c1).2
  have htk := (hKK.2 (kd - 13) _ (cz_tyat g (show 13 ≤ kd by exact om_69156807 h1 h2) h2)).2
  rw [hty.1] at htk
  obtain ⟨kA, comp, k1, k2, k3, -⟩ := htk
  have hcomp : comp = g.1.1 (cz_el kd) := Option.some.inj (k3.symm.trans hcls.1)
  subst hcomp
  obtain ⟨kC, hkC, -⟩ := hcls.2
  have hcell : H[cz_al g k]? = some (arrV (g.2.1 kd) (N k) (fun j => va_rf ((R k j).map (cz_al g)))) := by
    have hh : va_at g.1 vwCl (cz_al g k, .inl (g.2.1 kd, N k, cz_ac g I R L k kd)) H := hR.1 k _ hg
    rw [cz_acR h1] at hh
    exact hh
  refine W.aast hC.1 hC.2.1 hcell (fun q h => by cases h) (fun h => by cases h) k1 k2 rfl hkC ⟨h0, by rw [arrV_size]; exact hlt⟩ g1 (fun q h => by rw [g3] at h; cases h) (by rw [g2]; exact hkC) (by rw [g2]; exact va_assign hcls) rfl rfl hd fun H1 e1 z oq => ?_
  refine kk hC H1 _ arr (cz_asted hR hk (by exact om_69156807 h1 h2) h2 ?_ z oq (fun a ha => ⟨rfl, cz_uRn ha, rfl⟩)) (hS.put z oq (hR.2.1.2 k _ hg)) hl
  rw [e1, cz_acR h1, arrV_store, vp_cell_q]
  congr 2
  funext q
  by_cases hq : q = i.toNatClampNeg
  · subst hq
    simp [updV, cz_uR, va_up, va_rf]
  · simp [updV, cz_uR, va_up, hq]
/-! ===== what is made ===== -/
theorem cz_zero {g : cz_G} {k ci j : Nat} (h : ci < 13) (hj : j < cz_nf ci) (h1 : ∀ i, I k i = 0) (h2 : ∀ i, R k i = none) (h3 : ∀ i, L k i = 0) : defaultValue (cz_tf ci j) = vp_V (cz_fs g I R L k ci) j := by
  obtain ⟨-, -, -, -, c5, -⟩ := cz_cls h
  obtain ⟨kd, hkd⟩ : ∃ kd, (cz_fk ci)[j]? = some kd := ⟨_, List.getElem?_eq_getElem (by rw [c5]; exact hj)⟩
  have hck := cz_kd h hj hkd
  rw [vp_V, List.getD_eq_getElem?_getD, cz_fs_at hkd, Option.getD_some]
  rcases (show kd = 0 ∨ kd = 1 ∨ kd = 2 ∨ kd = 3 by
    match kd, hck with
    | 0, _ => exact Or.inl rfl
    | 1, _ => exact Or.inr (Or.inl rfl)
    | 2, _ => exact Or.inr (Or.inr (Or.inl rfl))
    | kd + 3, hck => have : kd + 3 = 3 ∧ cz_tf ci j = .boolean := by simpa [cz_ck] using hck
                     exact Or.inr (Or.inr (Or.inr this.1))) with rfl | rfl | rfl | rfl
  · rw [cz_fv0, h1, show cz_tf ci j = .int by simpa [cz_ck] using hck]; rfl
  · rw [cz_fv1n (h2 j)]
    unfold cz_ck at hck
    simp only at hck
    split at hck
    · rename_i q hq; rw [hq]; rfl
    · rename_i q hq; rw [hq]; rfl
    · cases hck
  · rw [cz_fv2, h3, show cz_tf ci j = .long by simpa [cz_ck] using hck]; rfl
  · rw [cz_fv3, h1, show cz_tf ci j = .boolean by simpa [cz_ck] using hck]; rfl
theorem tr_new {idx ci : Nat} (hd : decode (cz_cc M) pc = .ok (.new idx, 3)) (hci : ci < 13) (hl1 : Cond.classLink (cz_on M.1) idx (cz_on ci) ∈ cz_T) (hl2 : Cond.instantiable (cz_on ci) (cz_nf ci) ∈ cz_T) (hl3 : Cond.initialized (cz_on ci) ∈ cz_T) (hn : n + 1 ≤ (cz_rm M).cells) (hw : w + cz_nf ci ≤ (cz_rm M).slots)
    (kk : Tr X M (pc + 3) ls (.ref cn :: st) (cn + 1) (va_up K cn ci) (va_up N cn 0) (va_up I cn (fun _ => 0)) (va_up R cn (fun _ => none)) (va_up L cn (fun _ => 0)) (n + 1) (w + cz_nf ci)) : Tr X M pc ls st cn K N I R L n w := by
  obtain ⟨p, l, e, s, m, args, below, meth, c, A, Z, g⟩ := X
  intro hC H locs arr hR hS hl
  obtain ⟨hx, hb, hml, hown, hts, hr, hlocks, hin, hKK, hA⟩ := id hC
  obtain ⟨c1, c2, c3, c4, c5, c6⟩ := cz_cls hci
  have hKn := hKK.1.1 ci _ c1
  refine W.newcK hx hb hown (hts _ hl1) (hts _ hl2) (hts _ hl3) rfl hd hn hw hKn.2.1 rfl fun H1 kC hkC e1 z1 o1 => ?_
  have ha : cz_al g cn = H.size := by have := hR.2.2.1 0; simpa using this
  have up : ∀ {α : Type} {f : Nat → α} {v : α} (a : Nat), a < cn → va_up f cn v a = f a := fun a h => by rw [va_up, if_neg (by exact om_41211277 h)]
  obtain ⟨f1, f2⟩ := cz_pushed (s := s) (kd := ci) (len := 0) (e0 := .inr (ci, cz_fs g (va_up I cn (fun _ => 0)) (va_up R cn (fun _ => none)) (va_up L cn (fun _ => 0)) cn ci)) (K' := va_up K cn ci) (N' := va_up N cn 0) (I' := va_up I cn (fun _ => 0)) (R' := va_up R cn (fun _ => none)) (L' := va_up L cn (fun _ => 0)) hR hS hA rfl rfl (fun a h => up a h) (fun a h => up a h) (fun a h => up a h)
    (by rw [cz_ce, show va_up K cn ci cn = ci by simp [va_up], if_pos hci]) ⟨_, c1, (u_born (cz_tf ci) hts c2 hKn hkC e1 c3).to (fun j hj => cz_zero hci hj (fun i => by simp [va_up]) (fun i => by simp [va_up]) (fun i => by simp [va_up]))⟩ z1 o1
  have hk := kk hC H1 locs arr f1 f2 hl
  rw [List.map_cons, show cz_rn g (.ref cn) = .ref H.size by rw [← ha]; rfl] at hk
  exact hk
def cz_at : ArrayType → Nat
  | .byte => 13
  | .int => 14
  | .long => 15
  | .boolean => 16
  | _ => 99
theorem tr_newa {ty : ArrayType} {x : Int32} {len : Nat} (hd : decode (cz_cc M) pc = .ok (.newarray ty, 2)) (hty : cz_at ty < 99) (hl1 : Cond.arrayClass (newarray.typeOf ty) ∈ cz_T) (hx0 : ¬ x < 0) (hlen : x.toNatClampNeg = len) (hsm : len ≤ 4096) (hn : n + 1 ≤ (cz_rm M).cells) (hw : w + len ≤ (cz_rm M).slots)
    (kk : Tr X M (pc + 2) ls (.ref cn :: st) (cn + 1) (va_up K cn (cz_at ty)) (va_up N cn len) (va_up I cn (fun _ => 0)) (va_up R cn (fun _ => none)) (va_up L cn (fun _ => 0)) (n + 1) (w + len)) : Tr X M pc ls (.int x :: st) cn K N I R L n w := by
  obtain ⟨p, l, e, s, m, args, below, meth, c, A, Z, g⟩ := X
  intro hC H locs arr hR hS hl
  obtain ⟨hx, hb, hml, hown, hts, hr, hlocks, hin, hKK, hA⟩ := id hC
  have hb4 : len * componentBytes (newarray.typeOf ty) ≤ 536870912 := by
    have : componentBytes (newarray.typeOf ty) ≤ 8 := by cases ty <;> decide
    exact Nat.le_trans (Nat.mul_le_mul hsm this) (by decide)
  refine va_newaK hx hb (hts _ hl1) rfl hd rfl hx0 hlen hb4 hn hw rfl fun H1 cA e1 z1 o1 hAr hNm => ?_
  have ha : cz_al g cn = H.size := by have := hR.2.2.1 0; simpa using this
  have up : ∀ {α : Type} {f : Nat → α} {v : α} (a : Nat), a < cn → va_up f cn v a = f a := fun a h => by rw [va_up, if_neg (by exact om_41211277 h)]
  have hk13 : 13 ≤ cz_at ty := by revert hty; cases ty <;> decide
  have hk17 : cz_at ty < 17 := by revert hty; cases ty <;> decide
  have hcz : cz_ty (cz_at ty) = newarray.typeOf ty := by revert hty; cases ty <;> decide
  have hcA : g.2.1 (cz_at ty) = cA := by
    have h1 := (hKK.1.2 (cz_at ty - 13) _ (cz_tyat g hk13 (by exact om_83e24c62 hty hk13 hk17))).2
    rw [hcz] at h1
    have h2 : s.vm.findClass ("[" ++ (newarray.typeOf ty).toString) = some (g.2.1 (cz_at ty)) := by revert h1; cases ty <;> exact fun h => h
    exact Option.some.inj (h2.symm.trans hNm)
  obtain ⟨f1, f2⟩ := cz_pushed (s := s) (kd := cz_at ty) (len := len) (e0 := .inl (g.2.1 (cz_at ty), len, cz_ac g (va_up I cn (fun _ => 0)) (va_up R cn (fun _ => none)) (va_up L cn (fun _ => 0)) cn (cz_at ty))) (K' := va_up K cn (cz_at ty)) (N' := va_up N cn len) (I' := va_up I cn (fun _ => 0)) (R' := va_up R cn (fun _ => none)) (L' := va_up L cn (fun _ => 0)) hR hS hA rfl rfl (fun a h => up a h) (fun a h => up a h) (fun a h => up a h)
    (by rw [cz_ce, show va_up K cn (cz_at ty) cn = cz_at ty by simp [va_up], if_neg (by exact om_006fadde hty hk13 hk17), show va_up N cn len cn = len by simp [va_up]]) (by
      show H1[H.size]? = some (vp_cell _ _)
      rw [e1, hcA]
      revert hty
      cases ty <;> intro hty <;> first | (exact absurd hty (by decide)) | (simp only [cz_at, cz_ac]; simp [vp_cell, va_up]; try rfl)) z1 o1
  have hk := kk hC H1 locs arr f1 f2 hl
  rw [List.map_cons, show cz_rn g (.ref cn) = .ref H.size by rw [← ha]; rfl] at hk
  exact hk
theorem tr_newq {idx kd : Nat} {x : Int32} {len : Nat} (hd : decode (cz_cc M) pc = .ok (.anewarray idx, 3)) (h1 : 17 ≤ kd) (h2 : kd < 22) (hl1 : Cond.classLink (cz_on M.1) idx (cz_on (cz_el kd)) ∈ cz_T) (hl2 : cz_on (cz_el kd) ∈ cz_AO) (hx0 : ¬ x < 0) (hlen : x.toNatClampNeg = len) (hsm : len ≤ 4096) (hn : n + 1 ≤ (cz_rm M).cells) (hw : w + len ≤ (cz_rm M).slots)
    (kk : Tr X M (pc + 3) ls (.ref cn :: st) (cn + 1) (va_up K cn kd) (va_up N cn len) (va_up I cn (fun _ => 0)) (va_up R cn (fun _ => none)) (va_up L cn (fun _ => 0)) (n + 1) (w + len)) : Tr X M pc ls (.int x :: st) cn K N I R L n w := by
  obtain ⟨p, l, e, s, m, args, below, meth, c, A, Z, g⟩ := X
  intro hC H locs arr hR hS hl
  obtain ⟨hx, hb, hml, hown, hts, hr, hlocks, hin, hKK, hA⟩ := id hC
  subst hlen
  have hty := cz_tyR h1 h2
  refine W.anew hx hb hown (hts _ hl1) (va_AO.use (hKK.2.2.2.1 _ hl2)) rfl hd rfl hx0 (by exact om_387c2bad hsm) hn hw fun cA kA comp q1 q2 q3 q4 => ?_
  generalize hH1 : H.push ({ cls := cA, slots := Array.replicate x.toNatClampNeg .null, vm := .none } : Cell) = H1
  have z1 : H1.size = H.size + 1 := by rw [← hH1, Array.size_push]
  have e1 : H1[H.size]? = some (arrV cA x.toNatClampNeg (fun _ => .null)) := by rw [← hH1, Array.getElem?_push_size, ← arrV_new]
  have o1 : ∀ q : Nat, q < H.size → H1[q]? = H[q]? := fun q hq => by rw [← hH1, Array.getElem?_push, if_neg (Nat.ne_of_lt hq)]
  have ha : cz_al g cn = H.size := by have := hR.2.2.1 0; simpa using this
  have up : ∀ {α : Type} {f : Nat → α} {v : α} (a : Nat), a < cn → va_up f cn v a = f a := fun a h => by rw [va_up, if_neg (by exact om_41211277 h)]
  have hcA : g.2.1 kd = cA := by
    have h3 := (hKK.1.2 (kd - 13) _ (cz_tyat g (show 13 ≤ kd by exact om_69156807 h1 h2) h2)).2
    rw [hty.1] at h3
    obtain ⟨kA', comp', -, -, -, h4⟩ := h3
    exact Option.some.inj (h4.symm.trans q1)
  obtain ⟨f1, f2⟩ := cz_pushed (s := s) (kd := kd) (len := x.toNatClampNeg) (e0 := .inl (g.2.1 kd, x.toNatClampNeg, cz_ac g (va_up I cn (fun _ => 0)) (va_up R cn (fun _ => none)) (va_up L cn (fun _ => 0)) cn kd)) (K' := va_up K cn kd) (N' := va_up N cn x.toNatClampNeg) (I' := va_up I cn (fun _ => 0)) (R' := va_up R cn (fun _ => none)) (L' := va_up L cn (fun _ => 0)) hR hS hA rfl rfl (fun a h => up a h) (fun a h => up a h) (fun a h => up a h)
    (by rw [cz_ce, show va_up K cn kd cn = kd by simp [va_up], if_neg (by exact om_80467f91 h1 h2), show va_up N cn x.toNatClampNeg cn = x.toNatClampNeg by simp [va_up]]) (by
      show H1[H.size]? = some (vp_cell _ _)
      rw [e1, hcA, cz_acR h1]
      simp [vp_cell, va_up, va_rf]) z1 o1
  have hk := kk hC H1 locs arr f1 f2 hl
  rw [List.map_cons, show cz_rn g (.ref cn) = .ref H.size by rw [← ha]; rfl] at hk
  exact hk
/-! ===== constants ===== -/
theorem tr_ldc {idx : Nat} {v : Int32} (hd : decode (cz_cc M) pc = .ok (.ldc idx, 2)) (hl1 : Cond.constant (cz_on M.1) idx v ∈ cz_T) (k : Tr X M (pc + 2) ls (.int v :: st) cn K N I R L n w) : Tr X M pc ls st cn K N I R L n w := by
  obtain ⟨p, l, e, s, m, args, below, meth, c, A, Z, g⟩ := X
  intro hC H locs arr hR hS hl
  exact lv_ldc hC.1 hC.2.1 hC.2.2.2.1 (hC.2.2.2.2.1 _ hl1) hd (k hC H locs arr hR hS hl)
theorem tr_ldcw {idx : Nat} {v : Int32} (hd : decode (cz_cc M) pc = .ok (.ldc_w idx, 3)) (hl1 : Cond.constant (cz_on M.1) idx v ∈ cz_T) (k : Tr X M (pc + 3) ls (.int v :: st) cn K N I R L n w) : Tr X M pc ls st cn K N I R L n w := by
  obtain ⟨p, l, e, s, m, args, below, meth, c, A, Z, g⟩ := X
  intro hC H locs arr hR hS hl
  exact lv_ldcw hC.1 hC.2.1 hC.2.2.2.1 (hC.2.2.2.2.1 _ hl1) hd (k hC H locs arr hR hS hl)
theorem tr_ldc2 {idx : Nat} {v : Int64} (hd : decode (cz_cc M) pc = .ok (.ldc2_w idx, 3)) (hl1 : Cond.constantLong (cz_on M.1) idx v ∈ cz_T) (k : Tr X M (pc + 3) ls (.long v :: st) cn K N I R L n w) : Tr X M pc ls st cn K N I R L n w := by
  obtain ⟨p, l, e, s, m, args, below, meth, c, A, Z, g⟩ := X
  intro hC H locs arr hR hS hl
  exact lv_ldc2 hC.1 hC.2.1 hC.2.2.2.1 (hC.2.2.2.2.1 _ hl1) hd (k hC H locs arr hR hS hl)
theorem tr_ldcS {idx : Nat} {tx : String} {u : UInt32} (hd : decode (cz_cc M) pc = .ok (.ldc idx, 2)) (hl1 : (cz_on M.1, idx, tx, u.toNat) ∈ cz_SR) (k : Tr X M (pc + 2) ls (.float u :: st) cn K N I R L n w) : Tr X M pc ls st cn K N I R L n w := by
  obtain ⟨p, l, e, s, m, args, below, meth, c, A, Z, g⟩ := X
  intro hC H locs arr hR hS hl
  have hKK : cz_K g s := hC.2.2.2.2.2.2.2.2.1
  have hz : vk_R (cz_on M.1) idx tx (cz_sa g u.toNat) s := hKK.2.2.2.2 (cz_on M.1, idx, tx, u.toNat) hl1
  have hk := k hC H locs arr hR hS hl
  rw [List.map_cons, show cz_rn g (.float u) = .ref (cz_sa g u.toNat) from rfl] at hk
  exact va_ldcS hC.1 hC.2.1 hC.2.2.2.1 hz hd hk
theorem cz_ldcWS {p : Program} {l : Launch} {e : Env} {Rm : Room} {s : State} {m : MethodId} {args : Array Value} {below : List Frame} {meth : Method} {c : Code} {H : Heap} {locs : List Loc} {cells slots : Nat} {Q : State → Prop} {arr : Array Slot} {rest : List Value} {cc : ByteArray} (hexec : p.tables.exec = Jvm.exec) (hb : c.code = cc) {own tx : String} {index q : Nat} (hown : s.vm.findClass own = some m.cls) (hZ : vk_R own index tx q s) (hdg : decode cc pc = .ok (.ldc_w index, 3))
    (k : W p l e Rm s m args below meth c H locs cells slots Q (F0 m (pc + 3) arr (.ref q :: rest))) : W p l e Rm s m args below meth c H locs cells slots Q (F0 m pc arr rest) := by
  intro T hT X
  obtain ⟨t, a1, b1⟩ := k T hT X
  refine ⟨t, ?_, b1⟩
  obtain ⟨k, cf, i, a', hk, hcf, hcp, -, hr, hev'⟩ := Cond.stringRef_spec hown hZ.1
  cases hZ.2.symm.trans hev'
  obtain ⟨k', hk', he⟩ := X.warmed.alike.2.2 _ _ hk
  have hr' : k'.resolved[index]? = some (some (.string q)) := by
    rcases X.warmed.entry hk hk' index with h | ⟨h, -⟩
    · rw [h]; exact hr
    · rw [hr] at h; cases h
  subst hb
  jvm_step X.here [hexec, hdg, ldc_w.wp_string (e := e) (s := T) (f := F0 m pc arr rest) X.here.top hk' (by rw [he]; exact hcf) hcp hr']
  exact a1
theorem tr_ldcwS {idx : Nat} {tx : String} {u : UInt32} (hd : decode (cz_cc M) pc = .ok (.ldc_w idx, 3)) (hl1 : (cz_on M.1, idx, tx, u.toNat) ∈ cz_SR) (k : Tr X M (pc + 3) ls (.float u :: st) cn K N I R L n w) : Tr X M pc ls st cn K N I R L n w := by
  obtain ⟨p, l, e, s, m, args, below, meth, c, A, Z, g⟩ := X
  intro hC H locs arr hR hS hl
  have hKK : cz_K g s := hC.2.2.2.2.2.2.2.2.1
  have hz : vk_R (cz_on M.1) idx tx (cz_sa g u.toNat) s := hKK.2.2.2.2 (cz_on M.1, idx, tx, u.toNat) hl1
  have hk := k hC H locs arr hR hS hl
  rw [List.map_cons, show cz_rn g (.float u) = .ref (cz_sa g u.toNat) from rfl] at hk
  exact cz_ldcWS hC.1 hC.2.1 hC.2.2.2.1 hz hd hk
end CzRules2
