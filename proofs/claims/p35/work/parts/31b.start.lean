/-! ===== beyond a cell's end nothing lies ===== -/
def bdk (k n : Nat) : Nat := if k < 13 then 36 else n
def GB (cn : Nat) (K N : Nat → Nat) (I : cz_I) (R : cz_R) : Prop := (∀ k, cn ≤ k → I k = (fun _ => 0) ∧ R k = (fun _ => none)) ∧ ∀ k j, k < cn → bdk (K k) (N k) ≤ j → I k j = 0 ∧ R k j = none
theorem cz_nf36 : ∀ c < 13, cz_nf c ≤ 36 := by decide
section CzGB
variable {cn : Nat} {K N : Nat → Nat} {I : cz_I} {R : cz_R} {k j ci x idx M1 : Nat} {b : Bool} {P : Prop}
theorem GB.new {c n : Nat} (h : GB cn K N I R) : GB (cn + 1) (va_up K cn c) (va_up N cn n) I R := by
  refine ⟨fun k hk => h.1 k (by omega), fun k j hk hj => ?_⟩
  by_cases q : k = cn
  · subst q
    obtain ⟨e1, e2⟩ := h.1 k (Nat.le_refl _)
    rw [e1, e2]; exact ⟨rfl, rfl⟩
  · rw [va_upn q, va_upn q] at hj
    exact h.2 k j (by omega) hj
theorem GB.uR {y : Option Nat} (h : GB cn K N I R) (hk : k < cn) (hj : j < bdk (K k) (N k)) : GB cn K N I (cz_uR R k j y) := by
  refine ⟨fun a ha => ⟨(h.1 a ha).1, by rw [cz_uRn (by omega)]; exact (h.1 a ha).2⟩, fun a i ha hi => ⟨(h.2 a i ha hi).1, ?_⟩⟩
  rw [uR_ne]
  · exact (h.2 a i ha hi).2
  · rintro ⟨rfl, rfl⟩; omega
theorem GB.uI {y : Int32} (h : GB cn K N I R) (hk : k < cn) (hj : j < bdk (K k) (N k)) : GB cn K N (cz_uI I k j y) R := by
  refine ⟨fun a ha => ⟨by rw [cz_uIn (by omega)]; exact (h.1 a ha).1, (h.1 a ha).2⟩, fun a i ha hi => ⟨?_, (h.2 a i ha hi).2⟩⟩
  rw [uI_ne]
  · exact (h.2 a i ha hi).1
  · rintro ⟨rfl, rfl⟩; omega
theorem bdk_f {kd : Nat} (hf : cz_fl M1 idx = some (ci, j, kd, b)) (hk : K k = ci) : j < bdk (K k) (N k) := by
  obtain ⟨h1, h2, -⟩ := cz_fl_spec hf
  rw [hk, bdk, if_pos h1]
  have := cz_nf36 ci h1
  omega
theorem GB.putRf (h : GB cn K N I R) (hf : cz_fl M1 idx = some (ci, j, 1, b)) (hc : K k = ci ∧ (k < cn ∧ x < cn) ∧ P) : GB cn K N I (cz_uR R k j (some x)) := h.uR hc.2.1.1 (bdk_f hf hc.1)
theorem GB.putIf {y : Int32} (h : GB cn K N I R) (hf : cz_fl M1 idx = some (ci, j, 0, b)) (hc : K k = ci ∧ k < cn ∧ P) : GB cn K N (cz_uI I k j y) R := h.uI hc.2.1 (bdk_f hf hc.1)
theorem GB.putAf {i : Int32} (h : GB cn K N I R) (hc : 17 ≤ K k ∧ K k < 22 ∧ K x = cz_el (K k) ∧ ¬ (i < 0 ∨ N k ≤ i.toNatClampNeg) ∧ k < cn ∧ x < cn) : GB cn K N I (cz_uR R k i.toNatClampNeg (some x)) := h.uR hc.2.2.2.2.1 (by
  rw [bdk, if_neg (by omega)]
  exact Nat.not_le.mp fun q => hc.2.2.2.1 (Or.inr q))
end CzGB
set_option maxHeartbeats 4000000 in
theorem cz_go_gb : ∀ (f : Nat) (M : cz_M) (pc : Nat) (ls : Nat → Option Value) (st : List Value) (cn : Nat) (K N : Nat → Nat) (I : cz_I) (R : cz_R) (n w cn' : Nat) (K' N' : Nat → Nat) (I' : cz_I) (R' : cz_R), cz_go f M pc ls st cn K N I R n w = some (cn', K', N', I', R') → GB cn K N I R → GB cn' K' N' I' R' := by
  intro f
  induction f with
  | zero => intro M pc ls st cn K N I R n w cn' K' N' I' R' h; cases h
  | succ f ih =>
    intro M pc ls st cn K N I R n w cn' K' N' I' R' h hG
    rw [cz_go.eq_def] at h
    dsimp only at h
    repeat' (split at h)
    all_goals first
      | (cases h; done)
      | (cases h; exact hG)
      | exact ih _ _ _ _ _ _ _ _ _ _ _ _ _ _ _ _ h hG
      | exact ih _ _ _ _ _ _ _ _ _ _ _ _ _ _ _ _ h hG.new
      | exact ih _ _ _ _ _ _ _ _ _ _ _ _ _ _ _ _ h (hG.putRf (by assumption) (by assumption))
      | exact ih _ _ _ _ _ _ _ _ _ _ _ _ _ _ _ _ h (hG.putIf (by assumption) (by assumption))
      | exact ih _ _ _ _ _ _ _ _ _ _ _ _ _ _ _ _ h (hG.putAf (by assumption))
      | exact ih _ _ _ _ _ _ _ _ _ _ _ _ _ _ _ _ h (ih _ _ _ _ _ _ _ _ _ _ _ _ _ _ _ _ (by assumption) hG)
/-! ===== the store behind the constructors keeps to the roles ===== -/
def t0L : List Nat := [1, 17, 2, 18, 19, 20, 6, 24, 21, 22, 23, 3, 3, 3, 3, 3, 3, 3, 3, 3, 3, 3, 3, 3, 3, 4, 4, 4, 4, 4, 5, 5, 5, 5, 5, 5, 6, 24, 6, 24, 6, 24, 6, 24, 2, 18, 19, 20, 6, 24, 21, 22, 23, 3, 3, 3, 3, 3, 3, 3, 3, 3, 3, 3, 3, 3, 3, 4, 4, 4, 4, 4, 5, 5, 5, 5, 5, 5, 6, 24, 6, 24, 6, 24, 6, 24, 7, 25, 26, 8, 27, 28, 11, 33, 34, 10, 31, 32, 10, 31, 32, 10, 31, 32, 10, 31, 32, 10, 31, 32, 10, 31, 32, 10, 31, 32, 10, 31, 32, 10, 31, 32, 10, 31, 32, 10, 31, 32, 10, 31, 32, 10, 31, 32, 10, 31, 32, 10, 31, 32, 12, 35, 36, 37, 38, 39, 40, 41, 42, 43, 13, 44, 45, 46, 47, 48, 49, 50, 51, 52, 9, 29, 30, 12, 35, 36, 37, 38, 39, 40, 41, 42, 43, 13, 44, 45, 46, 47, 48, 49, 50, 51, 52, 15, 76, 77, 78, 79, 81, 82, 83, 84, 85, 86, 87, 88, 89, 90, 91, 92, 93, 80, 94]
def t0 (a : Nat) : Nat := t0L.getD a 0
theorem t0_kd : ∀ a < 202, kd0 a = rk (t0 a) ∧ ln0 a = rn (t0 a) ∧ t0 a ≠ 0 := by decide +kernel
theorem t0_iB : (List.range 202).all (fun a => (List.range (max (ln0 a) 36)).all (fun j => decide ((riv (t0 a) j).1 ≤ (in0 a j).toInt) && decide ((in0 a j).toInt ≤ (riv (t0 a) j).2))) = true := by decide +kernel
theorem t0_i : ∀ a < 202, ∀ j < max (ln0 a) 36, (riv (t0 a) j).1 ≤ (in0 a j).toInt ∧ (in0 a j).toInt ≤ (riv (t0 a) j).2 := by
  intro a ha j hj
  have e := List.all_eq_true.mp (List.all_eq_true.mp t0_iB a (List.mem_range.mpr ha)) j (List.mem_range.mpr hj)
  simpa using e
def chkR (q : Nat) (x : Option Nat) : Bool := q == 0 || (Nat.ble 1000 q && x == none) || (match x with
  | some b => Nat.ble 1 q && t0 b == cond (Nat.ble 1000 q) (q - 1000) q
  | none => false)
theorem chkR_ok {q : Nat} {x : Option Nat} (h : chkR q x = true) : okR t0 q x := by
  unfold chkR at h
  simp only [Bool.or_eq_true, beq_iff_eq, Bool.and_eq_true] at h
  rcases h with (h | h) | h
  · exact Or.inl h
  · exact Or.inr (Or.inl ⟨Nat.le_of_ble_eq_true h.1, h.2⟩)
  · cases x with
    | none => cases h
    | some b =>
      simp only [Bool.and_eq_true, beq_iff_eq] at h
      exact Or.inr (Or.inr ⟨Nat.le_of_ble_eq_true h.1, b, rfl, h.2⟩)
theorem t0_r : (List.range 202).all (fun a => (List.range (rfL.getD a []).length).all (fun j => chkR (rrf (t0 a) j) (rf0 a j))) = true := by decide +kernel

def pz (p : Int × Int) : Prop := p.1 ≤ 0 ∧ 0 ≤ p.2
theorem pz_c {b : Bool} {x y : Int × Int} (hx : pz x) (hy : pz y) : pz (cond b x y) := by cases b <;> assumption
theorem pz_F : pz ivF := ⟨by decide, by decide⟩
theorem pz_w {k : Nat} : pz (wiv k) := pz_c pz_F (pz_c ⟨by decide, by decide⟩ (pz_c ⟨by decide, by decide⟩ ⟨by decide, by decide⟩))
theorem iok_0 (r j : Nat) : iok r j 0 := by
  have h : pz (riv r j) := pz_c (pz_c ⟨by decide, by decide⟩ (pz_c ⟨by decide, by decide⟩ (pz_c ⟨by decide, by decide⟩ (pz_c ⟨by decide, by decide⟩ (pz_F))))) (pz_c (pz_c ⟨by decide, by decide⟩ (pz_c ⟨by decide, by decide⟩ (pz_c ⟨by decide, by decide⟩ (pz_c ⟨by decide, by decide⟩ (pz_c ⟨by decide, by decide⟩ (pz_c ⟨by decide, by decide⟩ (pz_c ⟨by decide, by decide⟩ (pz_F)))))))) (pz_c (pz_c ⟨by decide, by decide⟩ (pz_c ⟨by decide, by decide⟩ (pz_F))) (pz_c (pz_c ⟨by decide, by decide⟩ (pz_F)) (pz_c (pz_c ⟨by decide, by decide⟩ (pz_c ⟨by decide, by decide⟩ (pz_c ⟨by decide, by decide⟩ (pz_c ⟨by decide, by decide⟩ (pz_c ⟨by decide, by decide⟩ (pz_c ⟨by decide, by decide⟩ (pz_c ⟨by decide, by decide⟩ (pz_c ⟨by decide, by decide⟩ (pz_c ⟨by decide, by decide⟩ (pz_F)))))))))) (pz_c (pz_c ⟨by decide, by decide⟩ (pz_c ⟨by decide, by decide⟩ (pz_F))) (pz_c (pz_c ⟨by decide, by decide⟩ (pz_c ⟨by decide, by decide⟩ (pz_F))) (pz_c (pz_c ⟨by decide, by decide⟩ (pz_c ⟨by decide, by decide⟩ (pz_F))) (pz_c (pz_c ⟨by decide, by decide⟩ (pz_c ⟨by decide, by decide⟩ (pz_F))) (pz_c (pz_c ⟨by decide, by decide⟩ (pz_c ⟨by decide, by decide⟩ (pz_F))) (pz_c (pz_c ⟨by decide, by decide⟩ (pz_c ⟨by decide, by decide⟩ (pz_c ⟨by decide, by decide⟩ (pz_c ⟨by decide, by decide⟩ (pz_c ⟨by decide, by decide⟩ (pz_c ⟨by decide, by decide⟩ (pz_c ⟨by decide, by decide⟩ (pz_c ⟨by decide, by decide⟩ (pz_c ⟨by decide, by decide⟩ (pz_c ⟨by decide, by decide⟩ (pz_F))))))))))) (pz_c (pz_c ⟨by decide, by decide⟩ (pz_c ⟨by decide, by decide⟩ (pz_c ⟨by decide, by decide⟩ (pz_c ⟨by decide, by decide⟩ (pz_c ⟨by decide, by decide⟩ (pz_c ⟨by decide, by decide⟩ (pz_c ⟨by decide, by decide⟩ (pz_F)))))))) (pz_c (pz_c ⟨by decide, by decide⟩ (pz_c ⟨by decide, by decide⟩ (pz_c ⟨by decide, by decide⟩ (pz_c ⟨by decide, by decide⟩ (pz_c ⟨by decide, by decide⟩ (pz_c ⟨by decide, by decide⟩ (pz_c ⟨by decide, by decide⟩ (pz_c ⟨by decide, by decide⟩ (pz_c ⟨by decide, by decide⟩ (pz_c ⟨by decide, by decide⟩ (pz_F))))))))))) (pz_c (⟨by decide, by decide⟩) (pz_c (⟨by decide, by decide⟩) (pz_c (⟨by decide, by decide⟩) (pz_c (⟨by decide, by decide⟩) (pz_c (⟨by decide, by decide⟩) (pz_c (⟨by decide, by decide⟩) (pz_c (⟨by decide, by decide⟩) (pz_c (⟨by decide, by decide⟩) (pz_c (⟨by decide, by decide⟩) (pz_c (⟨by decide, by decide⟩) (pz_c (⟨by decide, by decide⟩) (pz_c (⟨by decide, by decide⟩) (pz_c (⟨by decide, by decide⟩) (pz_c (⟨by decide, by decide⟩) (pz_c (⟨by decide, by decide⟩) (pz_c (⟨by decide, by decide⟩) (pz_c (⟨by decide, by decide⟩) (pz_c (⟨by decide, by decide⟩) (pz_c (⟨by decide, by decide⟩) (pz_c (⟨by decide, by decide⟩) (pz_c (⟨by decide, by decide⟩) (pz_c (pz_w) (pz_c (pz_w) (pz_c (pz_w) (pz_c (pz_w) (pz_c (⟨by decide, by decide⟩) (pz_c (⟨by decide, by decide⟩) (pz_c (⟨by decide, by decide⟩) (pz_c (⟨by decide, by decide⟩) (pz_c (⟨by decide, by decide⟩) (pz_c (⟨by decide, by decide⟩) (pz_c (⟨by decide, by decide⟩) (pz_F)))))))))))))))))))))))))))))))))))))))))))))
  exact h
def rz (q : Nat) : Prop := q = 0 ∨ 1000 ≤ q
theorem rz_c {b : Bool} {x y : Nat} (hx : rz x) (hy : rz y) : rz (cond b x y) := by cases b <;> assumption
theorem rz_n {j k x y : Nat} (h : j ≠ k) (hy : rz y) : rz (cond (Nat.beq j k) x y) := by rw [beqF h]; exact hy
theorem rz_b {j n q : Nat} (h : ¬ j < n) : rz (cond (Nat.ble (j + 1) n) q (q + 1000)) := by
  have e : Nat.ble (j + 1) n = false := by
    cases hb : Nat.ble (j + 1) n with
    | false => rfl
    | true => exact absurd (Nat.le_of_ble_eq_true hb) h
  rw [e]; exact Or.inr (Nat.le_add_left _ _)
theorem rrf_36 {r j : Nat} (h : 36 ≤ j) : rz (rrf r j) := by
  have q : rz (rrf r j) := rz_c (rz_n (by omega) (rz_n (by omega) (rz_n (by omega) (rz_n (by omega) (rz_n (by omega) (rz_n (by omega) (rz_n (by omega) (rz_n (by omega) (rz_n (by omega) (rz_n (by omega) (rz_n (by omega) (Or.inl rfl)))))))))))) (rz_c (rz_n (by omega) (rz_n (by omega) (rz_n (by omega) (rz_n (by omega) (rz_n (by omega) (rz_n (by omega) (rz_n (by omega) (Or.inl rfl)))))))) (rz_c (rz_n (by omega) (Or.inl rfl)) (rz_c (rz_n (by omega) (rz_n (by omega) (rz_n (by omega) (rz_n (by omega) (Or.inl rfl))))) (rz_c (rz_n (by omega) (rz_n (by omega) (Or.inl rfl))) (rz_c (rz_n (by omega) (rz_n (by omega) (Or.inl rfl))) (rz_c (rz_n (by omega) (rz_n (by omega) (Or.inl rfl))) (rz_c (rz_n (by omega) (rz_n (by omega) (Or.inl rfl))) (rz_c (rz_n (by omega) (rz_n (by omega) (rz_n (by omega) (rz_n (by omega) (rz_n (by omega) (rz_n (by omega) (rz_n (by omega) (rz_n (by omega) (rz_n (by omega) (Or.inl rfl)))))))))) (rz_c (rz_n (by omega) (rz_n (by omega) (rz_n (by omega) (rz_n (by omega) (rz_n (by omega) (rz_n (by omega) (rz_n (by omega) (rz_n (by omega) (rz_n (by omega) (rz_n (by omega) (rz_n (by omega) (Or.inl rfl)))))))))))) (rz_c (rz_n (by omega) (rz_n (by omega) (rz_n (by omega) (rz_n (by omega) (rz_n (by omega) (rz_n (by omega) (rz_n (by omega) (rz_n (by omega) (rz_n (by omega) (rz_n (by omega) (rz_n (by omega) (rz_n (by omega) (rz_n (by omega) (rz_n (by omega) (rz_n (by omega) (rz_n (by omega) (rz_n (by omega) (rz_n (by omega) (rz_n (by omega) (rz_n (by omega) (rz_n (by omega) (rz_n (by omega) (rz_n (by omega) (Or.inl rfl)))))))))))))))))))))))) (rz_c (rz_n (by omega) (rz_n (by omega) (rz_n (by omega) (rz_n (by omega) (rz_n (by omega) (rz_n (by omega) (rz_n (by omega) (rz_n (by omega) (rz_n (by omega) (rz_n (by omega) (rz_n (by omega) (rz_n (by omega) (rz_n (by omega) (rz_n (by omega) (rz_n (by omega) (rz_n (by omega) (rz_n (by omega) (rz_n (by omega) (rz_n (by omega) (rz_n (by omega) (Or.inl rfl))))))))))))))))))))) (rz_c (rz_b (by omega)) (rz_c (rz_b (by omega)) (rz_c (rz_b (by omega)) (rz_c (rz_b (by omega)) (rz_c (rz_b (by omega)) (rz_c (rz_b (by omega)) (Or.inl rfl))))))))))))))))))
  exact q
theorem t0_z : (List.range 202).all (fun a => (List.range (max (ln0 a) 36)).all (fun j => decide (j < (rfL.getD a []).length) || Nat.ble (bdk (kd0 a) (ln0 a)) j && chkR (rrf (t0 a) j) none || Nat.beq (rrf (t0 a) j) 0)) = true := by decide +kernel
theorem t0_ma : ∀ a < 203, t0 a ≠ 14 := by decide +kernel
theorem t0_mo : ∀ a < 203, t0 a = 15 → a = 183 := by decide +kernel
theorem t0_out {a : Nat} (h : ¬ a < 203) : t0 a = 0 := by
  have hl : t0L.length ≤ a := Nat.le_trans (show t0L.length ≤ 203 by decide +kernel) (Nat.not_lt.mp h)
  unfold t0
  rw [List.getD_eq_getElem?_getD, List.getElem?_eq_none hl]; rfl
theorem wf0 {K N : Nat → Nat} {I : cz_I} {R : cz_R} {L : cz_L} (h : cz_new0 202 K N I R L) (hG : GB 202 K N I R) : Wf t0 203 (va_up K 202 15) (va_up N 202 1) I R 0 ∧ RB 203 R := by
  obtain ⟨-, h1, h2, h3, h4, hF⟩ := h
  have hMA : ∀ a, t0 a ≠ 14 := by
    intro a q
    by_cases ha : a < 203
    · exact t0_ma a ha q
    · rw [t0_out ha] at q; cases q
  have hMO : ∀ a, t0 a = 15 → a = 183 := by
    intro a q
    by_cases ha : a < 203
    · exact t0_mo a ha q
    · rw [t0_out ha] at q; cases q
  refine ⟨⟨fun a ha => ?_, fun a j => ?_, fun a j => ?_, ?_, ?_, ?_, ?_, ?_, ?_⟩, fun a j b q => by have := hF.2 a j b q; omega⟩
  · by_cases hb : a < 203
    · by_cases hc : a = 202
      · subst hc
        rw [va_ups, va_ups]; exact ⟨by decide, by decide +kernel, by decide +kernel⟩
      · rw [va_upn hc, va_upn hc, h1 a (by omega), h2 a (by omega)]
        obtain ⟨e1, e2, -⟩ := t0_kd a (by omega)
        exact ⟨hb, e1, e2⟩
    · exact absurd (t0_out hb) ha
  · by_cases ha : a < 202
    · by_cases hj : j < max (ln0 a) 36
      · rw [h4 a j ha hj]; exact t0_i a ha j hj
      · have e := (hG.2 a j ha (by
          rw [h1 a ha, h2 a ha, bdk]
          split <;> omega)).1
        rw [e]; exact iok_0 _ _
    · rw [(hF.1 a (by omega)).1]; exact iok_0 _ _
  · by_cases ha : a < 202
    · by_cases hj : j < (rfL.getD a []).length
      · rw [h3 a j ha hj]
        have e := List.all_eq_true.mp (List.all_eq_true.mp t0_r a (List.mem_range.mpr ha)) j (List.mem_range.mpr hj)
        exact chkR_ok e
      · by_cases hk : j < max (ln0 a) 36
        · have e := List.all_eq_true.mp (List.all_eq_true.mp t0_z a (List.mem_range.mpr ha)) j (List.mem_range.mpr hk)
          simp only [Bool.or_eq_true, Bool.and_eq_true, decide_eq_true_eq] at e
          rcases e with (e | e) | e
          · exact absurd e hj
          · have e2 := (hG.2 a j ha (by rw [h1 a ha, h2 a ha]; exact Nat.le_of_ble_eq_true e.1)).2
            rw [e2]; exact chkR_ok e.2
          · exact Or.inl (Nat.eq_of_beq_eq_true e)
        · have e2 := (hG.2 a j ha (by
            rw [h1 a ha, h2 a ha, bdk]
            split <;> omega)).2
          rw [e2]
          rcases rrf_36 (r := t0 a) (j := j) (by omega) with e | e
          · exact Or.inl e
          · exact Or.inr (Or.inl ⟨e, rfl⟩)
    · rw [(hF.1 a (by omega)).2.1]
      by_cases hb : a = 202
      · subst hb; exact Or.inl rfl
      · rw [t0_out (by omega)]; exact Or.inl rfl
  · intro a ta; exact absurd ta (hMA a)
  · intro m tm b rb
    obtain rfl := hMO m tm
    rw [h3 183 4 (by decide) (by decide +kernel), show rf0 183 4 = none by decide +kernel] at rb
    cases rb
  · intro m tm b rb
    obtain rfl := hMO m tm
    rw [h3 183 3 (by decide) (by decide +kernel), show rf0 183 3 = none by decide +kernel] at rb
    cases rb
  · intro a b ta; exact absurd ta (hMA a)
  · intro a b ta; exact absurd ta (hMA a)
  · intro a b ta tb; rw [hMO a ta, hMO b tb]
theorem lawA0 {I : cz_I} {R : cz_R} (h3 : ∀ k j : Nat, k < 202 → j < (rfL.getD k []).length → R k j = rf0 k j) (h4 : ∀ k j : Nat, k < 202 → j < max (ln0 k) 36 → I k j = in0 k j) : LawA I R 0 183 := by
  have r1 : R 0 2 = some 2 := (h3 0 2 (by decide) (by decide +kernel)).trans (by decide +kernel)
  have r2 : R 0 3 = some 44 := (h3 0 3 (by decide) (by decide +kernel)).trans (by decide +kernel)
  have r3 : R 0 6 = some 89 := (h3 0 6 (by decide) (by decide +kernel)).trans (by decide +kernel)
  have r4 : R 0 7 = some 92 := (h3 0 7 (by decide) (by decide +kernel)).trans (by decide +kernel)
  have r5 : R 92 1 = some 93 := (h3 92 1 (by decide) (by decide +kernel)).trans (by decide +kernel)
  have r6 : R 92 3 = some 94 := (h3 92 3 (by decide) (by decide +kernel)).trans (by decide +kernel)
  have m1 : R 183 16 = some 185 := (h3 183 16 (by decide) (by decide +kernel)).trans (by decide +kernel)
  have m2 : R 183 17 = some 186 := (h3 183 17 (by decide) (by decide +kernel)).trans (by decide +kernel)
  have m3 : R 183 18 = some 187 := (h3 183 18 (by decide) (by decide +kernel)).trans (by decide +kernel)
  have m4 : R 183 3 = none := (h3 183 3 (by decide) (by decide +kernel)).trans (by decide +kernel)
  have i1 : (I 0 5).toInt = 0 := by rw [h4 0 5 (by decide) (by decide +kernel)]; decide +kernel
  have i2 : (I 2 0).toInt = 0 := by rw [h4 2 0 (by decide) (by decide +kernel)]; decide +kernel
  have i3 : (I 2 11).toInt = 0 := by rw [h4 2 11 (by decide) (by decide +kernel)]; decide +kernel
  have i4 : (I 89 0).toInt = 0 := by rw [h4 89 0 (by decide) (by decide +kernel)]; decide +kernel
  have i5 : (I 89 2).toInt = 0 := by rw [h4 89 2 (by decide) (by decide +kernel)]; decide +kernel
  have i6 : (I 89 1).toInt = 0 := by rw [h4 89 1 (by decide) (by decide +kernel)]; decide +kernel
  have i7 : (I 92 0).toInt = 0 := by rw [h4 92 0 (by decide) (by decide +kernel)]; decide +kernel
  have i8 : (I 92 2).toInt = 0 := by rw [h4 92 2 (by decide) (by decide +kernel)]; decide +kernel
  have n1 : (I 183 19).toInt = 0 := by rw [h4 183 19 (by decide) (by decide +kernel)]; decide +kernel
  have n2 : (I 183 20).toInt = 0 := by rw [h4 183 20 (by decide) (by decide +kernel)]; decide +kernel
  have lA : (rfL.getD 93 []).length = 12 := by decide +kernel
  have lB : (rfL.getD 94 []).length = 3 := by decide +kernel
  have dA : ∀ i, i < 12 → ∀ j, j < 12 → rf0 93 i = rf0 93 j → i = j := by decide +kernel
  have dB : ∀ i, i < 3 → ∀ j, j < 3 → rf0 94 i = rf0 94 j → i = j := by decide +kernel
  have dX : ∀ i, i < 12 → ∀ j, j < 3 → ¬ rf0 93 i = rf0 94 j := by decide +kernel
  have eA : ∀ i, i < 12 → R 93 i = rf0 93 i := fun i hi => h3 93 i (by decide) (by rw [lA]; exact hi)
  have eB : ∀ i, i < 3 → R 94 i = rf0 94 i := fun i hi => h3 94 i (by decide) (by rw [lB]; exact hi)
  have w0 : ∀ c, c < 3 → (in0 185 c).toInt = 0 := by decide +kernel
  refine ⟨0, 0, 0, fun _ => 0, 0, 0, fun _ _ => 0, fun _ _ => 0, ⟨2, 44, 89, 92, 93, 94, ⟨r1, r2, by decide, r3, r4, r5, r6⟩, ⟨i1, i2, i3, ⟨i4, i5, i6⟩, i7, i8⟩, fun i hi => by omega, fun i hi => by omega, ⟨?_, ?_, ?_⟩⟩, ⟨185, 186, 187, m1, m2, m3, Or.inl ⟨rfl, m4, rfl, rfl⟩, ?_, n1, n2, fun i c hi => by omega, fun i c hi => by omega⟩, ⟨by decide, by decide⟩, fun i hi => by omega, fun i hi => by omega, fun _ => ⟨rfl, rfl, rfl⟩⟩
  · intro i j h hi hj e1 e2
    rw [eA i hi] at e1
    rw [eA j hj] at e2
    exact dA i hi j hj (e1.trans e2.symm)
  · intro i j h hi hj e1 e2
    rw [eB i hi] at e1
    rw [eB j hj] at e2
    exact dB i hi j hj (e1.trans e2.symm)
  · intro i j h hi hj e1 e2
    rw [eA i hi] at e1
    rw [eB j hj] at e2
    exact dX i hi j hj (e1.trans e2.symm)
  · intro c hc
    rw [h4 185 c (by decide) (by have e : max (ln0 185) 36 = 36 := (by decide +kernel); rw [e]; omega)]
    exact w0 c hc
theorem tp_eqB : (List.range 900).all (fun k => decide (in0 1 k = in0 184 k)) = true := by decide +kernel
theorem tp_eq : ∀ k : Nat, k < 900 → in0 1 k = in0 184 k := fun k hk => of_decide_eq_true (List.all_eq_true.mp tp_eqB k (List.mem_range.mpr hk))
set_option maxRecDepth 100000 in
set_option maxHeartbeats 4000000 in
theorem law_start {X : cz_X} {xs : Nat → Int32} {Ln : Nat} (hLn : Ln ≤ 3072) (hE : cz_env X) (hZ : cz_LZ X) (hs : cz_scr X Ln xs) (hx : cz_LX X) : Tr X mL_law 0 (cz_en [.float 1000000]) [] 0 (fun _ => 99) (fun _ => 0) (fun _ _ => 0) (fun _ _ => none) (fun _ _ => 0) 0 0 := by
  obtain ⟨K1, N1, I1, R1, K, N, I, R, g1, g2, hnew⟩ := cz_made
  have f0 : cz_Fr 0 (fun _ _ => 0) (fun _ _ => none) (fun _ _ => 0) := ⟨fun k _ => ⟨rfl, rfl, rfl⟩, fun k j x h => by cases h⟩
  obtain ⟨f1, t1⟩ := cz_go_ok (fun _ _ => 0) _ _ _ _ _ _ _ _ _ _ _ _ _ _ _ _ _ g1 f0.more
  obtain ⟨f2, t2⟩ := cz_go_ok (fun _ _ => 0) _ _ _ _ _ _ _ _ _ _ _ _ _ _ _ _ _ g2 f1.more
  refine tr_newF (ci := 10) f0 dL_law_0 (by decide) lc13_8 ins10 ini10 (by decide) (by decide) ?_
  refine tr_dup dL_law_3 rfl ?_
  refine tr_callI (M' := mX10_init) (as := []) dL_law_4 lk13_15 inX10_init rfl rfl myX10_init ⟨by decide, by decide⟩ rfl (Nat.le_of_ble_eq_true rfl) (by decide) (by decide) (cz_gocon (by decide +kernel) rfl (by decide) rfl t1) ?_
  rintro _ _ _ _ _ _ _ ⟨rfl, rfl, rfl, rfl, rfl, rfl, rfl⟩
  refine tr_astore_n dL_law_7 (by decide) (by decide) ?_
  refine tr_newF (ci := 12) f1 dL_law_8 (by decide) lc13_16 ins12 ini12 (by decide) (by decide) ?_
  refine tr_dup dL_law_11 rfl ?_
  refine tr_callI (M' := mX12_init) (as := []) dL_law_12 lk13_18 inX12_init rfl rfl myX12_init ⟨by decide, by decide⟩ rfl (Nat.le_of_ble_eq_true rfl) (by decide) (by decide) (cz_gocon (by decide +kernel) rfl (by decide) rfl t2) ?_
  rintro _ _ _ _ _ _ _ ⟨rfl, rfl, rfl, rfl, rfl, rfl, rfl⟩
  refine tr_astore_n dL_law_15 (by decide) (by decide) ?_
  refine tr_iconst (v := 1) dL_law_16 (by decide +kernel) ?_
  refine tr_newaF (len := 1) f2 dL_law_17 (by decide) arc_long (by decide +kernel) (by decide +kernel) (by decide) (by decide) (by decide) ?_
  refine tr_astore_n dL_law_19 (by decide) (by decide) ?_
  refine tr_iconst (v := 0) dL_law_20 (by decide +kernel) ?_
  refine tr_istore dL_law_21 (by decide) (by decide) ?_
  have G0 : GB 1 (va_up (fun _ => 99) 0 10) (va_up (fun _ => 0) 0 0) (fun _ _ => 0) (fun _ _ => none) := ⟨fun _ _ => ⟨rfl, rfl⟩, fun _ _ _ _ => ⟨rfl, rfl⟩⟩
  have G1 := cz_go_gb _ _ _ _ _ _ _ _ _ _ _ _ _ _ _ _ _ g1 G0
  have G2 := cz_go_gb _ _ _ _ _ _ _ _ _ _ _ _ _ _ _ _ _ g2 G1.new
  obtain ⟨hW, hB⟩ := wf0 hnew G2
  obtain ⟨-, h1, h2, h3, h4, -⟩ := hnew
  show Tr X mL_law 23 _ [] 203 _ _ _ _ _ 203 15311
  refine law_loop hLn (x := 0) (m := 183) (o := 202) _ X t0 203 _ _ _ _ _ _ 0 203 15311 hE hs hZ hx ⟨hW, hB, rfl, rfl, rfl, ?_, ⟨?_, ?_⟩, lawA0 h3 h4⟩ rfl rfl rfl rfl rfl ?_ (by decide) (by have e : (0 : Int32).toInt = 0 := rfl; rw [e]; omega) ?_ ?_ (Nat.lt_succ_self _)
  · rw [h4 0 1 (by decide) (by decide +kernel), h4 183 6 (by decide) (by decide +kernel)]; decide +kernel
  · intro r hr
    rw [h3 0 4 (by decide) (by decide +kernel)] at hr
    obtain rfl : r = 86 := by have e : rf0 0 4 = some 86 := (by decide +kernel); rw [e] at hr; exact (Option.some.inj hr).symm
    rw [h3 86 0 (by decide) (by decide +kernel), h3 0 0 (by decide) (by decide +kernel)]; decide +kernel
  · intro t u ht hu k hk
    rw [h3 0 0 (by decide) (by decide +kernel)] at ht
    rw [h3 183 5 (by decide) (by decide +kernel)] at hu
    obtain rfl : t = 1 := by have e : rf0 0 0 = some 1 := (by decide +kernel); rw [e] at ht; exact (Option.some.inj ht).symm
    obtain rfl : u = 184 := by have e : rf0 183 5 = some 184 := (by decide +kernel); rw [e] at hu; exact (Option.some.inj hu).symm
    rw [h4 1 k (by decide) (by have e : ln0 1 = 900 := (by decide +kernel); rw [e]; omega), h4 184 k (by decide) (by have e : ln0 184 = 900 := (by decide +kernel); rw [e]; omega)]
    exact tp_eq k hk
  · intro i k h
    change va_up (va_up (va_up (va_up (cz_en [Value.float 1000000]) 1 (some (.ref 0))) 2 (some (.ref 183))) 3 (some (.ref 202))) 4 (some (.int 0)) i = some (.ref k) at h
    by_cases h4 : i = 4
    · subst h4; cases h
    · by_cases h3 : i = 3
      · subst h3; cases h; decide
      · by_cases h2 : i = 2
        · subst h2; cases h; decide
        · by_cases h1 : i = 1
          · subst h1; cases h; decide
          · rw [va_upn h4, va_upn h3, va_upn h2, va_upn h1] at h
            by_cases h0 : i = 0
            · subst h0; cases h
            · have hz : ((0 : Nat) == i) = false := by simpa using fun q : 0 = i => h0 q.symm
              simp [cz_en, lv_args, hz] at h
  · have e : (0 : Int32).toInt = 0 := rfl
    rw [e]; omega
  · have e : (0 : Int32).toInt = 0 := rfl
    rw [e]; omega
