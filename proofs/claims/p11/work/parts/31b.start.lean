/-! ===== beyond a cell's end nothing lies ===== -/
def bdk (k n : Nat) : Nat := if k < 13 then 36 else n
def GB (cn : Nat) (K N : Nat → Nat) (I : cz_I) (R : cz_R) : Prop := (∀ k, cn ≤ k → I k = (fun _ => 0) ∧ R k = (fun _ => none)) ∧ ∀ k j, k < cn → bdk (K k) (N k) ≤ j → I k j = 0 ∧ R k j = none
theorem cz_nf36 : ∀ c < 13, cz_nf c ≤ 36 := by decide
section CzGB
variable {cn : Nat} {K N : Nat → Nat} {I : cz_I} {R : cz_R} {k j ci x idx M1 : Nat} {b : Bool} {P : Prop}
theorem GB.new {c n : Nat} (h : GB cn K N I R) : GB (cn + 1) (va_up K cn c) (va_up N cn n) I R := by
  refine ⟨fun k hk => h.1 k (by exact om_928a0357 hk), fun k j hk hj => ?_⟩
  by_cases q : k = cn
  · subst q
    obtain ⟨e1, e2⟩ := h.1 k (Nat.le_refl _)
    rw [e1, e2]; exact ⟨rfl, rfl⟩
  · rw [va_upn q, va_upn q] at hj
    exact h.2 k j (by exact om_fe3e2211 hk q) hj
theorem GB.uR {y : Option Nat} (h : GB cn K N I R) (hk : k < cn) (hj : j < bdk (K k) (N k)) : GB cn K N I (cz_uR R k j y) := by
  refine ⟨fun a ha => ⟨(h.1 a ha).1, by rw [cz_uRn (by exact om_e5688717 hk ha)]; exact (h.1 a ha).2⟩, fun a i ha hi => ⟨(h.2 a i ha hi).1, ?_⟩⟩
  rw [uR_ne]
  · exact (h.2 a i ha hi).2
  · rintro ⟨rfl, rfl⟩; exact om_952d59fd hi hj
theorem GB.uI {y : Int32} (h : GB cn K N I R) (hk : k < cn) (hj : j < bdk (K k) (N k)) : GB cn K N (cz_uI I k j y) R := by
  refine ⟨fun a ha => ⟨by rw [cz_uIn (by exact om_e5688717 hk ha)]; exact (h.1 a ha).1, (h.1 a ha).2⟩, fun a i ha hi => ⟨?_, (h.2 a i ha hi).2⟩⟩
  rw [uI_ne]
  · exact (h.2 a i ha hi).1
  · rintro ⟨rfl, rfl⟩; exact om_952d59fd hi hj
theorem bdk_f {kd : Nat} (hf : cz_fl M1 idx = some (ci, j, kd, b)) (hk : K k = ci) : j < bdk (K k) (N k) := by
  obtain ⟨h1, h2, -⟩ := cz_fl_spec hf
  rw [hk, bdk, if_pos h1]
  have := cz_nf36 ci h1
  exact om_c13772f3 h2 this
theorem GB.putRf (h : GB cn K N I R) (hf : cz_fl M1 idx = some (ci, j, 1, b)) (hc : K k = ci ∧ (k < cn ∧ x < cn) ∧ P) : GB cn K N I (cz_uR R k j (some x)) := h.uR hc.2.1.1 (bdk_f hf hc.1)
theorem GB.putIf {y : Int32} (h : GB cn K N I R) (hf : cz_fl M1 idx = some (ci, j, 0, b)) (hc : K k = ci ∧ k < cn ∧ P) : GB cn K N (cz_uI I k j y) R := h.uI hc.2.1 (bdk_f hf hc.1)
theorem GB.putAf {i : Int32} (h : GB cn K N I R) (hc : 17 ≤ K k ∧ K k < 22 ∧ K x = cz_el (K k) ∧ ¬ (i < 0 ∨ N k ≤ i.toNatClampNeg) ∧ k < cn ∧ x < cn) : GB cn K N I (cz_uR R k i.toNatClampNeg (some x)) := h.uR hc.2.2.2.2.1 (by
  rw [bdk, if_neg (by exact om_3cc04b31 hc.2.1 hc.1)]
  exact Nat.not_le.mp fun q => hc.2.2.2.1 (Or.inr q))
end CzGB
set_option maxHeartbeats 4000000 in
theorem cz_go_gb : ∀ (f : Nat) (M : cz_M) (pc : Nat) (ls : Nat → Option Value) (st : List Value) (cn : Nat) (K N : Nat → Nat) (I : cz_I) (R : cz_R) (n w cn' : Nat) (K' N' : Nat → Nat) (I' : cz_I) (R' : cz_R), cz_go f M pc ls st cn K N I R n w = some (cn', K', N', I', R') → GB cn K N I R → GB cn' K' N' I' R' := by
  intro f
  induction f with
  | zero => intro M pc ls st cn K N I R n w cn' K' N' I' R' h; cases h
  | succ f ih =>
    intro M pc ls st cn K N I R n w cn' K' N' I' R' h hG
    rw [cz_go.eq_def] at h
    dsimp only at h
    repeat' (split at h)
    all_goals first
      | (cases h; done)
      | (cases h; exact hG)
      | exact ih _ _ _ _ _ _ _ _ _ _ _ _ _ _ _ _ h hG
      | exact ih _ _ _ _ _ _ _ _ _ _ _ _ _ _ _ _ h hG.new
      | exact ih _ _ _ _ _ _ _ _ _ _ _ _ _ _ _ _ h (hG.putRf (by assumption) (by assumption))
      | exact ih _ _ _ _ _ _ _ _ _ _ _ _ _ _ _ _ h (hG.putIf (by assumption) (by assumption))
      | exact ih _ _ _ _ _ _ _ _ _ _ _ _ _ _ _ _ h (hG.putAf (by assumption))
      | exact ih _ _ _ _ _ _ _ _ _ _ _ _ _ _ _ _ h (ih _ _ _ _ _ _ _ _ _ _ _ _ _ _ _ _ (by assumption) hG)
/-! ===== the store behind the constructors keeps to the roles ===== -/
def t0L : List Nat := [1, 17, 2, 18, 19, 20, 6, 24, 21, 22, 23, 3, 3, 3, 3, 3, 3, 3, 3, 3, 3, 3, 3, 3, 3, 4, 4, 4, 4, 4, 5, 5, 5, 5, 5, 5, 6, 24, 6, 24, 6, 24, 6, 24, 2, 18, 19, 20, 6, 24, 21, 22, 23, 3, 3, 3, 3, 3, 3, 3, 3, 3, 3, 3, 3, 3, 3, 4, 4, 4, 4, 4, 5, 5, 5, 5, 5, 5, 6, 24, 6, 24, 6, 24, 6, 24, 7, 25, 26, 8, 27, 28, 11, 33, 34, 10, 31, 32, 10, 31, 32, 10, 31, 32, 10, 31, 32, 10, 31, 32, 10, 31, 32, 10, 31, 32, 10, 31, 32, 10, 31, 32, 10, 31, 32, 10, 31, 32, 10, 31, 32, 10, 31, 32, 10, 31, 32, 10, 31, 32, 12, 35, 36, 37, 38, 39, 40, 41, 42, 43, 13, 44, 45, 46, 47, 48, 49, 50, 51, 52, 9, 29, 30, 12, 35, 36, 37, 38, 39, 40, 41, 42, 43, 13, 44, 45, 46, 47, 48, 49, 50, 51, 52, 15, 76, 77, 78, 79, 81, 82, 83, 84, 85, 86, 87, 88, 89, 90, 91, 92, 93, 80, 94]
def t0 (a : Nat) : Nat := t0L.getD a 0
theorem t0_kd : ∀ a < 202, kd0 a = rk (t0 a) ∧ ln0 a = rn (t0 a) ∧ t0 a ≠ 0 := by decide +kernel
theorem t0_iB : (List.range 202).all (fun a => (List.range (max (ln0 a) 36)).all (fun j => decide ((riv (t0 a) j).1 ≤ (in0 a j).toInt) && decide ((in0 a j).toInt ≤ (riv (t0 a) j).2))) = true := by decide +kernel
theorem t0_i : ∀ a < 202, ∀ j < max (ln0 a) 36, (riv (t0 a) j).1 ≤ (in0 a j).toInt ∧ (in0 a j).toInt ≤ (riv (t0 a) j).2 := by
  intro a ha j hj
  have e := List.all_eq_true.mp (List.all_eq_true.mp t0_iB a (List.mem_range.mpr ha)) j (List.mem_range.mpr hj)
  simpa using e
def chkR (q : Nat) (x : Option Nat) : Bool := q == 0 || (Nat.ble 1000 q && x == none) || (match x with
  | some b => Nat.ble 1 q && t0 b == cond (Nat.ble 1000 q) (q - 1000) q
  | none => false)
theorem chkR_ok {q : Nat} {x : Option Nat} (h : chkR q x = true) : okR t0 q x := by
  unfold chkR at h
  simp only [Bool.or_eq_true, beq_iff_eq, Bool.and_eq_true] at h
  rcases h with (h | h) | h
  · exact Or.inl h
  · exact Or.inr (Or.inl ⟨Nat.le_of_ble_eq_true h.1, h.2⟩)
  · cases x with
    | none => cases h
    | some b =>
      simp only [Bool.and_eq_true, beq_iff_eq] at h
      exact Or.inr (Or.inr ⟨Nat.le_of_ble_eq_true h.1, b, rfl, h.2⟩)
theorem t0_r : (List.range 202).all (fun a => (List.range (rfL.getD a []).length).all (fun j => chkR (rrf (t0 a) j) (rf0 a j))) = true := by decide +kernel

def pz (p : Int × Int) : Prop := p.1 ≤ 0 ∧ 0 ≤ p.2
theorem pz_c {b : Bool} {x y : Int × Int} (hx : pz x) (hy : pz y) : pz (cond b x y) := by cases b <;> assumption
theorem pz_F : pz ivF := ⟨by decide, by decide⟩
theorem pz_w {k : Nat} : pz (wiv k) := pz_c pz_F (pz_c ⟨by decide, by decide⟩ (pz_c ⟨by decide, by decide⟩ ⟨by decide, by decide⟩))
theorem iok_0 (r j : Nat) : iok r j 0 := by
  have h : pz (riv r j) := pz_c (pz_c ⟨by decide, by decide⟩ (pz_c ⟨by decide, by decide⟩ (pz_c ⟨by decide, by decide⟩ (pz_c ⟨by decide, by decide⟩ (pz_F))))) (pz_c (pz_c ⟨by decide, by decide⟩ (pz_c ⟨by decide, by decide⟩ (pz_c ⟨by decide, by decide⟩ (pz_c ⟨by decide, by decide⟩ (pz_c ⟨by decide, by decide⟩ (pz_c ⟨by decide, by decide⟩ (pz_c ⟨by decide, by decide⟩ (pz_F)))))))) (pz_c (pz_c ⟨by decide, by decide⟩ (pz_c ⟨by decide, by decide⟩ (pz_F))) (pz_c (pz_c ⟨by decide, by decide⟩ (pz_F)) (pz_c (pz_c ⟨by decide, by decide⟩ (pz_c ⟨by decide, by decide⟩ (pz_c ⟨by decide, by decide⟩ (pz_c ⟨by decide, by decide⟩ (pz_c ⟨by decide, by decide⟩ (pz_c ⟨by decide, by decide⟩ (pz_c ⟨by decide, by decide⟩ (pz_c ⟨by decide, by decide⟩ (pz_c ⟨by decide, by decide⟩ (pz_F)))))))))) (pz_c (pz_c ⟨by decide, by decide⟩ (pz_c ⟨by decide, by decide⟩ (pz_F))) (pz_c (pz_c ⟨by decide, by decide⟩ (pz_c ⟨by decide, by decide⟩ (pz_F))) (pz_c (pz_c ⟨by decide, by decide⟩ (pz_c ⟨by decide, by decide⟩ (pz_F))) (pz_c (pz_c ⟨by decide, by decide⟩ (pz_c ⟨by decide, by decide⟩ (pz_F))) (pz_c (pz_c ⟨by decide, by decide⟩ (pz_c ⟨by decide, by decide⟩ (pz_F))) (pz_c (pz_c ⟨by decide, by decide⟩ (pz_c ⟨by decide, by decide⟩ (pz_c ⟨by decide, by decide⟩ (pz_c ⟨by decide, by decide⟩ (pz_c ⟨by decide, by decide⟩ (pz_c ⟨by decide, by decide⟩ (pz_c ⟨by decide, by decide⟩ (pz_c ⟨by decide, by decide⟩ (pz_c ⟨by decide, by decide⟩ (pz_c ⟨by decide, by decide⟩ (pz_F))))))))))) (pz_c (pz_c ⟨by decide, by decide⟩ (pz_c ⟨by decide, by decide⟩ (pz_c ⟨by decide, by decide⟩ (pz_c ⟨by decide, by decide⟩ (pz_c ⟨by decide, by decide⟩ (pz_c ⟨by decide, by decide⟩ (pz_c ⟨by decide, by decide⟩ (pz_F)))))))) (pz_c (pz_c ⟨by decide, by decide⟩ (pz_c ⟨by decide, by decide⟩ (pz_c ⟨by decide, by decide⟩ (pz_c ⟨by decide, by decide⟩ (pz_c ⟨by decide, by decide⟩ (pz_c ⟨by decide, by decide⟩ (pz_c ⟨by decide, by decide⟩ (pz_c ⟨by decide, by decide⟩ (pz_c ⟨by decide, by decide⟩ (pz_c ⟨by decide, by decide⟩ (pz_F))))))))))) (pz_c (⟨by decide, by decide⟩) (pz_c (⟨by decide, by decide⟩) (pz_c (⟨by decide, by decide⟩) (pz_c (⟨by decide, by decide⟩) (pz_c (⟨by decide, by decide⟩) (pz_c (⟨by decide, by decide⟩) (pz_c (⟨by decide, by decide⟩) (pz_c (⟨by decide, by decide⟩) (pz_c (⟨by decide, by decide⟩) (pz_c (⟨by decide, by decide⟩) (pz_c (⟨by decide, by decide⟩) (pz_c (⟨by decide, by decide⟩) (pz_c (⟨by decide, by decide⟩) (pz_c (⟨by decide, by decide⟩) (pz_c (⟨by decide, by decide⟩) (pz_c (⟨by decide, by decide⟩) (pz_c (⟨by decide, by decide⟩) (pz_c (⟨by decide, by decide⟩) (pz_c (⟨by decide, by decide⟩) (pz_c (⟨by decide, by decide⟩) (pz_c (⟨by decide, by decide⟩) (pz_c (pz_w) (pz_c (pz_w) (pz_c (pz_w) (pz_c (pz_w) (pz_c (⟨by decide, by decide⟩) (pz_c (⟨by decide, by decide⟩) (pz_c (⟨by decide, by decide⟩) (pz_c (⟨by decide, by decide⟩) (pz_c (⟨by decide, by decide⟩) (pz_c (⟨by decide, by decide⟩) (pz_c (⟨by decide, by decide⟩) (pz_F)))))))))))))))))))))))))))))))))))))))))))))
  exact h
def rz (q : Nat) : Prop := q = 0 ∨ 1000 ≤ q
theorem rz_c {b : Bool} {x y : Nat} (hx : rz x) (hy : rz y) : rz (cond b x y) := by cases b <;> assumption
theorem rz_n {j k x y : Nat} (h : j ≠ k) (hy : rz y) : rz (cond (Nat.beq j k) x y) := by rw [beqF h]; exact hy
theorem rz_b {j n q : Nat} (h : ¬ j < n) : rz (cond (Nat.ble (j + 1) n) q (q + 1000)) := by
  have e : Nat.ble (j + 1) n = false := by
    cases hb : Nat.ble (j + 1) n with
    | false => rfl
    | true => exact absurd (Nat.le_of_ble_eq_true hb) h
  rw [e]; exact Or.inr (Nat.le_add_left _ _)
theorem rrf_36 {r j : Nat} (h : 36 ≤ j) : rz (rrf r j) := by
  have q : rz (rrf r j) := rz_c (rz_n (by exact om_1a156420 h) (rz_n (by exact om_18634971 h) (rz_n (by exact om_b1ee14a7 h) (rz_n (by exact om_a8352080 h) (rz_n (by exact om_e1d8a141 h) (rz_n (by exact om_5564e5b3 h) (rz_n (by exact om_2283ee9b h) (rz_n (by exact om_35ff3c2b h) (rz_n (by exact om_c9760aea h) (rz_n (by exact om_ab59b4b1 h) (rz_n (by exact om_72f2b1d6 h) (Or.inl rfl)))))))))))) (rz_c (rz_n (by exact om_18634971 h) (rz_n (by exact om_a8352080 h) (rz_n (by exact om_e1d8a141 h) (rz_n (by exact om_2283ee9b h) (rz_n (by exact om_35ff3c2b h) (rz_n (by exact om_c9760aea h) (rz_n (by exact om_72f2b1d6 h) (Or.inl rfl)))))))) (rz_c (rz_n (by exact om_dd347ca6 h) (Or.inl rfl)) (rz_c (rz_n (by exact om_1a156420 h) (rz_n (by exact om_35ff3c2b h) (rz_n (by exact om_ab59b4b1 h) (rz_n (by exact om_72f2b1d6 h) (Or.inl rfl))))) (rz_c (rz_n (by exact om_b1ee14a7 h) (rz_n (by exact om_a8352080 h) (Or.inl rfl))) (rz_c (rz_n (by exact om_b1ee14a7 h) (rz_n (by exact om_a8352080 h) (Or.inl rfl))) (rz_c (rz_n (by exact om_b1ee14a7 h) (rz_n (by exact om_a8352080 h) (Or.inl rfl))) (rz_c (rz_n (by exact om_dd347ca6 h) (rz_n (by exact om_b1ee14a7 h) (Or.inl rfl))) (rz_c (rz_n (by exact om_18634971 h) (rz_n (by exact om_b1ee14a7 h) (rz_n (by exact om_a8352080 h) (rz_n (by exact om_4775e0e8 h) (rz_n (by exact om_e1d8a141 h) (rz_n (by exact om_5564e5b3 h) (rz_n (by exact om_2283ee9b h) (rz_n (by exact om_146f8717 h) (rz_n (by exact om_600f2c62 h) (Or.inl rfl)))))))))) (rz_c (rz_n (by exact om_1a156420 h) (rz_n (by exact om_dd347ca6 h) (rz_n (by exact om_b1ee14a7 h) (rz_n (by exact om_a8352080 h) (rz_n (by exact om_4775e0e8 h) (rz_n (by exact om_e1d8a141 h) (rz_n (by exact om_5564e5b3 h) (rz_n (by exact om_2283ee9b h) (rz_n (by exact om_146f8717 h) (rz_n (by exact om_35ff3c2b h) (rz_n (by exact om_600f2c62 h) (Or.inl rfl)))))))))))) (rz_c (rz_n (by exact om_35ff3c2b h) (rz_n (by exact om_600f2c62 h) (rz_n (by exact om_c9760aea h) (rz_n (by exact om_ab59b4b1 h) (rz_n (by exact om_72f2b1d6 h) (rz_n (by exact om_af16bb02 h) (rz_n (by exact om_a4c4ee82 h) (rz_n (by exact om_509b086a h) (rz_n (by exact om_748df1d7 h) (rz_n (by exact om_b2bd3714 h) (rz_n (by exact om_60c97dbe h) (rz_n (by exact om_d630a429 h) (rz_n (by exact om_814e31bc h) (rz_n (by exact om_9e663bf5 h) (rz_n (by exact om_c3b5b63c h) (rz_n (by exact om_981d360b h) (rz_n (by exact om_6ac0ee7e h) (rz_n (by exact om_960e0dd3 h) (rz_n (by exact om_a29f261b h) (rz_n (by exact om_bb502495 h) (rz_n (by exact om_1e0c4ada h) (rz_n (by exact om_a706fd8e h) (rz_n (by exact om_ff73d822 h) (Or.inl rfl)))))))))))))))))))))))) (rz_c (rz_n (by exact om_b1ee14a7 h) (rz_n (by exact om_a8352080 h) (rz_n (by exact om_4775e0e8 h) (rz_n (by exact om_a4c4ee82 h) (rz_n (by exact om_509b086a h) (rz_n (by exact om_748df1d7 h) (rz_n (by exact om_d630a429 h) (rz_n (by exact om_814e31bc h) (rz_n (by exact om_9e663bf5 h) (rz_n (by exact om_c3b5b63c h) (rz_n (by exact om_981d360b h) (rz_n (by exact om_6ac0ee7e h) (rz_n (by exact om_960e0dd3 h) (rz_n (by exact om_a29f261b h) (rz_n (by exact om_bb502495 h) (rz_n (by exact om_1e0c4ada h) (rz_n (by exact om_a706fd8e h) (rz_n (by exact om_ff73d822 h) (rz_n (by exact om_6fb71a0a h) (rz_n (by exact om_ccd39b35 h) (Or.inl rfl))))))))))))))))))))) (rz_c (rz_b (by exact om_c2550c55 h)) (rz_c (rz_b (by exact om_d7ee3a1d h)) (rz_c (rz_b (by exact om_b742645c h)) (rz_c (rz_b (by exact om_c908dfea h)) (rz_c (rz_b (by exact om_9aa2457a h)) (rz_c (rz_b (by exact om_c1d39013 h)) (Or.inl rfl))))))))))))))))))
  exact q
theorem t0_z : (List.range 202).all (fun a => (List.range (max (ln0 a) 36)).all (fun j => decide (j < (rfL.getD a []).length) || Nat.ble (bdk (kd0 a) (ln0 a)) j && chkR (rrf (t0 a) j) none || Nat.beq (rrf (t0 a) j) 0)) = true := by decide +kernel
theorem t0_ma : ∀ a < 203, t0 a ≠ 14 := by decide +kernel
theorem t0_mo : ∀ a < 203, t0 a = 15 → a = 183 := by decide +kernel
theorem t0_out {a : Nat} (h : ¬ a < 203) : t0 a = 0 := by
  have hl : t0L.length ≤ a := Nat.le_trans (show t0L.length ≤ 203 by decide +kernel) (Nat.not_lt.mp h)
  unfold t0
  rw [List.getD_eq_getElem?_getD, List.getElem?_eq_none hl]; rfl
theorem wf0 {K N : Nat → Nat} {I : cz_I} {R : cz_R} {L : cz_L} (h : cz_new0 202 K N I R L) (hG : GB 202 K N I R) : Wf t0 203 (va_up K 202 15) (va_up N 202 1) I R 0 ∧ RB 203 R := by
  obtain ⟨-, h1, h2, h3, h4, hF⟩ := h
  have hMA : ∀ a, t0 a ≠ 14 := by
    intro a q
    by_cases ha : a < 203
    · exact t0_ma a ha q
    · rw [t0_out ha] at q; cases q
  have hMO : ∀ a, t0 a = 15 → a = 183 := by
    intro a q
    by_cases ha : a < 203
    · exact t0_mo a ha q
    · rw [t0_out ha] at q; cases q
  refine ⟨⟨fun a ha => ?_, fun a j => ?_, fun a j => ?_, ?_, ?_, ?_, ?_, ?_, ?_⟩, fun a j b q => by have := hF.2 a j b q; exact om_2905a864 this⟩
  · by_cases hb : a < 203
    · by_cases hc : a = 202
      · subst hc
        rw [va_ups, va_ups]; exact ⟨by decide, by decide +kernel, by decide +kernel⟩
      · rw [va_upn hc, va_upn hc, h1 a (by exact om_16b0ea8d hb hc), h2 a (by exact om_16b0ea8d hb hc)]
        obtain ⟨e1, e2, -⟩ := t0_kd a (by exact om_16b0ea8d hb hc)
        exact ⟨hb, e1, e2⟩
    · exact absurd (t0_out hb) ha
  · by_cases ha : a < 202
    · by_cases hj : j < max (ln0 a) 36
      · rw [h4 a j ha hj]; exact t0_i a ha j hj
      · have e := (hG.2 a j ha (by
          rw [h1 a ha, h2 a ha, bdk]
          split <;> omega)).1
        rw [e]; exact iok_0 _ _
    · rw [(hF.1 a (by exact om_01149a0c ha)).1]; exact iok_0 _ _
  · by_cases ha : a < 202
    · by_cases hj : j < (rfL.getD a []).length
      · rw [h3 a j ha hj]
        have e := List.all_eq_true.mp (List.all_eq_true.mp t0_r a (List.mem_range.mpr ha)) j (List.mem_range.mpr hj)
        exact chkR_ok e
      · by_cases hk : j < max (ln0 a) 36
        · have e := List.all_eq_true.mp (List.all_eq_true.mp t0_z a (List.mem_range.mpr ha)) j (List.mem_range.mpr hk)
          simp only [Bool.or_eq_true, Bool.and_eq_true, decide_eq_true_eq] at e
          rcases e with (e | e) | e
          · exact absurd e hj
          · have e2 := (hG.2 a j ha (by rw [h1 a ha, h2 a ha]; exact Nat.le_of_ble_eq_true e.1)).2
            rw [e2]; exact chkR_ok e.2
          · exact Or.inl (Nat.eq_of_beq_eq_true e)
        · have e2 := (hG.2 a j ha (by
            rw [h1 a ha, h2 a ha, bdk]
            split <;> omega)).2
          rw [e2]
          rcases rrf_36 (r := t0 a) (j := j) (by exact om_c2612501 hk) with e | e
          · exact Or.inl e
          · exact Or.inr (Or.inl ⟨e, rfl⟩)
    · rw [(hF.1 a (by exact om_01149a0c ha)).2.1]
      by_cases hb : a = 202
      · subst hb; exact Or.inl rfl
      · rw [t0_out (by exact om_09b457a1 ha hb)]; exact Or.inl rfl
  · intro a ta; exact absurd ta (hMA a)
  · intro m tm b rb
    obtain rfl := hMO m tm
    rw [h3 183 4 (by decide) (by decide +kernel), show rf0 183 4 = none by decide +kernel] at rb
    cases rb
  · intro m tm b rb
    obtain rfl := hMO m tm
    rw [h3 183 3 (by decide) (by decide +kernel), show rf0 183 3 = none by decide +kernel] at rb
    cases rb
  · intro a b ta; exact absurd ta (hMA a)
  · intro a b ta; exact absurd ta (hMA a)
  · intro a b ta tb; rw [hMO a ta, hMO b tb]
def obx : List Nat := [11, 12, 13, 14, 15, 16, 17, 18, 19, 20, 21, 22, 23, 24, 25, 26, 27, 28, 29, 30, 31, 32, 33, 34, 35, 36, 38, 40, 42, 6, 37, 39, 41, 43, 7, 5, 3]
theorem obx_at {R : cz_R} (h3 : ∀ k j : Nat, k < 202 → j < (rfL.getD k []).length → R k j = rf0 k j) : ∀ u, u < 37 → Ob R 2 u = some (obx.getD u 0) := by
  have r2 : R 2 2 = some 3 := ((h3 2 2 (by decide) (by decide +kernel)).trans (by decide +kernel) : R 2 2 = some 3)
  have r4 : R 2 4 = some 4 := ((h3 2 4 (by decide) (by decide +kernel)).trans (by decide +kernel) : R 2 4 = some 4)
  have r6 : R 2 6 = some 5 := ((h3 2 6 (by decide) (by decide +kernel)).trans (by decide +kernel) : R 2 6 = some 5)
  have r8 : R 2 8 = some 6 := ((h3 2 8 (by decide) (by decide +kernel)).trans (by decide +kernel) : R 2 8 = some 6)
  have r10 : R 2 10 = some 8 := ((h3 2 10 (by decide) (by decide +kernel)).trans (by decide +kernel) : R 2 10 = some 8)
  have r12 : R 2 12 = some 9 := ((h3 2 12 (by decide) (by decide +kernel)).trans (by decide +kernel) : R 2 12 = some 9)
  have r14 : R 2 14 = some 10 := ((h3 2 14 (by decide) (by decide +kernel)).trans (by decide +kernel) : R 2 14 = some 10)
  exact fun u hu => match u, hu with
  | 0, _ => ObE (k := 0) r4 (by decide) ((h3 4 0 (by decide) (by decide +kernel)).trans (by decide +kernel) : R 4 0 = some 11)
  | 1, _ => ObE (k := 1) r4 (by decide) ((h3 4 1 (by decide) (by decide +kernel)).trans (by decide +kernel) : R 4 1 = some 12)
  | 2, _ => ObE (k := 2) r4 (by decide) ((h3 4 2 (by decide) (by decide +kernel)).trans (by decide +kernel) : R 4 2 = some 13)
  | 3, _ => ObE (k := 3) r4 (by decide) ((h3 4 3 (by decide) (by decide +kernel)).trans (by decide +kernel) : R 4 3 = some 14)
  | 4, _ => ObE (k := 4) r4 (by decide) ((h3 4 4 (by decide) (by decide +kernel)).trans (by decide +kernel) : R 4 4 = some 15)
  | 5, _ => ObE (k := 5) r4 (by decide) ((h3 4 5 (by decide) (by decide +kernel)).trans (by decide +kernel) : R 4 5 = some 16)
  | 6, _ => ObE (k := 6) r4 (by decide) ((h3 4 6 (by decide) (by decide +kernel)).trans (by decide +kernel) : R 4 6 = some 17)
  | 7, _ => ObE (k := 7) r4 (by decide) ((h3 4 7 (by decide) (by decide +kernel)).trans (by decide +kernel) : R 4 7 = some 18)
  | 8, _ => ObE (k := 8) r4 (by decide) ((h3 4 8 (by decide) (by decide +kernel)).trans (by decide +kernel) : R 4 8 = some 19)
  | 9, _ => ObE (k := 9) r4 (by decide) ((h3 4 9 (by decide) (by decide +kernel)).trans (by decide +kernel) : R 4 9 = some 20)
  | 10, _ => ObE (k := 10) r4 (by decide) ((h3 4 10 (by decide) (by decide +kernel)).trans (by decide +kernel) : R 4 10 = some 21)
  | 11, _ => ObE (k := 11) r4 (by decide) ((h3 4 11 (by decide) (by decide +kernel)).trans (by decide +kernel) : R 4 11 = some 22)
  | 12, _ => ObE (k := 12) r4 (by decide) ((h3 4 12 (by decide) (by decide +kernel)).trans (by decide +kernel) : R 4 12 = some 23)
  | 13, _ => ObE (k := 13) r4 (by decide) ((h3 4 13 (by decide) (by decide +kernel)).trans (by decide +kernel) : R 4 13 = some 24)
  | 14, _ => ObT (k := 0) r10 (by decide) ((h3 8 0 (by decide) (by decide +kernel)).trans (by decide +kernel) : R 8 0 = some 25)
  | 15, _ => ObT (k := 1) r10 (by decide) ((h3 8 1 (by decide) (by decide +kernel)).trans (by decide +kernel) : R 8 1 = some 26)
  | 16, _ => ObT (k := 2) r10 (by decide) ((h3 8 2 (by decide) (by decide +kernel)).trans (by decide +kernel) : R 8 2 = some 27)
  | 17, _ => ObT (k := 3) r10 (by decide) ((h3 8 3 (by decide) (by decide +kernel)).trans (by decide +kernel) : R 8 3 = some 28)
  | 18, _ => ObT (k := 4) r10 (by decide) ((h3 8 4 (by decide) (by decide +kernel)).trans (by decide +kernel) : R 8 4 = some 29)
  | 19, _ => ObC (k := 0) r12 (by decide) ((h3 9 0 (by decide) (by decide +kernel)).trans (by decide +kernel) : R 9 0 = some 30)
  | 20, _ => ObC (k := 1) r12 (by decide) ((h3 9 1 (by decide) (by decide +kernel)).trans (by decide +kernel) : R 9 1 = some 31)
  | 21, _ => ObC (k := 2) r12 (by decide) ((h3 9 2 (by decide) (by decide +kernel)).trans (by decide +kernel) : R 9 2 = some 32)
  | 22, _ => ObC (k := 3) r12 (by decide) ((h3 9 3 (by decide) (by decide +kernel)).trans (by decide +kernel) : R 9 3 = some 33)
  | 23, _ => ObC (k := 4) r12 (by decide) ((h3 9 4 (by decide) (by decide +kernel)).trans (by decide +kernel) : R 9 4 = some 34)
  | 24, _ => ObC (k := 5) r12 (by decide) ((h3 9 5 (by decide) (by decide +kernel)).trans (by decide +kernel) : R 9 5 = some 35)
  | 25, _ => ObS (k := 0) r14 (by decide) ((h3 10 0 (by decide) (by decide +kernel)).trans (by decide +kernel) : R 10 0 = some 36)
  | 26, _ => ObS (k := 1) r14 (by decide) ((h3 10 1 (by decide) (by decide +kernel)).trans (by decide +kernel) : R 10 1 = some 38)
  | 27, _ => ObS (k := 2) r14 (by decide) ((h3 10 2 (by decide) (by decide +kernel)).trans (by decide +kernel) : R 10 2 = some 40)
  | 28, _ => ObS (k := 3) r14 (by decide) ((h3 10 3 (by decide) (by decide +kernel)).trans (by decide +kernel) : R 10 3 = some 42)
  | 29, _ => ObA r8
  | 30, _ => ObSa (k := 0) r14 (by decide) ((h3 10 0 (by decide) (by decide +kernel)).trans (by decide +kernel) : R 10 0 = some 36) ((h3 36 1 (by decide) (by decide +kernel)).trans (by decide +kernel) : R 36 1 = some 37)
  | 31, _ => ObSa (k := 1) r14 (by decide) ((h3 10 1 (by decide) (by decide +kernel)).trans (by decide +kernel) : R 10 1 = some 38) ((h3 38 1 (by decide) (by decide +kernel)).trans (by decide +kernel) : R 38 1 = some 39)
  | 32, _ => ObSa (k := 2) r14 (by decide) ((h3 10 2 (by decide) (by decide +kernel)).trans (by decide +kernel) : R 10 2 = some 40) ((h3 40 1 (by decide) (by decide +kernel)).trans (by decide +kernel) : R 40 1 = some 41)
  | 33, _ => ObSa (k := 3) r14 (by decide) ((h3 10 3 (by decide) (by decide +kernel)).trans (by decide +kernel) : R 10 3 = some 42) ((h3 42 1 (by decide) (by decide +kernel)).trans (by decide +kernel) : R 42 1 = some 43)
  | 34, _ => ObAa r8 ((h3 6 1 (by decide) (by decide +kernel)).trans (by decide +kernel) : R 6 1 = some 7)
  | 35, _ => ObH r6
  | 36, _ => ObP r2
  | u + 37, h => absurd h (by exact om_5903af35 h)
def oby : List Nat := [53, 54, 55, 56, 57, 58, 59, 60, 61, 62, 63, 64, 65, 66, 67, 68, 69, 70, 71, 72, 73, 74, 75, 76, 77, 78, 80, 82, 84, 48, 79, 81, 83, 85, 49, 47, 45]
theorem oby_at {R : cz_R} (h3 : ∀ k j : Nat, k < 202 → j < (rfL.getD k []).length → R k j = rf0 k j) : ∀ u, u < 37 → Ob R 44 u = some (oby.getD u 0) := by
  have r2 : R 44 2 = some 45 := ((h3 44 2 (by decide) (by decide +kernel)).trans (by decide +kernel) : R 44 2 = some 45)
  have r4 : R 44 4 = some 46 := ((h3 44 4 (by decide) (by decide +kernel)).trans (by decide +kernel) : R 44 4 = some 46)
  have r6 : R 44 6 = some 47 := ((h3 44 6 (by decide) (by decide +kernel)).trans (by decide +kernel) : R 44 6 = some 47)
  have r8 : R 44 8 = some 48 := ((h3 44 8 (by decide) (by decide +kernel)).trans (by decide +kernel) : R 44 8 = some 48)
  have r10 : R 44 10 = some 50 := ((h3 44 10 (by decide) (by decide +kernel)).trans (by decide +kernel) : R 44 10 = some 50)
  have r12 : R 44 12 = some 51 := ((h3 44 12 (by decide) (by decide +kernel)).trans (by decide +kernel) : R 44 12 = some 51)
  have r14 : R 44 14 = some 52 := ((h3 44 14 (by decide) (by decide +kernel)).trans (by decide +kernel) : R 44 14 = some 52)
  exact fun u hu => match u, hu with
  | 0, _ => ObE (k := 0) r4 (by decide) ((h3 46 0 (by decide) (by decide +kernel)).trans (by decide +kernel) : R 46 0 = some 53)
  | 1, _ => ObE (k := 1) r4 (by decide) ((h3 46 1 (by decide) (by decide +kernel)).trans (by decide +kernel) : R 46 1 = some 54)
  | 2, _ => ObE (k := 2) r4 (by decide) ((h3 46 2 (by decide) (by decide +kernel)).trans (by decide +kernel) : R 46 2 = some 55)
  | 3, _ => ObE (k := 3) r4 (by decide) ((h3 46 3 (by decide) (by decide +kernel)).trans (by decide +kernel) : R 46 3 = some 56)
  | 4, _ => ObE (k := 4) r4 (by decide) ((h3 46 4 (by decide) (by decide +kernel)).trans (by decide +kernel) : R 46 4 = some 57)
  | 5, _ => ObE (k := 5) r4 (by decide) ((h3 46 5 (by decide) (by decide +kernel)).trans (by decide +kernel) : R 46 5 = some 58)
  | 6, _ => ObE (k := 6) r4 (by decide) ((h3 46 6 (by decide) (by decide +kernel)).trans (by decide +kernel) : R 46 6 = some 59)
  | 7, _ => ObE (k := 7) r4 (by decide) ((h3 46 7 (by decide) (by decide +kernel)).trans (by decide +kernel) : R 46 7 = some 60)
  | 8, _ => ObE (k := 8) r4 (by decide) ((h3 46 8 (by decide) (by decide +kernel)).trans (by decide +kernel) : R 46 8 = some 61)
  | 9, _ => ObE (k := 9) r4 (by decide) ((h3 46 9 (by decide) (by decide +kernel)).trans (by decide +kernel) : R 46 9 = some 62)
  | 10, _ => ObE (k := 10) r4 (by decide) ((h3 46 10 (by decide) (by decide +kernel)).trans (by decide +kernel) : R 46 10 = some 63)
  | 11, _ => ObE (k := 11) r4 (by decide) ((h3 46 11 (by decide) (by decide +kernel)).trans (by decide +kernel) : R 46 11 = some 64)
  | 12, _ => ObE (k := 12) r4 (by decide) ((h3 46 12 (by decide) (by decide +kernel)).trans (by decide +kernel) : R 46 12 = some 65)
  | 13, _ => ObE (k := 13) r4 (by decide) ((h3 46 13 (by decide) (by decide +kernel)).trans (by decide +kernel) : R 46 13 = some 66)
  | 14, _ => ObT (k := 0) r10 (by decide) ((h3 50 0 (by decide) (by decide +kernel)).trans (by decide +kernel) : R 50 0 = some 67)
  | 15, _ => ObT (k := 1) r10 (by decide) ((h3 50 1 (by decide) (by decide +kernel)).trans (by decide +kernel) : R 50 1 = some 68)
  | 16, _ => ObT (k := 2) r10 (by decide) ((h3 50 2 (by decide) (by decide +kernel)).trans (by decide +kernel) : R 50 2 = some 69)
  | 17, _ => ObT (k := 3) r10 (by decide) ((h3 50 3 (by decide) (by decide +kernel)).trans (by decide +kernel) : R 50 3 = some 70)
  | 18, _ => ObT (k := 4) r10 (by decide) ((h3 50 4 (by decide) (by decide +kernel)).trans (by decide +kernel) : R 50 4 = some 71)
  | 19, _ => ObC (k := 0) r12 (by decide) ((h3 51 0 (by decide) (by decide +kernel)).trans (by decide +kernel) : R 51 0 = some 72)
  | 20, _ => ObC (k := 1) r12 (by decide) ((h3 51 1 (by decide) (by decide +kernel)).trans (by decide +kernel) : R 51 1 = some 73)
  | 21, _ => ObC (k := 2) r12 (by decide) ((h3 51 2 (by decide) (by decide +kernel)).trans (by decide +kernel) : R 51 2 = some 74)
  | 22, _ => ObC (k := 3) r12 (by decide) ((h3 51 3 (by decide) (by decide +kernel)).trans (by decide +kernel) : R 51 3 = some 75)
  | 23, _ => ObC (k := 4) r12 (by decide) ((h3 51 4 (by decide) (by decide +kernel)).trans (by decide +kernel) : R 51 4 = some 76)
  | 24, _ => ObC (k := 5) r12 (by decide) ((h3 51 5 (by decide) (by decide +kernel)).trans (by decide +kernel) : R 51 5 = some 77)
  | 25, _ => ObS (k := 0) r14 (by decide) ((h3 52 0 (by decide) (by decide +kernel)).trans (by decide +kernel) : R 52 0 = some 78)
  | 26, _ => ObS (k := 1) r14 (by decide) ((h3 52 1 (by decide) (by decide +kernel)).trans (by decide +kernel) : R 52 1 = some 80)
  | 27, _ => ObS (k := 2) r14 (by decide) ((h3 52 2 (by decide) (by decide +kernel)).trans (by decide +kernel) : R 52 2 = some 82)
  | 28, _ => ObS (k := 3) r14 (by decide) ((h3 52 3 (by decide) (by decide +kernel)).trans (by decide +kernel) : R 52 3 = some 84)
  | 29, _ => ObA r8
  | 30, _ => ObSa (k := 0) r14 (by decide) ((h3 52 0 (by decide) (by decide +kernel)).trans (by decide +kernel) : R 52 0 = some 78) ((h3 78 1 (by decide) (by decide +kernel)).trans (by decide +kernel) : R 78 1 = some 79)
  | 31, _ => ObSa (k := 1) r14 (by decide) ((h3 52 1 (by decide) (by decide +kernel)).trans (by decide +kernel) : R 52 1 = some 80) ((h3 80 1 (by decide) (by decide +kernel)).trans (by decide +kernel) : R 80 1 = some 81)
  | 32, _ => ObSa (k := 2) r14 (by decide) ((h3 52 2 (by decide) (by decide +kernel)).trans (by decide +kernel) : R 52 2 = some 82) ((h3 82 1 (by decide) (by decide +kernel)).trans (by decide +kernel) : R 82 1 = some 83)
  | 33, _ => ObSa (k := 3) r14 (by decide) ((h3 52 3 (by decide) (by decide +kernel)).trans (by decide +kernel) : R 52 3 = some 84) ((h3 84 1 (by decide) (by decide +kernel)).trans (by decide +kernel) : R 84 1 = some 85)
  | 34, _ => ObAa r8 ((h3 48 1 (by decide) (by decide +kernel)).trans (by decide +kernel) : R 48 1 = some 49)
  | 35, _ => ObH r6
  | 36, _ => ObP r2
  | u + 37, h => absurd h (by exact om_5903af35 h)
theorem obx_in : ∀ u, u < 37 → ∀ v, v < 37 → obx.getD u 0 = obx.getD v 0 → u = v := by decide +kernel
theorem oby_in : ∀ u, u < 37 → ∀ v, v < 37 → oby.getD u 0 = oby.getD v 0 → u = v := by decide +kernel
theorem oxy_in : ∀ u, u < 37 → ∀ v, v < 37 → ¬ obx.getD u 0 = oby.getD v 0 := by decide +kernel
def lkl : List Nat := [95, 98, 101, 104, 107, 110, 113, 116, 119, 122, 125, 128, 131, 134, 137]
def lk3 : List Nat := [96, 99, 102, 105, 108, 111, 114, 117, 120, 123, 126, 129, 132, 135, 138]
def lk4 : List Nat := [97, 100, 103, 106, 109, 112, 115, 118, 121, 124, 127, 130, 133, 136, 139]
theorem lk_at {R : cz_R} (h3 : ∀ k j : Nat, k < 202 → j < (rfL.getD k []).length → R k j = rf0 k j) : ∀ e, e < 15 → Lk R 93 94 e = some (lkl.getD e 0) := fun e he => match e, he with
  | 0, _ => (LkA (by decide)).trans ((h3 93 0 (by decide) (by decide +kernel)).trans (by decide +kernel) : R 93 0 = some 95)
  | 1, _ => (LkA (by decide)).trans ((h3 93 1 (by decide) (by decide +kernel)).trans (by decide +kernel) : R 93 1 = some 98)
  | 2, _ => (LkA (by decide)).trans ((h3 93 2 (by decide) (by decide +kernel)).trans (by decide +kernel) : R 93 2 = some 101)
  | 3, _ => (LkA (by decide)).trans ((h3 93 3 (by decide) (by decide +kernel)).trans (by decide +kernel) : R 93 3 = some 104)
  | 4, _ => (LkA (by decide)).trans ((h3 93 4 (by decide) (by decide +kernel)).trans (by decide +kernel) : R 93 4 = some 107)
  | 5, _ => (LkA (by decide)).trans ((h3 93 5 (by decide) (by decide +kernel)).trans (by decide +kernel) : R 93 5 = some 110)
  | 6, _ => (LkA (by decide)).trans ((h3 93 6 (by decide) (by decide +kernel)).trans (by decide +kernel) : R 93 6 = some 113)
  | 7, _ => (LkA (by decide)).trans ((h3 93 7 (by decide) (by decide +kernel)).trans (by decide +kernel) : R 93 7 = some 116)
  | 8, _ => (LkA (by decide)).trans ((h3 93 8 (by decide) (by decide +kernel)).trans (by decide +kernel) : R 93 8 = some 119)
  | 9, _ => (LkA (by decide)).trans ((h3 93 9 (by decide) (by decide +kernel)).trans (by decide +kernel) : R 93 9 = some 122)
  | 10, _ => (LkA (by decide)).trans ((h3 93 10 (by decide) (by decide +kernel)).trans (by decide +kernel) : R 93 10 = some 125)
  | 11, _ => (LkA (by decide)).trans ((h3 93 11 (by decide) (by decide +kernel)).trans (by decide +kernel) : R 93 11 = some 128)
  | 12, _ => (LkB (i := 0)).trans ((h3 94 0 (by decide) (by decide +kernel)).trans (by decide +kernel) : R 94 0 = some 131)
  | 13, _ => (LkB (i := 1)).trans ((h3 94 1 (by decide) (by decide +kernel)).trans (by decide +kernel) : R 94 1 = some 134)
  | 14, _ => (LkB (i := 2)).trans ((h3 94 2 (by decide) (by decide +kernel)).trans (by decide +kernel) : R 94 2 = some 137)
  | e + 15, h => absurd h (by exact om_6dc89101 h)
theorem lk3_at {R : cz_R} (h3 : ∀ k j : Nat, k < 202 → j < (rfL.getD k []).length → R k j = rf0 k j) : ∀ e, e < 15 → R (lkl.getD e 0) 3 = some (lk3.getD e 0) := fun e he => match e, he with
  | 0, _ => ((h3 95 3 (by decide) (by decide +kernel)).trans (by decide +kernel) : R 95 3 = some 96)
  | 1, _ => ((h3 98 3 (by decide) (by decide +kernel)).trans (by decide +kernel) : R 98 3 = some 99)
  | 2, _ => ((h3 101 3 (by decide) (by decide +kernel)).trans (by decide +kernel) : R 101 3 = some 102)
  | 3, _ => ((h3 104 3 (by decide) (by decide +kernel)).trans (by decide +kernel) : R 104 3 = some 105)
  | 4, _ => ((h3 107 3 (by decide) (by decide +kernel)).trans (by decide +kernel) : R 107 3 = some 108)
  | 5, _ => ((h3 110 3 (by decide) (by decide +kernel)).trans (by decide +kernel) : R 110 3 = some 111)
  | 6, _ => ((h3 113 3 (by decide) (by decide +kernel)).trans (by decide +kernel) : R 113 3 = some 114)
  | 7, _ => ((h3 116 3 (by decide) (by decide +kernel)).trans (by decide +kernel) : R 116 3 = some 117)
  | 8, _ => ((h3 119 3 (by decide) (by decide +kernel)).trans (by decide +kernel) : R 119 3 = some 120)
  | 9, _ => ((h3 122 3 (by decide) (by decide +kernel)).trans (by decide +kernel) : R 122 3 = some 123)
  | 10, _ => ((h3 125 3 (by decide) (by decide +kernel)).trans (by decide +kernel) : R 125 3 = some 126)
  | 11, _ => ((h3 128 3 (by decide) (by decide +kernel)).trans (by decide +kernel) : R 128 3 = some 129)
  | 12, _ => ((h3 131 3 (by decide) (by decide +kernel)).trans (by decide +kernel) : R 131 3 = some 132)
  | 13, _ => ((h3 134 3 (by decide) (by decide +kernel)).trans (by decide +kernel) : R 134 3 = some 135)
  | 14, _ => ((h3 137 3 (by decide) (by decide +kernel)).trans (by decide +kernel) : R 137 3 = some 138)
  | e + 15, h => absurd h (by exact om_6dc89101 h)
theorem lk3_in : ∀ e, e < 15 → ∀ f, f < 15 → lk3.getD e 0 = lk3.getD f 0 → e = f := by decide +kernel
theorem lk4_at {R : cz_R} (h3 : ∀ k j : Nat, k < 202 → j < (rfL.getD k []).length → R k j = rf0 k j) : ∀ e, e < 15 → R (lkl.getD e 0) 4 = some (lk4.getD e 0) := fun e he => match e, he with
  | 0, _ => ((h3 95 4 (by decide) (by decide +kernel)).trans (by decide +kernel) : R 95 4 = some 97)
  | 1, _ => ((h3 98 4 (by decide) (by decide +kernel)).trans (by decide +kernel) : R 98 4 = some 100)
  | 2, _ => ((h3 101 4 (by decide) (by decide +kernel)).trans (by decide +kernel) : R 101 4 = some 103)
  | 3, _ => ((h3 104 4 (by decide) (by decide +kernel)).trans (by decide +kernel) : R 104 4 = some 106)
  | 4, _ => ((h3 107 4 (by decide) (by decide +kernel)).trans (by decide +kernel) : R 107 4 = some 109)
  | 5, _ => ((h3 110 4 (by decide) (by decide +kernel)).trans (by decide +kernel) : R 110 4 = some 112)
  | 6, _ => ((h3 113 4 (by decide) (by decide +kernel)).trans (by decide +kernel) : R 113 4 = some 115)
  | 7, _ => ((h3 116 4 (by decide) (by decide +kernel)).trans (by decide +kernel) : R 116 4 = some 118)
  | 8, _ => ((h3 119 4 (by decide) (by decide +kernel)).trans (by decide +kernel) : R 119 4 = some 121)
  | 9, _ => ((h3 122 4 (by decide) (by decide +kernel)).trans (by decide +kernel) : R 122 4 = some 124)
  | 10, _ => ((h3 125 4 (by decide) (by decide +kernel)).trans (by decide +kernel) : R 125 4 = some 127)
  | 11, _ => ((h3 128 4 (by decide) (by decide +kernel)).trans (by decide +kernel) : R 128 4 = some 130)
  | 12, _ => ((h3 131 4 (by decide) (by decide +kernel)).trans (by decide +kernel) : R 131 4 = some 133)
  | 13, _ => ((h3 134 4 (by decide) (by decide +kernel)).trans (by decide +kernel) : R 134 4 = some 136)
  | 14, _ => ((h3 137 4 (by decide) (by decide +kernel)).trans (by decide +kernel) : R 137 4 = some 139)
  | e + 15, h => absurd h (by exact om_6dc89101 h)
theorem lk4_in : ∀ e, e < 15 → ∀ f, f < 15 → lk4.getD e 0 = lk4.getD f 0 → e = f := by decide +kernel
theorem lkl_in : ∀ e, e < 15 → ∀ f, f < 15 → lkl.getD e 0 = lkl.getD f 0 → e = f := by decide +kernel
theorem lawC0 {I : cz_I} {R : cz_R} (h3 : ∀ k j : Nat, k < 202 → j < (rfL.getD k []).length → R k j = rf0 k j) (h4 : ∀ k j : Nat, k < 202 → j < max (ln0 k) 36 → I k j = in0 k j) : LawC I R 0 183 := by
  have r1 : R 0 2 = some 2 := (h3 0 2 (by decide) (by decide +kernel)).trans (by decide +kernel)
  have r2 : R 0 3 = some 44 := (h3 0 3 (by decide) (by decide +kernel)).trans (by decide +kernel)
  have r3 : R 0 6 = some 89 := (h3 0 6 (by decide) (by decide +kernel)).trans (by decide +kernel)
  have r4 : R 0 7 = some 92 := (h3 0 7 (by decide) (by decide +kernel)).trans (by decide +kernel)
  have r5 : R 92 1 = some 93 := (h3 92 1 (by decide) (by decide +kernel)).trans (by decide +kernel)
  have r6 : R 92 3 = some 94 := (h3 92 3 (by decide) (by decide +kernel)).trans (by decide +kernel)
  have r8 : R 2 8 = some 6 := (h3 2 8 (by decide) (by decide +kernel)).trans (by decide +kernel)
  have m1 : R 183 16 = some 185 := (h3 183 16 (by decide) (by decide +kernel)).trans (by decide +kernel)
  have m2 : R 183 17 = some 186 := (h3 183 17 (by decide) (by decide +kernel)).trans (by decide +kernel)
  have m3 : R 183 18 = some 187 := (h3 183 18 (by decide) (by decide +kernel)).trans (by decide +kernel)
  have m4 : R 183 3 = none := (h3 183 3 (by decide) (by decide +kernel)).trans (by decide +kernel)
  have i1 : (I 0 5).toInt = 0 := by rw [h4 0 5 (by decide) (by decide +kernel)]; decide +kernel
  have i4 : (I 89 0).toInt = 0 := by rw [h4 89 0 (by decide) (by decide +kernel)]; decide +kernel
  have i5 : (I 89 2).toInt = 0 := by rw [h4 89 2 (by decide) (by decide +kernel)]; decide +kernel
  have i6 : (I 89 1).toInt = 0 := by rw [h4 89 1 (by decide) (by decide +kernel)]; decide +kernel
  have i7 : (I 92 0).toInt = 0 := by rw [h4 92 0 (by decide) (by decide +kernel)]; decide +kernel
  have i8 : (I 92 2).toInt = 0 := by rw [h4 92 2 (by decide) (by decide +kernel)]; decide +kernel
  have n1 : (I 183 19).toInt = 0 := by rw [h4 183 19 (by decide) (by decide +kernel)]; decide +kernel
  have n2 : (I 183 20).toInt = 0 := by rw [h4 183 20 (by decide) (by decide +kernel)]; decide +kernel
  have a0 : (I 2 0).toInt = 0 := by rw [h4 2 0 (by decide) (by decide +kernel)]; decide +kernel
  have a1 : (I 2 1).toInt = 0 := by rw [h4 2 1 (by decide) (by decide +kernel)]; decide +kernel
  have a3 : (I 2 3).toInt = 0 := by rw [h4 2 3 (by decide) (by decide +kernel)]; decide +kernel
  have a5 : (I 2 5).toInt = 0 := by rw [h4 2 5 (by decide) (by decide +kernel)]; decide +kernel
  have a9 : (I 2 9).toInt = 0 := by rw [h4 2 9 (by decide) (by decide +kernel)]; decide +kernel
  have a11 : (I 2 11).toInt = 0 := by rw [h4 2 11 (by decide) (by decide +kernel)]; decide +kernel
  have a13 : (I 2 13).toInt = 0 := by rw [h4 2 13 (by decide) (by decide +kernel)]; decide +kernel
  have a7 : (I 2 7).toInt = 0 := by rw [h4 2 7 (by decide) (by decide +kernel)]; decide +kernel
  have a8 : (I 6 0).toInt = 0 := by rw [h4 6 0 (by decide) (by decide +kernel)]; decide +kernel
  have w0 : ∀ c, c < 3 → (in0 185 c).toInt = 0 := by decide +kernel
  have hTx : AlT R 2 := fun u u' a hu hu' h1 h2 => by
    rw [obx_at h3 u hu] at h1
    rw [obx_at h3 u' hu'] at h2
    exact obx_in u hu u' hu' (Option.some.inj (h1.trans h2.symm))
  have hTy : AlT R 44 := fun u u' a hu hu' h1 h2 => by
    rw [oby_at h3 u hu] at h1
    rw [oby_at h3 u' hu'] at h2
    exact oby_in u hu u' hu' (Option.some.inj (h1.trans h2.symm))
  have hX : AlX R 2 44 := fun u u' a hu hu' h1 h2 => by
    rw [obx_at h3 u hu] at h1
    rw [oby_at h3 u' hu'] at h2
    exact oxy_in u hu u' hu' (Option.some.inj (h1.trans h2.symm))
  have hA : AlC I R 2 Q00 E00 := AlC.z a7 (fun o ho => by obtain rfl := Option.some.inj (r8.symm.trans ho); exact a8)
  refine ⟨0, Q00, E00, fun _ => 0, 0, 0, fun _ _ => 0, fun _ _ => 0, Or.inl ⟨rfl, rfl, rfl⟩, ⟨2, 44, 89, 92, 93, 94, ⟨r1, r2, by decide, r3, r4, r5, r6⟩, i1, ⟨a0, ?_, a3, a11, hA⟩, ⟨hTx, hTy, hX⟩, ⟨i4, i5, i6, fun f t _ _ k _ hs => ?_⟩, i7, i8, fun i hi => by omega, fun i hi => by omega, ⟨?_, ?_⟩⟩, ⟨185, 186, 187, m1, m2, m3, Or.inl ⟨rfl, m4, fun _ => rfl⟩, ⟨?_, fun k _ hs => ?_⟩, n1, n2, fun i hi => by omega, fun i hi => by omega⟩, ⟨by decide, by decide⟩, fun i hi => by exact om_3ce8c7cc hi, fun i hi => by exact om_3ce8c7cc hi, fun _ => ⟨rfl, rfl, rfl, rfl⟩⟩
  · exact fun k hk => match k, hk with
      | 0, _ => a0
      | 1, _ => a1
      | 2, _ => a3
      | 3, _ => a5
      | 4, _ => a9
      | 5, _ => a11
      | 6, _ => a13
      | k + 7, h => absurd h (by exact om_d08c7ba0 h)
  · have hs : (k : Int) < 0 := hs
    omega
  · intro e e' h he he' h1 h2
    rw [lk_at h3 e he] at h1
    rw [lk_at h3 e' he'] at h2
    exact lkl_in e he e' he' (Option.some.inj (h1.trans h2.symm))
  · intro e e' h h' f j hj he he' h1 h2 h5 h6
    rw [lk_at h3 e he] at h1
    rw [lk_at h3 e' he'] at h2
    cases h1
    cases h2
    rcases hj with rfl | rfl
    · rw [lk3_at h3 e he] at h5
      rw [lk3_at h3 e' he'] at h6
      exact lk3_in e he e' he' (Option.some.inj (h5.trans h6.symm))
    · rw [lk4_at h3 e he] at h5
      rw [lk4_at h3 e' he'] at h6
      exact lk4_in e he e' he' (Option.some.inj (h5.trans h6.symm))
  · intro c hc
    rw [h4 185 c (by decide) (by have e : max (ln0 185) 36 = 36 := (by decide +kernel); rw [e]; exact om_31d499b8 hc)]
    exact w0 c hc
  · have hs : (k : Int) < 0 := hs
    omega
theorem dj0 : ∀ k, k < 12 → ∀ l, l < 12 → (rf0 140 k).isSome = true → ¬ rf0 140 k = rf0 163 l := by decide +kernel
theorem lawS0 {I : cz_I} {R : cz_R} (h3 : ∀ k j : Nat, k < 202 → j < (rfL.getD k []).length → R k j = rf0 k j) (h4 : ∀ k j : Nat, k < 202 → j < max (ln0 k) 36 → I k j = in0 k j) : LawS I R 0 183 := by
  obtain ⟨ha, c, E, s, n, mk, g, q, hOr, hC, hM, hR⟩ := lawC0 h3 h4
  have r8 : R 0 8 = some 140 := (h3 0 8 (by decide) (by decide +kernel)).trans (by decide +kernel)
  have r13 : R 0 13 = some 163 := (h3 0 13 (by decide) (by decide +kernel)).trans (by decide +kernel)
  have i9 : (I 0 9).toInt = 0 := by rw [h4 0 9 (by decide) (by decide +kernel)]; decide +kernel
  have l8 : (rfL.getD 140 []).length = 12 := by decide +kernel
  have l13 : (rfL.getD 163 []).length = 12 := by decide +kernel
  refine ⟨ha, c, E, s, n, mk, g, q, hOr, ⟨hC, SkN.z i9, fun a b h8 h13 => ?_⟩, hM, hR⟩
  obtain rfl := Option.some.inj (r8.symm.trans h8)
  obtain rfl := Option.some.inj (r13.symm.trans h13)
  refine ⟨by decide, fun k l r k1 k2 l1 l2 hk hl => ?_⟩
  rw [h3 140 k (by decide) (by exact om_55ef2aad l8 k1 k2)] at hk
  rw [h3 163 l (by decide) (by exact om_55ef2aad l13 l1 l2)] at hl
  exact dj0 k (by exact om_d274c42a k1 k2) l (by exact om_d274c42a l1 l2) (by rw [hk]; rfl) (hk.trans hl.symm)
theorem tp_eqB : (List.range 900).all (fun k => decide (in0 1 k = in0 184 k)) = true := by decide +kernel
theorem tp_eq : ∀ k : Nat, k < 900 → in0 1 k = in0 184 k := fun k hk => of_decide_eq_true (List.all_eq_true.mp tp_eqB k (List.mem_range.mpr hk))
set_option maxRecDepth 100000 in
set_option maxHeartbeats 4000000 in
theorem law_start {X : cz_X} {xs : Nat → Int32} {Ln : Nat} (hLn : Ln ≤ 3072) (hE : cz_env X) (hZ : cz_LZ X) (hs : cz_scr X Ln xs) (hx : cz_LX X) : Tr X mL_law 0 (cz_en [.float 1000000]) [] 0 (fun _ => 99) (fun _ => 0) (fun _ _ => 0) (fun _ _ => none) (fun _ _ => 0) 0 0 := by
  obtain ⟨K1, N1, I1, R1, K, N, I, R, g1, g2, hnew⟩ := cz_made
  have f0 : cz_Fr 0 (fun _ _ => 0) (fun _ _ => none) (fun _ _ => 0) := ⟨fun k _ => ⟨rfl, rfl, rfl⟩, fun k j x h => by cases h⟩
  obtain ⟨f1, t1⟩ := cz_go_ok (fun _ _ => 0) _ _ _ _ _ _ _ _ _ _ _ _ _ _ _ _ _ g1 f0.more
  obtain ⟨f2, t2⟩ := cz_go_ok (fun _ _ => 0) _ _ _ _ _ _ _ _ _ _ _ _ _ _ _ _ _ g2 f1.more
  refine tr_newF (ci := 10) f0 dL_law_0 (by decide) lc13_8 ins10 ini10 (by decide) (by decide) ?_
  refine tr_dup dL_law_3 rfl ?_
  refine tr_callI (M' := mX10_init) (as := []) dL_law_4 lk13_15 inX10_init rfl rfl myX10_init ⟨by decide, by decide⟩ rfl (Nat.le_of_ble_eq_true rfl) (by decide) (by decide) (cz_gocon (by decide +kernel) rfl (by decide) rfl t1) ?_
  rintro _ _ _ _ _ _ _ ⟨rfl, rfl, rfl, rfl, rfl, rfl, rfl⟩
  refine tr_astore_n dL_law_7 (by decide) (by decide) ?_
  refine tr_newF (ci := 12) f1 dL_law_8 (by decide) lc13_16 ins12 ini12 (by decide) (by decide) ?_
  refine tr_dup dL_law_11 rfl ?_
  refine tr_callI (M' := mX12_init) (as := []) dL_law_12 lk13_18 inX12_init rfl rfl myX12_init ⟨by decide, by decide⟩ rfl (Nat.le_of_ble_eq_true rfl) (by decide) (by decide) (cz_gocon (by decide +kernel) rfl (by decide) rfl t2) ?_
  rintro _ _ _ _ _ _ _ ⟨rfl, rfl, rfl, rfl, rfl, rfl, rfl⟩
  refine tr_astore_n dL_law_15 (by decide) (by decide) ?_
  refine tr_iconst (v := 1) dL_law_16 (by decide +kernel) ?_
  refine tr_newaF (len := 1) f2 dL_law_17 (by decide) arc_long (by decide +kernel) (by decide +kernel) (by decide) (by decide) (by decide) ?_
  refine tr_astore_n dL_law_19 (by decide) (by decide) ?_
  refine tr_iconst (v := 0) dL_law_20 (by decide +kernel) ?_
  refine tr_istore dL_law_21 (by decide) (by decide) ?_
  have G0 : GB 1 (va_up (fun _ => 99) 0 10) (va_up (fun _ => 0) 0 0) (fun _ _ => 0) (fun _ _ => none) := ⟨fun _ _ => ⟨rfl, rfl⟩, fun _ _ _ _ => ⟨rfl, rfl⟩⟩
  have G1 := cz_go_gb _ _ _ _ _ _ _ _ _ _ _ _ _ _ _ _ _ g1 G0
  have G2 := cz_go_gb _ _ _ _ _ _ _ _ _ _ _ _ _ _ _ _ _ g2 G1.new
  obtain ⟨hW, hB⟩ := wf0 hnew G2
  obtain ⟨-, h1, h2, h3, h4, -⟩ := hnew
  show Tr X mL_law 23 _ [] 203 _ _ _ _ _ 203 15311
  refine law_loop hLn (x := 0) (m := 183) (o := 202) _ X t0 203 _ _ _ _ _ _ 0 203 15311 hE hs hZ hx ⟨hW, hB, rfl, rfl, rfl, ?_, ⟨?_, ?_⟩, lawS0 h3 h4⟩ rfl rfl rfl rfl rfl ?_ (by decide) (by have e : (0 : Int32).toInt = 0 := rfl; rw [e]; exact om_0118c064 hLn) ?_ ?_ (Nat.lt_succ_self _)
  · rw [h4 0 1 (by decide) (by decide +kernel), h4 183 6 (by decide) (by decide +kernel)]; decide +kernel
  · intro r hr
    rw [h3 0 4 (by decide) (by decide +kernel)] at hr
    obtain rfl : r = 86 := by have e : rf0 0 4 = some 86 := (by decide +kernel); rw [e] at hr; exact (Option.some.inj hr).symm
    rw [h3 86 0 (by decide) (by decide +kernel), h3 0 0 (by decide) (by decide +kernel)]; decide +kernel
  · intro t u ht hu k hk
    rw [h3 0 0 (by decide) (by decide +kernel)] at ht
    rw [h3 183 5 (by decide) (by decide +kernel)] at hu
    obtain rfl : t = 1 := by have e : rf0 0 0 = some 1 := (by decide +kernel); rw [e] at ht; exact (Option.some.inj ht).symm
    obtain rfl : u = 184 := by have e : rf0 183 5 = some 184 := (by decide +kernel); rw [e] at hu; exact (Option.some.inj hu).symm
    rw [h4 1 k (by decide) (by have e : ln0 1 = 900 := (by decide +kernel); rw [e]; exact om_fdbd665b hk), h4 184 k (by decide) (by have e : ln0 184 = 900 := (by decide +kernel); rw [e]; exact om_fdbd665b hk)]
    exact tp_eq k hk
  · intro i k h
    change va_up (va_up (va_up (va_up (cz_en [Value.float 1000000]) 1 (some (.ref 0))) 2 (some (.ref 183))) 3 (some (.ref 202))) 4 (some (.int 0)) i = some (.ref k) at h
    by_cases h4 : i = 4
    · subst h4; cases h
    · by_cases h3 : i = 3
      · subst h3; cases h; decide
      · by_cases h2 : i = 2
        · subst h2; cases h; decide
        · by_cases h1 : i = 1
          · subst h1; cases h; decide
          · rw [va_upn h4, va_upn h3, va_upn h2, va_upn h1] at h
            by_cases h0 : i = 0
            · subst h0; cases h
            · have hz : ((0 : Nat) == i) = false := by simpa using fun q : 0 = i => h0 q.symm
              simp [cz_en, lv_args, hz] at h
  · have e : (0 : Int32).toInt = 0 := rfl
    rw [e]; exact om_cd63d3ea hLn
  · have e : (0 : Int32).toInt = 0 := rfl
    rw [e]; exact om_8e2d2731 hLn
