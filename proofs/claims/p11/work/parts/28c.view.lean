/-! ===== level C: the law's roads of alp and nights ===== -/
section CzVa
variable {T : Nat → Nat} {cn : Nat} {K N : Nat → Nat} {I I8 I9 : cz_I} {R R8 R9 : cz_R} {x m : Nat}
theorem LawC.cb (h : LawC I R x m) : ∀ b, R x 6 = some b → 0 ≤ (I b 0).toInt ∧ (I b 0).toInt ≤ 63 := by
  obtain ⟨ha, c, E, s, n, mk, g, q, -, ⟨al, dr, nw, pa, A, B, ⟨-, -, -, p4, -⟩, -, -, -, ⟨t0, -⟩, -⟩, -, ⟨r0, -⟩⟩ := h
  intro b hb
  obtain rfl := Option.some.inj (p4.symm.trans hb)
  rw [t0]; exact r0
theorem LawC.wb (h : LawC I R x m) : ∀ b, R m 16 = some b → 0 ≤ (I b 0).toInt ∧ (I b 0).toInt ≤ 63 := by
  obtain ⟨ha, c, E, s, n, mk, g, q, -, -, ⟨w, p, k, p1, -, -, -, hs, -⟩, ⟨r0, -⟩⟩ := h
  intro b hb
  obtain rfl := Option.some.inj (p1.symm.trans hb)
  rw [hs.1 0 (by exact om_d64e39d1)]; exact r0
theorem LawC.mb (h : LawC I R x m) (hW : Wf T cn K N I R 0) (tm : T m = 15) : ∀ b, R x 2 = some b → (I x 5).toInt = 1 → (I b 0).toInt ≥ 1 := by
  obtain ⟨ha, c, E, s, n, mk, g, q, -, ⟨al, dr, nw, pa, A, B, ⟨p1, -⟩, s1, ⟨v0, -⟩, -⟩, ⟨w, p, k, -, -, -, hav, -⟩, -⟩ := h
  intro b hb h5
  obtain rfl := Option.some.inj (p1.symm.trans hb)
  rcases hav with ⟨h1, -⟩ | ⟨h1, b, h2, h3, -⟩
  · exact om_bb0aba8d s1 h5 h1
  · have := hW.2.2.2.2.2.1 m tm b h2
    exact om_17bcd4c0 v0 h3 this
theorem CVw.alp9 {ha n mk : Int} {c : Nat → Int} {E : Nat → Nat → Int} {s : Nat → Int} {g q : Nat → Nat → Int} (h : CVw I8 R8 x ha c E s n mk g q) (hW : Wf T cn K N I8 R8 0) (tx : T x = 1) (hI9 : ∀ a j, a < cn → wm wi_alpT (T a) j = false → I9 a j = I8 a j) (hR9 : ∀ a j, a < cn → wm wr_alpT (T a) j = false → R9 a j = R8 a j) : CVw I9 R9 x ha c E s n mk g q := by
  have lt : ∀ a r, T a = r → ¬ r = 0 → a < cn := fun a r ta hr => (hW.1 a (by rw [ta]; exact hr)).1
  have hx : x < cn := lt x 1 tx (by decide)
  have kI : ∀ r a j, T a = r → r ∈ [2, 3, 4, 5, 6, 18, 20, 24, 8, 10, 11, 27, 28, 31, 32] → I9 a j = I8 a j := fun r a j ta hr => hI9 a j (lt a r ta (fun z => by subst z; revert hr; decide)) (by rw [ta]; exact wm_no (okI_at (rs := [2, 3, 4, 5, 6, 18, 20, 24, 8, 10, 11, 27, 28, 31, 32]) (by decide +kernel) hr))
  have kR : ∀ r a j, T a = r → r ∈ [2, 8, 10, 11, 19, 6, 21, 22, 23, 33, 34] → R9 a j = R8 a j := fun r a j ta hr => hR9 a j (lt a r ta (fun z => by subst z; revert hr; decide)) (by rw [ta]; exact wm_no (okI_at (rs := [2, 8, 10, 11, 19, 6, 21, 22, 23, 33, 34]) (by decide +kernel) hr))
  refine h.of hW tx (hI9 x 5 hx (by rw [tx]; decide +kernel)) (fun al j hal => kI 2 al j (hW.rs tx rfl rfl hal) (by decide)) (fun al hal v => v.kp hW (hW.rs tx rfl rfl hal) (kI 2 al 7 (hW.rs tx rfl rfl hal) (by decide)) (fun a j ta => by
    rcases rdc_in ta with ta | ta | ta | ta | ta | ta | ta <;> exact kI _ a j ta (by decide))) (fun a j ta => ?_) (hR9 x 2 hx (by rw [tx]; decide +kernel)) (hR9 x 3 hx (by rw [tx]; decide +kernel)) (hR9 x 6 hx (by rw [tx]; decide +kernel)) (hR9 x 7 hx (by rw [tx]; decide +kernel)) (fun a j ta => ?_)
  · unfold R7 at ta
    rcases ta with ta | ta | ta | ta | ta | ta | ta <;> exact kI _ a j ta (by decide)
  · rcases ta with ta | ta | ta | ta | ta | ta | ta | ta | ta | ta | ta <;> exact kR _ a j ta (by decide)
end CzVa
