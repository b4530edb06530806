/-! ===== the law's roads of alp and nights ===== -/
section CzVa
variable {T : Nat → Nat} {cn : Nat} {K N : Nat → Nat} {I I8 I9 : cz_I} {R R8 R9 : cz_R} {x m : Nat}
theorem LawA.cb (h : LawA I R x m) : ∀ b, R x 6 = some b → 0 ≤ (I b 0).toInt ∧ (I b 0).toInt ≤ 63 := by
  obtain ⟨ha, mi, ca, s, n, mk, g, q, ⟨al, dr, nw, pa, A, B, ⟨-, -, -, p4, -⟩, ⟨-, -, -, ⟨t0, -⟩, -⟩, -⟩, -, ⟨r0, -⟩⟩ := h
  intro b hb
  obtain rfl := Option.some.inj (p4.symm.trans hb)
  rw [t0]; exact r0
theorem LawA.wb (h : LawA I R x m) : ∀ b, R m 16 = some b → 0 ≤ (I b 0).toInt ∧ (I b 0).toInt ≤ 63 := by
  obtain ⟨ha, mi, ca, s, n, mk, g, q, -, ⟨w, p, k, p1, -, -, -, hs, -⟩, ⟨r0, -⟩⟩ := h
  intro b hb
  obtain rfl := Option.some.inj (p1.symm.trans hb)
  rw [hs 0 (by exact om_d64e39d1)]; exact r0
theorem LawA.mb (h : LawA I R x m) (hW : Wf T cn K N I R 0) (tm : T m = 15) : ∀ b, R x 2 = some b → (I x 5).toInt = 1 → (I b 0).toInt ≥ 1 := by
  obtain ⟨ha, mi, ca, s, n, mk, g, q, ⟨al, dr, nw, pa, A, B, ⟨p1, -⟩, ⟨s1, s2, -⟩, -⟩, ⟨w, p, k, -, -, -, hav, -⟩, -⟩ := h
  intro b hb h5
  obtain rfl := Option.some.inj (p1.symm.trans hb)
  rcases hav with ⟨h1, -⟩ | ⟨h1, c, h2, h3, -⟩
  · exact om_bb0aba8d s1 h5 h1
  · have := hW.2.2.2.2.2.1 m tm c h2
    exact om_17bcd4c0 s2 h3 this
theorem CVw.alp9 {ha mi ca n mk : Int} {s : Nat → Int} {g q : Nat → Nat → Int} (h : CVw I8 R8 x ha mi ca s n mk g q) (hW : Wf T cn K N I8 R8 0) (tx : T x = 1) (hI9 : ∀ a j, a < cn → wm wi_alpT (T a) j = false → I9 a j = I8 a j) (hR9 : ∀ a j, a < cn → wm wr_alpT (T a) j = false → R9 a j = R8 a j) : CVw I9 R9 x ha mi ca s n mk g q := by
  have lt : ∀ a r, T a = r → ¬ r = 0 → a < cn := fun a r ta hr => (hW.1 a (by rw [ta]; exact hr)).1
  have hx : x < cn := lt x 1 tx (by decide)
  refine h.of hW tx (hI9 x 5 hx (by rw [tx]; decide +kernel)) (fun al j hal => ?_) (fun a j ta => ?_) (hR9 x 2 hx (by rw [tx]; decide +kernel)) (hR9 x 3 hx (by rw [tx]; decide +kernel)) (hR9 x 6 hx (by rw [tx]; decide +kernel)) (hR9 x 7 hx (by rw [tx]; decide +kernel)) (fun a j ta => ?_)
  · have tal : T al = 2 := hW.rs tx rfl rfl hal
    exact hI9 al j (lt al 2 tal (by decide)) (by rw [tal]; exact wm_no (by decide +kernel))
  · rcases ta with ta | ta | ta
    · exact hI9 a j (lt a 8 ta (by decide)) (by rw [ta]; exact wm_no (by decide +kernel))
    · exact hI9 a j (lt a 10 ta (by decide)) (by rw [ta]; exact wm_no (by decide +kernel))
    · exact hI9 a j (lt a 11 ta (by decide)) (by rw [ta]; exact wm_no (by decide +kernel))
  · rcases ta with ta | ta | ta
    · exact hR9 a j (lt a 11 ta (by decide)) (by rw [ta]; exact wm_no (by decide +kernel))
    · exact hR9 a j (lt a 33 ta (by decide)) (by rw [ta]; exact wm_no (by decide +kernel))
    · exact hR9 a j (lt a 34 ta (by decide)) (by rw [ta]; exact wm_no (by decide +kernel))
theorem lw_alpN (h : LawA I R x m) (hW : Wf T cn K N I R 0) (tx : T x = 1) (tm : T m = 15) (g8 : St T cn K N 0 wik_X10_alp wrk_X10_alp I R I8 R8) (hO : ∀ dr, R x 3 = some dr → FrO 2 dr T I I8) (kr : R8 x 2 = R x 2 ∧ R8 x 3 = R x 3) (kp : (∀ a j, T a = 8 ∨ T a = 10 ∨ T a = 11 → I8 a j = I a j) ∧ I8 x 5 = I x 5) (hI9 : ∀ a j, a < cn → wm wi_alpT (T a) j = false → I9 a j = I8 a j) (hR9 : ∀ a j, a < cn → wm wr_alpT (T a) j = false → R9 a j = R8 a j) (h14 : ∀ a j, a < cn → T a = 14 → I9 a j = I8 a j) (hN : AlN T cn I8 I9 R8 R9 m) : LawA I9 R9 x m := by
  obtain ⟨ha, mi, ca, s, n, mk, g, q, hC, hM, hR⟩ := h
  have lt : ∀ a r, T a = r → ¬ r = 0 → a < cn := fun a r ta hr => (g8.1.1 a (by rw [ta]; exact hr)).1
  have hm : m < cn := lt m 15 tm (by decide)
  have hC8 : CVw I8 R8 x ha mi ca s n mk g q := hC.alpN hW tx hO kr kp (g8.rcell tx (by decide +kernel)) (g8.rcell tx (by decide +kernel)) (fun a j ta => by
    rcases ta with ta | ta | ta
    · exact g8.rcell ta (wm_no (by decide +kernel))
    · exact g8.rcell ta (wm_no (by decide +kernel))
    · exact g8.rcell ta (wm_no (by decide +kernel)))
  have hM8 := hM.kp hW tm g8 (by decide +kernel) (by decide +kernel) (by decide +kernel) (by decide +kernel) (by decide +kernel) (by decide +kernel) (by decide +kernel) (by decide +kernel) (by decide +kernel) (by decide +kernel)
  obtain ⟨n3, n19, n20, nr⟩ := hN
  exact ⟨ha, mi, ca, s, n, mk, g, q, hC8.alp9 g8.1 tx hI9 hR9, hM8.of g8.1 tm n19 n20 (fun a j ta => nr a j (by rcases ta with ta | ta | ta <;> exact lt a _ ta (by decide)) ta) (fun a j ta => h14 a j (lt a 14 ta (by decide)) ta) n3 (hR9 m 16 hm (by rw [tm]; decide +kernel)) (hR9 m 17 hm (by rw [tm]; decide +kernel)) (hR9 m 18 hm (by rw [tm]; decide +kernel)), hR⟩
theorem lw_alpY {l0 l5 : Int} (h : LawA I R x m) (hW : Wf T cn K N I R 0) (tx : T x = 1) (tm : T m = 15) (g8 : St T cn K N 0 wik_X10_alp wrk_X10_alp I R I8 R8) (r2 : R8 x 2 = R x 3 ∧ R8 x 3 = R x 2) (f1 : (I8 x 5).toInt = 1) (f4 : ∀ b, R8 x 6 = some b → (I8 b 0).toInt = 0) (f5 : ∀ b, R8 x 6 = some b → (I8 b 1).toInt = 0) (f6 : ∀ b, R8 x 6 = some b → (I8 b 2).toInt = 0) (f7 : ∀ b, R8 x 7 = some b → (I8 b 0).toInt = 0) (f8 : ∀ b, R8 x 7 = some b → (I8 b 2).toInt = 0) (f2 : ∀ b, R8 x 2 = some b → (I8 b 0).toInt = l0) (f3 : ∀ b, R8 x 2 = some b → (I8 b 11).toInt = l5) (hI9 : ∀ a j, a < cn → wm wi_alpT (T a) j = false → I9 a j = I8 a j) (hR9 : ∀ a j, a < cn → wm wr_alpT (T a) j = false → R9 a j = R8 a j) (hY : AlY I9 R8 R9 m l0 l5) : LawA I9 R9 x m := by
  obtain ⟨ha, mi, ca, s, n, mk, g, q, hC, hM, hR⟩ := h
  have lt : ∀ a r, T a = r → ¬ r = 0 → a < cn := fun a r ta hr => (g8.1.1 a (by rw [ta]; exact hr)).1
  have hm : m < cn := lt m 15 tm (by decide)
  have hC8 : CVw I8 R8 x 1 l0 l5 (fun _ => 0) 0 0 g q := hC.alpY hW tx r2 (g8.rcell tx (by decide +kernel)) (g8.rcell tx (by decide +kernel)) (fun a j ta => by
    rcases ta with ta | ta | ta
    · exact g8.rcell ta (wm_no (by decide +kernel))
    · exact g8.rcell ta (wm_no (by decide +kernel))
    · exact g8.rcell ta (wm_no (by decide +kernel))) f1 f2 f3 f4 f5 f6 f7 f8
  have hM8 := hM.kp hW tm g8 (by decide +kernel) (by decide +kernel) (by decide +kernel) (by decide +kernel) (by decide +kernel) (by decide +kernel) (by decide +kernel) (by decide +kernel) (by decide +kernel) (by decide +kernel)
  obtain ⟨w, p, k, p1, p2, p3, -⟩ := hM8
  obtain ⟨⟨b, y1, y2, y3⟩, yw, y19, y20⟩ := hY
  refine ⟨1, l0, l5, fun _ => 0, 0, 0, g, q, hC8.alp9 g8.1 tx hI9 hR9, ⟨w, p, k, (hR9 m 16 hm (by rw [tm]; decide +kernel)).trans p1, (hR9 m 17 hm (by rw [tm]; decide +kernel)).trans p2, (hR9 m 18 hm (by rw [tm]; decide +kernel)).trans p3, Or.inr ⟨rfl, b, y1, y2, y3⟩, fun c hc => by rw [yw w p1 c (by exact om_e72fde65 hc)]; rfl, y19, y20, fun i c hi => by exact om_37cdc3d9 hi, fun i c hi => by exact om_37cdc3d9 hi⟩, ⟨by decide, by decide⟩, fun i hi => by exact om_3ce8c7cc hi, fun i hi => by exact om_3ce8c7cc hi, fun z => by exact om_183639fe z⟩
theorem lw_nights (tx : T x = 1) (tm : T m = 15) (h8 : LawA I8 R8 x m) (hW8 : Wf T cn K N I8 R8 0) (g9 : St T cn K N 0 wik_X12_nights wrk_X12_nights I8 R8 I9 R8) (hr : ∀ w, R8 m 16 = some w → ∀ c : Nat, c < 15 → I9 w c = I8 w c) : LawA I9 R8 x m := by
  obtain ⟨ha, mi, ca, s, n, mk, g, q, hC, hM, hR⟩ := h8
  exact ⟨ha, mi, ca, s, n, mk, g, q, hC.kp hW8 tx g9 (by decide +kernel) (by decide +kernel) (by decide +kernel) (by decide +kernel) (by decide +kernel) (by decide +kernel) (by decide +kernel) (by decide +kernel) (by decide +kernel) (by decide +kernel) (by decide +kernel) (by decide +kernel), m_nights hM hW8 tm g9 hr, hR⟩
end CzVa
