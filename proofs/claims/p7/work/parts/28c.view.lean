/-! ===== level C: the law's roads of alp and nights ===== -/
section CzVa
variable {T : Nat → Nat} {cn : Nat} {K N : Nat → Nat} {I I8 I9 : cz_I} {R R8 R9 : cz_R} {x m : Nat}
theorem LawC.cb (h : LawC I R x m) : ∀ b, R x 6 = some b → 0 ≤ (I b 0).toInt ∧ (I b 0).toInt ≤ 63 := by
  obtain ⟨ha, c, E, s, n, mk, g, q, -, ⟨al, dr, nw, pa, A, B, ⟨-, -, -, p4, -⟩, -, -, -, ⟨t0, -⟩, -⟩, -, ⟨r0, -⟩⟩ := h
  intro b hb
  obtain rfl := Option.some.inj (p4.symm.trans hb)
  rw [t0]; exact r0
theorem LawC.wb (h : LawC I R x m) : ∀ b, R m 16 = some b → 0 ≤ (I b 0).toInt ∧ (I b 0).toInt ≤ 63 := by
  obtain ⟨ha, c, E, s, n, mk, g, q, -, -, ⟨w, p, k, p1, -, -, -, hs, -⟩, ⟨r0, -⟩⟩ := h
  intro b hb
  obtain rfl := Option.some.inj (p1.symm.trans hb)
  rw [hs.1 0 (by omega)]; exact r0
theorem LawC.mb (h : LawC I R x m) (hW : Wf T cn K N I R 0) (tm : T m = 15) : ∀ b, R x 2 = some b → (I x 5).toInt = 1 → (I b 0).toInt ≥ 1 := by
  obtain ⟨ha, c, E, s, n, mk, g, q, -, ⟨al, dr, nw, pa, A, B, ⟨p1, -⟩, s1, ⟨v0, -⟩, -⟩, ⟨w, p, k, -, -, -, hav, -⟩, -⟩ := h
  intro b hb h5
  obtain rfl := Option.some.inj (p1.symm.trans hb)
  rcases hav with ⟨h1, -⟩ | ⟨h1, b, h2, h3, -⟩
  · omega
  · have := hW.2.2.2.2.2.1 m tm b h2
    omega
theorem CVw.alp9 {ha n mk : Int} {c : Nat → Int} {E : Nat → Nat → Int} {s : Nat → Int} {g q : Nat → Nat → Int} (h : CVw I8 R8 x ha c E s n mk g q) (hW : Wf T cn K N I8 R8 0) (tx : T x = 1) (hI9 : ∀ a j, a < cn → wm wi_alpT (T a) j = false → I9 a j = I8 a j) (hR9 : ∀ a j, a < cn → wm wr_alpT (T a) j = false → R9 a j = R8 a j) : CVw I9 R9 x ha c E s n mk g q := by
  have lt : ∀ a r, T a = r → ¬ r = 0 → a < cn := fun a r ta hr => (hW.1 a (by rw [ta]; exact hr)).1
  have hx : x < cn := lt x 1 tx (by decide)
  have kI : ∀ r a j, T a = r → r ∈ [2, 3, 4, 5, 6, 18, 20, 24, 8, 10, 11, 27, 28, 31, 32] → I9 a j = I8 a j := fun r a j ta hr => hI9 a j (lt a r ta (fun z => by subst z; revert hr; decide)) (by rw [ta]; exact wm_no (okI_at (rs := [2, 3, 4, 5, 6, 18, 20, 24, 8, 10, 11, 27, 28, 31, 32]) (by decide +kernel) hr))
  have kR : ∀ r a j, T a = r → r ∈ [2, 8, 10, 11, 19, 6, 21, 22, 23, 33, 34] → R9 a j = R8 a j := fun r a j ta hr => hR9 a j (lt a r ta (fun z => by subst z; revert hr; decide)) (by rw [ta]; exact wm_no (okI_at (rs := [2, 8, 10, 11, 19, 6, 21, 22, 23, 33, 34]) (by decide +kernel) hr))
  refine h.of hW tx (hI9 x 5 hx (by rw [tx]; decide +kernel)) (fun al j hal => kI 2 al j (hW.rs tx rfl rfl hal) (by decide)) (fun al hal v => v.kp hW (hW.rs tx rfl rfl hal) (kI 2 al 7 (hW.rs tx rfl rfl hal) (by decide)) (fun a j ta => by
    rcases rdc_in ta with ta | ta | ta | ta | ta | ta | ta <;> exact kI _ a j ta (by decide))) (fun a j ta => ?_) (hR9 x 2 hx (by rw [tx]; decide +kernel)) (hR9 x 3 hx (by rw [tx]; decide +kernel)) (hR9 x 6 hx (by rw [tx]; decide +kernel)) (hR9 x 7 hx (by rw [tx]; decide +kernel)) (fun a j ta => ?_)
  · unfold R7 at ta
    rcases ta with ta | ta | ta | ta | ta | ta | ta <;> exact kI _ a j ta (by decide)
  · rcases ta with ta | ta | ta | ta | ta | ta | ta | ta | ta | ta | ta <;> exact kR _ a j ta (by decide)
theorem lw_alpN (h : LawC I R x m) (hW : Wf T cn K N I R 0) (tx : T x = 1) (tm : T m = 15) (g8 : St T cn K N 0 wik_X10_alp wrk_X10_alp I R I8 R8) (hF : ∀ dr, R x 3 = some dr → FrK R dr (fun _ => True) T I I8) (hO : ∀ dr, R x 3 = some dr → FrO 2 dr T I I8) (kr : R8 x 2 = R x 2 ∧ R8 x 3 = R x 3) (kp : (∀ a j, R7 (T a) → I8 a j = I a j) ∧ I8 x 5 = I x 5) (hI9 : ∀ a j, a < cn → wm wi_alpT (T a) j = false → I9 a j = I8 a j) (hR9 : ∀ a j, a < cn → wm wr_alpT (T a) j = false → R9 a j = R8 a j) (h14 : ∀ a j, a < cn → T a = 14 → I9 a j = I8 a j) (hN : AlN T cn I8 I9 R8 R9 m) : LawC I9 R9 x m := by
  obtain ⟨ha, c, E, s, n, mk, g, q, hOr, hC, hM, hR⟩ := h
  have lt : ∀ a r, T a = r → ¬ r = 0 → a < cn := fun a r ta hr => (g8.1.1 a (by rw [ta]; exact hr)).1
  have hm : m < cn := lt m 15 tm (by decide)
  have hC8 : CVw I8 R8 x ha c E s n mk g q := hC.alpN hW tx hO hF kr kp (g8.rcell tx (by decide +kernel)) (g8.rcell tx (by decide +kernel)) (fun a j ta => by
    rcases ta with ta | ta | ta | ta | ta | ta | ta | ta | ta | ta | ta <;> exact g8.rcell ta (wm_no (by decide +kernel)))
  have hM8 := hM.kp hW tm g8 (by decide +kernel) (by decide +kernel) (by decide +kernel) (by decide +kernel) (by decide +kernel) (by decide +kernel) (by decide +kernel) (by decide +kernel) (by decide +kernel)
  obtain ⟨n3, n19, n20, nr⟩ := hN
  refine ⟨ha, c, E, s, n, mk, g, q, hOr, hC8.alp9 g8.1 tx hI9 hR9, ?_, hR⟩
  obtain ⟨w, p, k, p1, p2, p3, hav, hs, hn, hmk, hp, hk⟩ := hM8
  have tw : T w = 77 := g8.1.rs tm rfl rfl p1
  have tp : T p = 78 := g8.1.rs tm rfl rfl p2
  have tk : T k = 79 := g8.1.rs tm rfl rfl p3
  refine ⟨w, p, k, (hR9 m 16 hm (by rw [tm]; decide +kernel)).trans p1, (hR9 m 17 hm (by rw [tm]; decide +kernel)).trans p2, (hR9 m 18 hm (by rw [tm]; decide +kernel)).trans p3, hav.kp n3 (fun b hb => ?_), hs.eq (fun c _ => nr w c (lt w 77 tw (by decide)) (Or.inl tw)), by rw [n19]; exact hn, by rw [n20]; exact hmk, fun i hi => (hp i hi).eq (fun c _ => nr p _ (lt p 78 tp (by decide)) (Or.inr (Or.inl tp))), fun i hi => (hk i hi).eq (fun c _ => nr k _ (lt k 79 tk (by decide)) (Or.inr (Or.inr (Or.inl tk))))⟩
  have tb : T b = 14 := g8.1.rsN tm rfl hb
  have hb' : b < cn := lt b 14 tb (by decide)
  exact ⟨fun j => h14 b j hb' tb, fun v => (v.kp g8.1 tb (h14 b 8 hb' tb) (fun a j ta => nr a j (lt a _ rfl (fun z => by rw [z] at ta; cases ta)) (Or.inr (Or.inr (Or.inr ta))))).cr (fun j => hR9 b j hb' (by rw [tb]; exact wm_no (by decide +kernel)))⟩
theorem lw_alpY {l : Nat → Int} {E' : Nat → Nat → Int} (h : LawC I R x m) (hOr1 : OrC 1 l E') (hW : Wf T cn K N I R 0) (tx : T x = 1) (tm : T m = 15) (g8 : St T cn K N 0 wik_X10_alp wrk_X10_alp I R I8 R8) (r2 : R8 x 2 = R x 3 ∧ R8 x 3 = R x 2) (f3 : ∀ dr, R x 3 = some dr → AlT R dr → AlC I8 R dr l E') (f1 : (I8 x 5).toInt = 1) (f4 : ∀ b, R8 x 6 = some b → (I8 b 0).toInt = 0) (f5 : ∀ b, R8 x 6 = some b → (I8 b 1).toInt = 0) (f6 : ∀ b, R8 x 6 = some b → (I8 b 2).toInt = 0) (f7 : ∀ b, R8 x 7 = some b → (I8 b 0).toInt = 0) (f8 : ∀ b, R8 x 7 = some b → (I8 b 2).toInt = 0) (f2 : ∀ b, R8 x 2 = some b → ∀ k, k < 7 → (I8 b (csl k)).toInt = l k) (hI9 : ∀ a j, a < cn → wm wi_alpT (T a) j = false → I9 a j = I8 a j) (hR9 : ∀ a j, a < cn → wm wr_alpT (T a) j = false → R9 a j = R8 a j) (hY : AlY I9 R8 R9 m l E') : LawC I9 R9 x m := by
  obtain ⟨ha, c, E, s, n, mk, g, q, hOr, hC, hM, hR⟩ := h
  have lt : ∀ a r, T a = r → ¬ r = 0 → a < cn := fun a r ta hr => (g8.1.1 a (by rw [ta]; exact hr)).1
  have hm : m < cn := lt m 15 tm (by decide)
  have hC8 : CVw I8 R8 x 1 l E' (fun _ => 0) 0 0 g q := hC.alpY hW tx r2 (g8.rcell tx (by decide +kernel)) (g8.rcell tx (by decide +kernel)) (fun a j ta => by
    rcases ta with ta | ta | ta | ta | ta | ta | ta | ta | ta | ta | ta <;> exact g8.rcell ta (wm_no (by decide +kernel))) f1 (fun b hb => ⟨f2 b hb 0 (by omega), f2 b hb, f2 b hb 2 (by omega), f2 b hb 5 (by omega)⟩) f3 f4 f5 f6 f7 f8
  have hM8 := hM.kp hW tm g8 (by decide +kernel) (by decide +kernel) (by decide +kernel) (by decide +kernel) (by decide +kernel) (by decide +kernel) (by decide +kernel) (by decide +kernel) (by decide +kernel)
  obtain ⟨w, p, k, p1, p2, p3, -⟩ := hM8
  obtain ⟨⟨b, y1, y2, y3, y4, y5, y6⟩, yw, y19, y20⟩ := hY
  exact ⟨1, l, E', fun _ => 0, 0, 0, g, q, hOr1, hC8.alp9 g8.1 tx hI9 hR9, ⟨w, p, k, (hR9 m 16 hm (by rw [tm]; decide +kernel)).trans p1, (hR9 m 17 hm (by rw [tm]; decide +kernel)).trans p2, (hR9 m 18 hm (by rw [tm]; decide +kernel)).trans p3, Or.inr ⟨rfl, b, y1, y2, y3, y4, y5, y6⟩, ⟨fun c hc => by rw [yw w p1 c (by omega)]; rfl, fun k hk z => by exfalso; revert z; show ¬ (k : Int) < 0; omega⟩, y19, y20, fun i hi => by omega, fun i hi => by omega⟩, ⟨by decide, by decide⟩, fun i hi => by omega, fun i hi => by omega, fun z => by omega⟩
theorem lw_nights (tx : T x = 1) (tm : T m = 15) (h8 : LawC I8 R8 x m) (hW8 : Wf T cn K N I8 R8 0) (g9 : St T cn K N 0 wik_X12_nights wrk_X12_nights I8 R8 I9 R8) (hr : ∀ w, R8 m 16 = some w → ∀ c : Nat, c < 15 → I9 w c = I8 w c) : LawC I9 R8 x m := by
  obtain ⟨ha, c, E, s, n, mk, g, q, hOr, hC, hM, hR⟩ := h8
  refine ⟨ha, c, E, s, n, mk, g, q, hOr, hC.kp hW8 tx g9 (by decide +kernel) (by decide +kernel) (by decide +kernel) (by decide +kernel) (by decide +kernel) (by decide +kernel) (by decide +kernel), ?_, hR⟩
  obtain ⟨w, p, k, p1, p2, p3, hav, hs, hn, hmk, hp, hk⟩ := hM
  have tp : T p = 78 := hW8.rs tm rfl rfl p2
  have tk : T k = 79 := hW8.rs tm rfl rfl p3
  exact ⟨w, p, k, p1, p2, p3, hav.kq hW8 tm (fun a j ta => by
    rcases ta with ta | ta
    · exact g9.cell ta (wm_no (by decide +kernel))
    · exact g9.2.1 a j (wm_p (p := fun r => !(rdm r)) (by decide +kernel) (by rw [ta]; rfl))), hs.eq (fun c hc => hr w p1 c hc), by rw [g9.cell tm (by decide +kernel)]; exact hn, by rw [g9.cell tm (by decide +kernel)]; exact hmk, fun i hi => (hp i hi).eq (fun c _ => g9.cell tp (wm_no (by decide +kernel))), fun i hi => (hk i hi).eq (fun c _ => g9.cell tk (wm_no (by decide +kernel)))⟩
end CzVa
