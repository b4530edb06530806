/-! ===== what is seen: event, size ===== -/
/-- an EVENT as both tell it -/
def XE (c : Nat → Int) (E : Nat → Nat → Int) (s : Nat → Int) (e f : Nat) : Int := if (e : Int) < c 2 then E e f else if f = 0 then 0 else if f = 1 then -2 else if f = 2 then s (3 + (e - (c 2).toNat)) else s (9 + (e - (c 2).toNat))
section CzSe
variable {T : Nat → Nat} {cn : Nat} {K N : Nat → Nat} {d d' : Int} {I I' I8 I9 : cz_I} {R R' : cz_R} {x m : Nat} {ha n mk : Int} {c : Nat → Int} {E : Nat → Nat → Int} {s : Nat → Int} {g q : Nat → Nat → Int} {v v8 v9 u1 u2 : Int32} {e f w : Int}
theorem XE.told (h0 : 0 ≤ e) (h : e < c 2) : XE c E s e.toNat f.toNat = E e.toNat f.toNat := by unfold XE; rw [if_pos (by omega)]
theorem XE.came (h : ¬ e < c 2) (h0 : 0 ≤ e) (f0 : 0 ≤ f) (hc : 0 ≤ c 2) : XE c E s e.toNat f.toNat = if f = 0 then 0 else if f = 1 then -2 else if f = 2 then s (3 + (e - c 2).toNat) else s (9 + (e - c 2).toNat) := by
  unfold XE; rw [if_neg (by omega)]
  by_cases q0 : f = 0
  · rw [if_pos (by omega), if_pos q0]
  by_cases q1 : f = 1
  · rw [if_neg (by omega), if_pos (by omega), if_neg q0, if_pos q1]
  by_cases q2 : f = 2
  · rw [if_neg (by omega), if_neg (by omega), if_pos (by omega), if_neg q0, if_neg q1, if_pos q2]; congr 1
    omega
  · rw [if_neg (by omega), if_neg (by omega), if_neg (by omega), if_neg q0, if_neg q1, if_neg q2]; congr 1
    omega
theorem EvV.vx (h : CVw I R x ha c E s n mk g q) (hW : Wf T cn K N I R d) (tx : T x = 1) (hv : EvV I R x e f w) (e0 : 0 ≤ e) (e1 : e < c 2 + s 1) (f0 : 0 ≤ f) (f3 : f ≤ 3) : w = XE c E s e.toNat f.toNat := by
  obtain ⟨al, dr, nw, pa, A, B, hp, s1, ⟨v0, v1, v2, v5, v6⟩, ts, ⟨t0, t1, t2, t3⟩, -⟩ := h
  obtain ⟨tal, tdr, tnw, tpa, tA, tB⟩ := hp.ro hW tx
  obtain ⟨p1, p2, p3, p4, p5, p6, p7⟩ := hp
  obtain ⟨h1, h2⟩ := hv al nw p1 p4
  have b3 := iv2_3 hW tal (rfl : I al 3 = I al 3)
  have b2 := iv8_2 hW tnw (rfl : I nw 2 = I nw 2)
  rw [v2] at h1 h2
  by_cases z : e < c 2
  · obtain ⟨V, hV, tV⟩ := rf2_4 hW tal
    obtain ⟨ob, ho, -⟩ := rf19 hW tV (j := e.toNat) (by omega)
    rw [XE.told e0 z, h1 z V ob hV ho]
    refine v6.2 e.toNat f.toNat ob (by omega) ?_ (ObE hV (by omega) ho)
    unfold Db; rw [if_pos (by omega), if_pos (by omega)]; omega
  · obtain ⟨k0, k1, k2, k3⟩ := h2 z
    obtain ⟨r3, hr3, -⟩ := rf8_3 hW tnw
    obtain ⟨r4, hr4, -⟩ := rf8_4 hW tnw
    have t := t3 r3 r4 hr3 hr4 (e - c 2).toNat (by omega) (by omega)
    rw [XE.came z e0 f0 (by omega)]
    by_cases q0 : f = 0
    · rw [if_pos q0]; exact k0 q0
    by_cases q1 : f = 1
    · rw [if_neg q0, if_pos q1]; exact k1 q1
    by_cases q2 : f = 2
    · rw [if_neg q0, if_neg q1, if_pos q2, k2 q2 r3 hr3]; exact t.1
    · rw [if_neg q0, if_neg q1, if_neg q2, k3 (by omega) r4 hr4]; exact t.2
theorem MVw.hasw (h : MVw I R m ha c E s n mk g q) : ∃ w, R m 16 = some w := by
  obtain ⟨w, -, -, p1, -⟩ := h
  exact ⟨w, p1⟩
theorem EvW.vx (h : MVw I R m ha c E s n mk g q) (hW : Wf T cn K N I R d) (tm : T m = 15) (hb : ∃ b, R m 3 = some b) (hv : EvW I R m e f w) (e0 : 0 ≤ e) (e1 : e < c 2 + s 1) (f0 : 0 ≤ f) (f3 : f ≤ 3) : w = XE c E s e.toNat f.toNat := by
  obtain ⟨-, b, hb2, -, -, y2, -, y5⟩ := h.ha1 hb
  obtain ⟨w_, p, k, p1, p2, p3, hav, hs, -⟩ := h
  have tb : T b = 14 := hW.rsN tm rfl hb2
  obtain ⟨h1, h2⟩ := hv b w_ hb2 p1
  have b2 := iv14_2 hW tb (rfl : I b 2 = I b 2)
  have tw : T w_ = 77 := hW.rs tm rfl rfl p1
  have b1 := iv77_1 hW tw (by decide) (rfl : I w_ 1 = I w_ 1)
  have s1 := hs.1 1 (by omega)
  rw [y2] at h1 h2
  by_cases z : e < c 2
  · obtain ⟨a, ha⟩ : ∃ a, R b (11 + f.toNat) = some a := by
      have hf : f = 0 ∨ f = 1 ∨ f = 2 ∨ f = 3 := by omega
      rcases hf with rfl | rfl | rfl | rfl
      · obtain ⟨a, h, -⟩ := rf14_11 hW tb; exact ⟨a, h⟩
      · obtain ⟨a, h, -⟩ := rf14_12 hW tb; exact ⟨a, h⟩
      · obtain ⟨a, h, -⟩ := rf14_13 hW tb; exact ⟨a, h⟩
      · obtain ⟨a, h, -⟩ := rf14_14 hW tb; exact ⟨a, h⟩
    rw [XE.told e0 z, h1 z a ha]
    have m1 : mrs e.toNat f.toNat = 11 + f.toNat := by unfold mrs; rw [if_pos (by omega)]
    have m2 : mri e.toNat f.toNat = e.toNat := by unfold mri; rw [if_pos (by omega)]
    have y := y5.2 e.toNat f.toNat a (by omega) (by unfold Dbm Db; rw [if_neg (by omega), if_neg (by omega), if_pos (by omega), if_pos (by omega)]; omega) (by rw [m1]; exact ha)
    rw [m2] at y; exact y
  · obtain ⟨k0, k1, k2, k3⟩ := h2 z
    have t := hs.2 (e - c 2).toNat (by omega) (by omega)
    rw [XE.came z e0 f0 (by omega)]
    by_cases q0 : f = 0
    · rw [if_pos q0]; exact k0 q0
    by_cases q1 : f = 1
    · rw [if_neg q0, if_pos q1]; exact k1 q1
    by_cases q2 : f = 2
    · rw [if_neg q0, if_neg q1, if_pos q2, k2 q2]; exact t.1
    · rw [if_neg q0, if_neg q1, if_neg q2, k3 (by omega)]; exact t.2
/-- what both views say of a call that leaves them -/
theorem lw_see (hOr : OrC ha c E) (hC : CVw I R x ha c E s n mk g q) (hM : MVw I R m ha c E s n mk g q) (hR : RgC ha s n mk g q) (hW : Wf T cn K N I R 0) (tx : T x = 1) (tm : T m = 15) {wi wr wi' wr' : List Nat} (g8 : St T cn K N 0 wi wr I R I8 R) (g9 : St T cn K N 0 wi' wr' I8 R I9 R) (k8 : CVw I8 R x ha c E s n mk g q) (k9 : MVw I9 R m ha c E s n mk g q)
    (c1 : okI [2, 3, 4, 5, 6, 18, 20, 24, 8, 10, 11, 27, 28, 31, 32] wi' = true) (c2 : okI [2, 8, 10, 11, 19, 6, 21, 22, 23, 33, 34] wr' = true) (c3 : wm wi' 1 5 = false) (c4 : wm wr' 1 2 = false) (c5 : wm wr' 1 3 = false) (c6 : wm wr' 1 6 = false) (c7 : wm wr' 1 7 = false) : LawC I9 R x m :=
  ⟨ha, c, E, s, n, mk, g, q, hOr, k8.kp g8.1 tx g9 c1 c2 c3 c4 c5 c6 c7, k9, hR⟩
theorem lw_event (h : LawC I R x m) (hW : Wf T cn K N I R 0) (tx : T x = 1) (tm : T m = 15) (g8 : St T cn K N 0 wik_X10_event wrk_X10_event I R I8 R) (d8 : Cs_X10_event T I R x u1 u2 v8 I8 R) (g9 : St T cn K N 0 wik_X12_event wrk_X12_event I8 R I9 R) (d9 : Cs_X12_event T I8 R m u1 u2 v9 I9 R) : v8.toInt = v9.toInt ∧ LawC I9 R x m := by
  obtain ⟨ha, c, E, s, n, mk, g, q, hOr, hC, hM, hR⟩ := h
  have hM8 := hM.kp hW tm g8 (by decide +kernel) (by decide +kernel) (by decide +kernel) (by decide +kernel) (by decide +kernel) (by decide +kernel) (by decide +kernel) (by decide +kernel) (by decide +kernel)
  have hCx := hC
  obtain ⟨al, dr, nw, pa, A, B, hp, s1, ⟨v0, v1, v2, v5, v6⟩, ts, ⟨t0, t1, t2, t3⟩, -⟩ := hCx
  obtain ⟨p1, p2, p3, p4, p5, p6, p7⟩ := hp
  have e2 : ∀ a j, T a = 2 ∨ rdc (T a) = true → I8 a j = I a j := fun a j ta => by
    rcases ta with ta | ta
    · exact g8.cell ta (wm_no (by decide +kernel))
    · exact g8.2.1 a j (wm_p (p := fun r => !(rdc r)) (by decide +kernel) (by rw [ta]; rfl))
  have e4 : ∀ a j, R14 (T a) → I9 a j = I8 a j := fun a j ta => by
    rcases ta with ta | ta
    · exact g9.cell ta (wm_no (by decide +kernel))
    · exact g9.2.1 a j (wm_p (p := fun r => !(rdm r)) (by decide +kernel) (by rw [ta]; rfl))
  have hL : ∀ (k8 : CVw I8 R x ha c E s n mk g q) (k9 : MVw I9 R m ha c E s n mk g q), LawC I9 R x m := fun k8 k9 => lw_see hOr hC hM hR hW tx tm g8 g9 k8 k9 (by decide +kernel) (by decide +kernel) (by decide +kernel) (by decide +kernel) (by decide +kernel) (by decide +kernel) (by decide +kernel)
  have hw8 : ∀ w, R m 16 = some w → (I8 w 1).toInt = s 1 := fun w hw => by
    obtain ⟨w', -, -, q1, -, -, -, hs, -⟩ := hM8
    obtain rfl := Option.some.inj (q1.symm.trans hw)
    exact hs.1 1 (by omega)
  rcases d8 with ⟨a1, a2, a3, -⟩ | ⟨a1, a2, a3, a4, a5, a6, -⟩
  · have z1 := a1 al p1 nw p4
    rcases d9 with ⟨b1, b2, b3, -⟩ | ⟨b1, b2, b3, b4, -⟩ | ⟨b1, b2, b3, b4, b5, b6, b7, -⟩
    · exact ⟨by omega, hL (hC.sm hW tx a3 (g8.cell tx (by decide +kernel)) e2) (hM8.sm g8.1 tm b3 e4)⟩
    · exact ⟨by omega, hL (hC.sm hW tx a3 (g8.cell tx (by decide +kernel)) e2) (hM8.sm g8.1 tm b4 e4)⟩
    · exfalso
      obtain ⟨-, b, hb2, -, -, y2, -, -⟩ := hM8.ha1 b5
      obtain ⟨w1, hw1⟩ := MVw.hasw hM8
      have q1 := b2 b hb2 w1 hw1
      have q2 := hw8 w1 hw1
      omega
  · have z1 := a2 al p1 nw p4
    rcases d9 with ⟨b1, b2, b3, -⟩ | ⟨b1, b2, b3, b4, -⟩ | ⟨b1, b2, b3, b4, b5, b6, b7, -⟩
    · exfalso
      have hz := hM8.ha0 b2
      obtain ⟨r1, r2, r3, r4⟩ := hR
      have := r4 hz
      obtain ⟨w_, p_, k_, -, -, -, hav, -⟩ := hM8
      rcases hav with ⟨-, -, y⟩ | ⟨y, -⟩
      · have := y 2; omega
      · omega
    · exfalso
      obtain ⟨-, b, hb2, -, -, y2, -, -⟩ := hM8.ha1 b3
      obtain ⟨w1, hw1⟩ := MVw.hasw hM8
      have q1 := b1 b hb2 w1 hw1
      have q2 := hw8 w1 hw1
      omega
    · refine ⟨?_, hL (hC.sm hW tx a5 (g8.cell tx (by decide +kernel)) e2) (hM8.sm g8.1 tm b6 e4)⟩
      rw [EvV.vx hC hW tx a6 a1 (by omega) a3 a4, EvW.vx hM8 g8.1 tm b5 b7 a1 (by omega) a3 a4]
end CzSe
