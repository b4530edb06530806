/-! ===== what is seen: event, size ===== -/
/-- an EVENT as both tell it -/
def XE (c : Nat → Int) (E : Nat → Nat → Int) (s : Nat → Int) (e f : Nat) : Int := if (e : Int) < c 2 then E e f else if f = 0 then 0 else if f = 1 then -2 else if f = 2 then s (3 + (e - (c 2).toNat)) else s (9 + (e - (c 2).toNat))
section CzSe
variable {T : Nat → Nat} {cn : Nat} {K N : Nat → Nat} {d d' : Int} {I I' I8 I9 : cz_I} {R R' : cz_R} {x m : Nat} {ha n mk : Int} {c : Nat → Int} {E : Nat → Nat → Int} {s : Nat → Int} {g q : Nat → Nat → Int} {v v8 v9 u1 u2 : Int32} {e f w : Int}
theorem XE.told (h0 : 0 ≤ e) (h : e < c 2) : XE c E s e.toNat f.toNat = E e.toNat f.toNat := by unfold XE; rw [if_pos (by omega)]
theorem XE.came (h : ¬ e < c 2) (h0 : 0 ≤ e) (f0 : 0 ≤ f) (hc : 0 ≤ c 2) : XE c E s e.toNat f.toNat = if f = 0 then 0 else if f = 1 then -2 else if f = 2 then s (3 + (e - c 2).toNat) else s (9 + (e - c 2).toNat) := by
  unfold XE; rw [if_neg (by omega)]
  by_cases q0 : f = 0
  · rw [if_pos (by omega), if_pos q0]
  by_cases q1 : f = 1
  · rw [if_neg (by omega), if_pos (by omega), if_neg q0, if_pos q1]
  by_cases q2 : f = 2
  · rw [if_neg (by omega), if_neg (by omega), if_pos (by omega), if_neg q0, if_neg q1, if_pos q2]; congr 1
    omega
  · rw [if_neg (by omega), if_neg (by omega), if_neg (by omega), if_neg q0, if_neg q1, if_neg q2]; congr 1
    omega
theorem EvV.vx (h : CVw I R x ha c E s n mk g q) (hW : Wf T cn K N I R d) (tx : T x = 1) (hv : EvV I R x e f w) (e0 : 0 ≤ e) (e1 : e < c 2 + s 1) (f0 : 0 ≤ f) (f3 : f ≤ 3) : w = XE c E s e.toNat f.toNat := by
  obtain ⟨al, dr, nw, pa, A, B, hp, s1, ⟨v0, v1, v2, v5, v6⟩, ts, ⟨t0, t1, t2, t3⟩, -⟩ := h
  obtain ⟨tal, tdr, tnw, tpa, tA, tB⟩ := hp.ro hW tx
  obtain ⟨p1, p2, p3, p4, p5, p6, p7⟩ := hp
  obtain ⟨h1, h2⟩ := hv al nw p1 p4
  have b3 := iv2_3 hW tal (rfl : I al 3 = I al 3)
  have b2 := iv8_2 hW tnw (rfl : I nw 2 = I nw 2)
  rw [v2] at h1 h2
  by_cases z : e < c 2
  · obtain ⟨V, hV, tV⟩ := rf2_4 hW tal
    obtain ⟨ob, ho, -⟩ := rf19 hW tV (j := e.toNat) (by omega)
    rw [XE.told e0 z, h1 z V ob hV ho]
    refine v6.2 e.toNat f.toNat ob (by omega) ?_ (ObE hV (by omega) ho)
    unfold Db; rw [if_pos (by omega), if_pos (by omega)]; omega
  · obtain ⟨k0, k1, k2, k3⟩ := h2 z
    obtain ⟨r3, hr3, -⟩ := rf8_3 hW tnw
    obtain ⟨r4, hr4, -⟩ := rf8_4 hW tnw
    have t := t3 r3 r4 hr3 hr4 (e - c 2).toNat (by omega) (by omega)
    rw [XE.came z e0 f0 (by omega)]
    by_cases q0 : f = 0
    · rw [if_pos q0]; exact k0 q0
    by_cases q1 : f = 1
    · rw [if_neg q0, if_pos q1]; exact k1 q1
    by_cases q2 : f = 2
    · rw [if_neg q0, if_neg q1, if_pos q2, k2 q2 r3 hr3]; exact t.1
    · rw [if_neg q0, if_neg q1, if_neg q2, k3 (by omega) r4 hr4]; exact t.2
theorem MVw.hasw (h : MVw I R m ha c E s n mk g q) : ∃ w, R m 16 = some w := by
  obtain ⟨w, -, -, p1, -⟩ := h
  exact ⟨w, p1⟩
theorem EvW.vx (h : MVw I R m ha c E s n mk g q) (hW : Wf T cn K N I R d) (tm : T m = 15) (hb : ∃ b, R m 3 = some b) (hv : EvW I R m e f w) (e0 : 0 ≤ e) (e1 : e < c 2 + s 1) (f0 : 0 ≤ f) (f3 : f ≤ 3) : w = XE c E s e.toNat f.toNat := by
  obtain ⟨-, b, hb2, -, -, y2, -, y5⟩ := h.ha1 hb
  obtain ⟨w_, p, k, p1, p2, p3, hav, hs, -⟩ := h
  have tb : T b = 14 := hW.rsN tm rfl hb2
  obtain ⟨h1, h2⟩ := hv b w_ hb2 p1
  have b2 := iv14_2 hW tb (rfl : I b 2 = I b 2)
  have tw : T w_ = 77 := hW.rs tm rfl rfl p1
  have b1 := iv77_1 hW tw (by decide) (rfl : I w_ 1 = I w_ 1)
  have s1 := hs.1 1 (by omega)
  rw [y2] at h1 h2
  by_cases z : e < c 2
  · obtain ⟨a, ha⟩ : ∃ a, R b (11 + f.toNat) = some a := by
      have hf : f = 0 ∨ f = 1 ∨ f = 2 ∨ f = 3 := by omega
      rcases hf with rfl | rfl | rfl | rfl
      · obtain ⟨a, h, -⟩ := rf14_11 hW tb; exact ⟨a, h⟩
      · obtain ⟨a, h, -⟩ := rf14_12 hW tb; exact ⟨a, h⟩
      · obtain ⟨a, h, -⟩ := rf14_13 hW tb; exact ⟨a, h⟩
      · obtain ⟨a, h, -⟩ := rf14_14 hW tb; exact ⟨a, h⟩
    rw [XE.told e0 z, h1 z a ha]
    have m1 : mrs e.toNat f.toNat = 11 + f.toNat := by unfold mrs; rw [if_pos (by omega)]
    have m2 : mri e.toNat f.toNat = e.toNat := by unfold mri; rw [if_pos (by omega)]
    have y := y5.2 e.toNat f.toNat a (by omega) (by unfold Dbm Db; rw [if_neg (by omega), if_neg (by omega), if_pos (by omega), if_pos (by omega)]; omega) (by rw [m1]; exact ha)
    rw [m2] at y; exact y
  · obtain ⟨k0, k1, k2, k3⟩ := h2 z
    have t := hs.2 (e - c 2).toNat (by omega) (by omega)
    rw [XE.came z e0 f0 (by omega)]
    by_cases q0 : f = 0
    · rw [if_pos q0]; exact k0 q0
    by_cases q1 : f = 1
    · rw [if_neg q0, if_pos q1]; exact k1 q1
    by_cases q2 : f = 2
    · rw [if_neg q0, if_neg q1, if_pos q2, k2 q2]; exact t.1
    · rw [if_neg q0, if_neg q1, if_neg q2, k3 (by omega)]; exact t.2
/-- what both views say of a call that leaves them -/
theorem lw_see (hOr : OrC ha c E) (hC : CVw I R x ha c E s n mk g q) (hM : MVw I R m ha c E s n mk g q) (hR : RgC ha s n mk g q) (hW : Wf T cn K N I R 0) (tx : T x = 1) (tm : T m = 15) {wi wr wi' wr' : List Nat} (g8 : St T cn K N 0 wi wr I R I8 R) (g9 : St T cn K N 0 wi' wr' I8 R I9 R) (k8 : CVw I8 R x ha c E s n mk g q) (k9 : MVw I9 R m ha c E s n mk g q)
    (c1 : okI [2, 3, 4, 5, 6, 18, 20, 24, 8, 10, 11, 27, 28, 31, 32] wi' = true) (c2 : okI [2, 8, 10, 11, 19, 6, 21, 22, 23, 33, 34] wr' = true) (c3 : wm wi' 1 5 = false) (c4 : wm wr' 1 2 = false) (c5 : wm wr' 1 3 = false) (c6 : wm wr' 1 6 = false) (c7 : wm wr' 1 7 = false) : LawC I9 R x m :=
  ⟨ha, c, E, s, n, mk, g, q, hOr, k8.kp g8.1 tx g9 c1 c2 c3 c4 c5 c6 c7, k9, hR⟩
theorem lw_size (h : LawC I R x m) (ht : (I x 1).toInt = (I m 6).toInt) (hW : Wf T cn K N I R 0) (tx : T x = 1) (tm : T m = 15) (d8 : Cs_X10_size T I R x u1 v8 I R) (g9 : St T cn K N 0 wik_X12_size wrk_X12_size I R I9 R) (d9 : Cs_X12_size T I R m u1 v9 I9 R) : v8.toInt = v9.toInt ∧ LawC I9 R x m := by
  have hK := h.kp hW tx tm g9 (by decide +kernel) (by decide +kernel) (by decide +kernel) (by decide +kernel) (by decide +kernel) (by decide +kernel) (by decide +kernel) (by decide +kernel) (by decide +kernel) (by decide +kernel) (by decide +kernel) (by decide +kernel) (by decide +kernel) (by decide +kernel) (by decide +kernel) (by decide +kernel)
  refine ⟨?_, hK⟩
  obtain ⟨ha, c, E, s, n, mk, g, q, hOr, hC, hM, hR⟩ := h
  obtain ⟨al, dr, nw, pa, A, B, hp, s1, ⟨v0, v1, v2, v5, v6⟩, ts, ⟨t0, t1, t2, t3⟩, n1, n2, -⟩ := hC
  have tal : T al = 2 := (hp.ro hW tx).1
  obtain ⟨p1, p2, p3, p4, p5, p6, p7⟩ := hp
  obtain ⟨o8, h8, -⟩ := rf2_8 hW tal
  have y8 := v6.2 29 0 o8 (by omega) (by unfold Db; rw [if_neg (by omega), if_neg (by omega), if_neg (by omega), if_neg (by omega), if_pos rfl]; omega) (ObA h8)
  obtain ⟨a0, k0, k1, k2, k3, k4, k5, k6, k7, k8, k9, k10, k11, k12, -⟩ := d8
  have k0 := fun z => k0 al p1 z
  have k1 := fun z => k1 al p1 z
  have k2 := fun z => k2 al p1 z
  have k3 := fun z => k3 nw p4 z
  have k4 := fun z => k4 al p1 z
  have k5 := fun z => k5 al p1 z
  have k6 := fun z => k6 al p1 z
  have k7 := fun z => k7 al p1 z
  have k8 := fun z => k8 al p1 o8 h8 z
  have k9 := fun z => k9 nw p4 z
  have k10 := fun z => k10 pa p5 z
  have k11 := fun z => k11 pa p5 z
  have c1 : (I al 1).toInt = c 1 := v1 1 (by omega)
  have c3 : (I al 5).toInt = c 3 := v1 3 (by omega)
  have c4 : (I al 9).toInt = c 4 := v1 4 (by omega)
  have c6 : (I al 13).toInt = c 6 := v1 6 (by omega)
  obtain ⟨w, p, k, q1, q2, q3, hav, hs, hn, hmk, -⟩ := hM
  have w1 := hs.1 1 (by omega)
  have w2 := hs.1 2 (by omega)
  rcases d9 with ⟨f0, z0, z1, hnl, -⟩ | ⟨f0, j0, j1, j2, j3, j4, j5, j6, j7, j8, j9, j10, j11, j12, hnn, -⟩
  · rcases hav with ⟨h1, h2, h3⟩ | ⟨h1, b, h2, -⟩
    · obtain ⟨r1, r2, r3, r4⟩ := hR
      have rr := r4 h1
      have e29 : E 29 0 = 0 := by
        rcases hOr with ⟨-, -, e⟩ | ⟨e, -⟩
        · rw [e]; rfl
        · omega
      have y0 := h3 0
      have y1 := h3 1
      have y2 := h3 2
      have y3 := h3 3
      have y4 := h3 4
      have y5 := h3 5
      have y6 := h3 6
      have hcase : u1.toInt < 0 ∨ u1.toInt > 12 ∨ u1.toInt = 0 ∨ u1.toInt = 1 ∨ u1.toInt = 2 ∨ u1.toInt = 3 ∨ u1.toInt = 4 ∨ u1.toInt = 5 ∨ u1.toInt = 6 ∨ u1.toInt = 7 ∨ u1.toInt = 8 ∨ u1.toInt = 9 ∨ u1.toInt = 10 ∨ u1.toInt = 11 ∨ u1.toInt = 12 := by omega
      rcases hcase with z | z | z | z | z | z | z | z | z | z | z | z | z | z | z
      · rw [a0 (Or.inl z), f0 (Or.inl z)]
      · rw [a0 (Or.inr z), f0 (Or.inr z)]
      · rw [k0 z, z0 (by omega)]; omega
      · rw [k1 z, z0 (by omega)]; omega
      · rw [k2 z, z0 (by omega)]; omega
      · rw [k3 z, z0 (by omega)]; omega
      · rw [k4 z, z0 (by omega)]; omega
      · rw [k5 z, z0 (by omega)]; omega
      · rw [k6 z, z0 (by omega)]; omega
      · rw [k7 z, z0 (by omega)]; omega
      · rw [k8 z, z0 (by omega)]; omega
      · rw [k9 z, z0 (by omega)]; omega
      · rw [k10 z, z0 (by omega)]; omega
      · rw [k11 z, z0 (by omega)]; omega
      · rw [k12 z, z1 z]; omega
    · rw [hnl] at h2; cases h2
  · rcases hav with ⟨h1, h2, h3⟩ | ⟨h1, b, h2, x0, x1, x2, x5, x6⟩
    · obtain ⟨b, hb⟩ := hnn
      rw [h2] at hb; cases hb
    · have m0 := x1 0 (by omega)
      have m1 := x1 1 (by omega)
      have m2 := x1 2 (by omega)
      have m3 := x1 3 (by omega)
      have m4 := x1 4 (by omega)
      have m5 := x1 5 (by omega)
      have m6 := x1 6 (by omega)
      have m8 := x6.1
      have hcase : u1.toInt < 0 ∨ u1.toInt > 12 ∨ u1.toInt = 0 ∨ u1.toInt = 1 ∨ u1.toInt = 2 ∨ u1.toInt = 3 ∨ u1.toInt = 4 ∨ u1.toInt = 5 ∨ u1.toInt = 6 ∨ u1.toInt = 7 ∨ u1.toInt = 8 ∨ u1.toInt = 9 ∨ u1.toInt = 10 ∨ u1.toInt = 11 ∨ u1.toInt = 12 := by omega
      rcases hcase with z | z | z | z | z | z | z | z | z | z | z | z | z | z | z
      · rw [a0 (Or.inl z), f0 (Or.inl z)]
      · rw [a0 (Or.inr z), f0 (Or.inr z)]
      · rw [k0 z, j0 b h2 z]; omega
      · rw [k1 z, j1 b h2 z]; omega
      · rw [k2 z, j2 b h2 z]; omega
      · rw [k3 z, j3 w q1 z]; omega
      · rw [k4 z, j4 b h2 z]; omega
      · rw [k5 z, j5 b h2 z]; omega
      · rw [k6 z, j6 b h2 z]; omega
      · rw [k7 z, j7 b h2 z]; omega
      · rw [k8 z, j8 b h2 z]; omega
      · rw [k9 z, j9 w q1 z]; omega
      · rw [k10 z, j10 z]; omega
      · rw [k11 z, j11 z]; omega
      · rw [k12 z, j12 z]; omega
end CzSe
