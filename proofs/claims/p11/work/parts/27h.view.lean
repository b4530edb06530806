/-! ===== level C: the acts, as the views see them ===== -/
section CzVc
variable {T : Nat → Nat} {cn : Nat} {K N : Nat → Nat} {d d' : Int} {I I' : cz_I} {R R' : cz_R} {x m : Nat} {ha n mk : Int} {c : Nat → Int} {E : Nat → Nat → Int} {s : Nat → Int} {g q : Nat → Nat → Int} {v x1 x2 : Int32}
/-- now, its rows untouched -/
theorem T15.nw {wi wr : List Nat} {nw : Nat} {s' : Nat → Int} (t : T15 I R nw s) (hS : St T cn K N d' wi wr I R I' R') (hW : Wf T cn K N I R d) (tn : T nw = 8) (w1 : wi.all (fun c => !(Nat.beq (c / 64) 27)) = true) (w2 : wi.all (fun c => !(Nat.beq (c / 64) 28)) = true) (r : wr.all (fun c => !(Nat.beq (c / 64) 8)) = true) (e0 : (I' nw 0).toInt = s' 0) (e1 : (I' nw 2).toInt = s' 1) (e2 : (I' nw 1).toInt = s' 2) (hle : s' 1 ≤ s 1) (e3 : ∀ c, 3 ≤ c → s' c = s c) : T15 I' R' nw s' := by
  refine ⟨e0, e1, e2, fun f t' hf ht k hk hs => ?_⟩
  rw [hS.rcell tn (wm_no r)] at hf ht
  have tf : T f = 27 := hW.rs tn rfl rfl hf
  have tt : T t' = 28 := hW.rs tn rfl rfl ht
  rw [hS.cell tf (wm_no w1), hS.cell tt (wm_no w2), e3 _ (by exact om_d1e78b61 hk), e3 _ (by exact om_1378fd39 hk)]
  exact t.2.2.2 f t' hf ht k hk (by exact om_a60464d4 hle hs)
/-- now with a cloud more -/
theorem T15.ad {wi wr : List Nat} {nw : Nat} {s' : Nat → Int} {va vb : Int32} (t : T15 I R nw s) (hS : St T cn K N d' wi wr I R I' R') (tn : T nw = 8) (r : wr.all (fun c => !(Nat.beq (c / 64) 8)) = true) (ad : AdC I R I' nw (I nw 2).toInt va vb) (h5 : 0 ≤ s 1 ∧ s 1 ≤ 5) (e0 : (I' nw 0).toInt = s' 0) (e1 : (I' nw 2).toInt = s 1 + 1) (e2 : (I' nw 1).toInt = s' 2) (f1 : s' 1 = s 1 + 1) (f3 : s' (3 + (s 1).toNat) = va.toInt) (f4 : s' (9 + (s 1).toNat) = vb.toInt) (f5 : ∀ k : Nat, k < 6 → (k : Int) < s 1 → s' (3 + k) = s (3 + k) ∧ s' (9 + k) = s (9 + k)) : T15 I' R' nw s' := by
  refine ⟨e0, e1.trans f1.symm, e2, fun f t' hf ht k hk hs => ?_⟩
  rw [hS.rcell tn (wm_no r)] at hf ht
  obtain ⟨h1, h2, h3⟩ := ad f t' hf ht
  rw [t.2.1] at h1 h2 h3
  by_cases z : (k : Int) < s 1
  · obtain ⟨y1, y2⟩ := h1 k z
    obtain ⟨z1, z2⟩ := f5 k hk z
    rw [y1, y2, z1, z2]; exact t.2.2.2 f t' hf ht k hk z
  · obtain rfl : k = (s 1).toNat := by exact om_54c6412d h5.2 h5.1 e1 f1 hs z
    rw [h2, h3, f3, f4]; exact ⟨rfl, rfl⟩
/-- a cloud more, in a state -/
def ac (s : Nat → Int) (z a b : Int) (c : Nat) : Int := if c = 1 then s 1 + 1 else if c = 2 then z else if c = 3 + (s 1).toNat then a else if c = 9 + (s 1).toNat then b else s c
theorem ac_00 {z a b : Int} : ac s z a b 0 = s 0 := by
  unfold ac; rw [if_neg (by exact om_7331eb88), if_neg (by exact om_b6c03d6e), if_neg (by exact om_4f53e234), if_neg (by exact om_813b33f0)]
theorem c_call (h : CVw I R x ha c E s n mk g q) (hW : Wf T cn K N I R d) (tx : T x = 1) (hS : St T cn K N d' wik_X10_call wrk_X10_call I R I' R') (hc : Cs_X10_call T I R x x1 x2 v I' R') :
    (v.toInt = 0 ∧ ¬ (0 ≤ x1.toInt ∧ x1.toInt < c 5 ∧ ¬ bt (s 0) x1.toInt = x2.toInt) ∧ CVw I' R' x ha c E s n mk g q) ∨ (v.toInt = 1 ∧ (0 ≤ x1.toInt ∧ x1.toInt < c 5 ∧ ¬ bt (s 0) x1.toInt = x2.toInt) ∧ ∃ z : Int32, z.toInt = s 0 ∧ CVw I' R' x ha c E (fun c => if c = 0 then (z ^^^ ((1 : Int32) <<< (x1 &&& 31))).toInt else s c) (kn n) mk (kg n g s) q) := by
  have e1 : I' x 5 = I x 5 := hS.cell tx (by decide +kernel)
  have e2 : ∀ a j, T a = 2 ∨ rdc (T a) = true → I' a j = I a j := fun a j ta => by
    rcases ta with ta | ta
    · exact hS.cell ta (wm_no (by decide +kernel))
    · exact hS.2.1 a j (wm_p (p := fun r => !(rdc r)) (by decide +kernel) (by rw [ta]; rfl))
  have nb := h.nb hW tx
  have h0 := h
  obtain ⟨al, dr, nw, pa, A, B, hp, s1, ⟨v0, v1, v2, v5, v6⟩, ts, s4, s5, s6, hA, hB, hD⟩ := h0
  obtain ⟨tal, tdr, tnw, tpa, tA, tB⟩ := hp.ro hW tx
  obtain ⟨p1, p2, p3, p4, p5, p6, p7⟩ := hp
  have s4' := s4
  obtain ⟨t0, t1, t2, t3⟩ := s4
  have b1 := iv8_2 hW tnw (rfl : I nw 2 = I nw 2)
  rcases hc with ⟨a1, a2, a3, -⟩ | ⟨a1, a2, a3, a4, a5, -⟩ | ⟨a1, a2, a3, a4, a5, a6, -⟩
  · have z := a1 al p1
    exact Or.inl ⟨a2, fun y => by exact om_8cd11a1a v5 z y.2.2 y.1 y.2.1, h.sm hW tx a3 e1 e2⟩
  · have z := a3 nw p4
    rw [t0] at z
    exact Or.inl ⟨a4, fun y => y.2.2 z, h.sm hW tx a5 e1 e2⟩
  · have z1 := a2 al p1
    have z := a3 nw p4
    rw [t0] at z
    refine Or.inr ⟨a4, ⟨a1, by exact om_a830ecb4 v5 z1, z⟩, I nw 0, t0, ?_⟩
    refine h.keep hW tx a5 e1 e2 (fun a ta => hS.cell ta (by decide +kernel)) (fun a j ta => ?_) (fun nw2 hn ht => ?_)
    · rcases ta with ta | ta | ta | ta | ta | ta | ta | ta | ta | ta | ta <;> exact hS.rcell ta (wm_no (by decide +kernel))
    · obtain rfl := Option.some.inj (p4.symm.trans hn)
      exact ht.nw hS hW tnw (by decide +kernel) (by decide +kernel) (by decide +kernel) (by rw [a6 _ p4]; rfl) (by rw [hS.cell tnw (by decide +kernel)]; exact t1) (by rw [hS.cell tnw (by decide +kernel)]; exact t2) (Int.le_refl _) (fun c hc => if_neg (by exact om_d5f6b774 hc))
theorem c_cloud (h : CVw I R x ha c E s n mk g q) (hW : Wf T cn K N I R d) (tx : T x = 1) (hS : St T cn K N d' wik_X10_cloud wrk_X10_cloud I R I' R') (hc : Cs_X10_cloud T I R x x1 x2 v I' R') :
    (v.toInt = 0 ∧ ¬ (ha = 1 ∧ 0 ≤ x1.toInt ∧ x1.toInt < x2.toInt ∧ x2.toInt ≤ c 0 ∧ s 1 ≤ 5) ∧ CVw I' R' x ha c E s n mk g q) ∨ (v.toInt = 1 ∧ (ha = 1 ∧ 0 ≤ x1.toInt ∧ x1.toInt < x2.toInt ∧ x2.toInt ≤ c 0 ∧ s 1 ≤ 5) ∧ CVw I' R' x ha c E (ac s (s 2) x1.toInt x2.toInt) (kn n) mk (kg n g s) q) := by
  have e1 : I' x 5 = I x 5 := hS.cell tx (by decide +kernel)
  have e2 : ∀ a j, T a = 2 ∨ rdc (T a) = true → I' a j = I a j := fun a j ta => by
    rcases ta with ta | ta
    · exact hS.cell ta (wm_no (by decide +kernel))
    · exact hS.2.1 a j (wm_p (p := fun r => !(rdc r)) (by decide +kernel) (by rw [ta]; rfl))
  have nb := h.nb hW tx
  have h0 := h
  obtain ⟨al, dr, nw, pa, A, B, hp, s1, ⟨v0, v1, v2, v5, v6⟩, ts, s4, s5, s6, hA, hB, hD⟩ := h0
  obtain ⟨tal, tdr, tnw, tpa, tA, tB⟩ := hp.ro hW tx
  obtain ⟨p1, p2, p3, p4, p5, p6, p7⟩ := hp
  have s4' := s4
  obtain ⟨t0, t1, t2, t3⟩ := s4
  have b1 := iv8_2 hW tnw (rfl : I nw 2 = I nw 2)
  rcases hc with ⟨a1, a2, a3, -⟩ | ⟨a1, a2, a3, a4, -⟩ | ⟨a1, a2, a3, a4, a5, a6, a7, -⟩ | ⟨a1, a2, a3, a4, a5, a6, a7, a8, a9, -⟩
  · exact Or.inl ⟨a2, fun y => by exact om_1234963b s1 a1 y.1, h.sm hW tx a3 e1 e2⟩
  · have z := a2 al p1
    exact Or.inl ⟨a3, fun y => by exact om_7b9356e8 v0 z y.2.1 y.2.2.2.1 y.2.2.1, h.sm hW tx a4 e1 e2⟩
  · have z := a5 nw p4
    exact Or.inl ⟨a6, fun y => by exact om_edfe10b7 t1 b1.2 b1.1 z y.2.2.2.2, h.sm hW tx a7 e1 e2⟩
  · have z1 := a4 al p1
    have z := a5 nw p4
    refine Or.inr ⟨a6, ⟨by exact om_bd8e519c s1 a1, a2, a3, by exact om_bde4ffce v0 z1, by exact om_d0185298 t1 b1.2 b1.1 z⟩, ?_⟩
    refine h.keep hW tx a8 e1 e2 (fun a ta => hS.cell ta (by decide +kernel)) (fun a j ta => ?_) (fun nw2 hn ht => ?_)
    · rcases ta with ta | ta | ta | ta | ta | ta | ta | ta | ta | ta | ta <;> exact hS.rcell ta (wm_no (by decide +kernel))
    · obtain rfl := Option.some.inj (p4.symm.trans hn)
      have y := a7 _ ((hS.rcell tx (by decide +kernel)).trans p4) _ p4
      exact ht.ad hS tnw (by decide +kernel) (a9 _ p4) ⟨by exact om_4fb157f6 t1 b1.2 b1.1 z y, by exact om_b0130307 t1 b1.2 b1.1 z y⟩ (by rw [hS.cell tnw (by decide +kernel)]; exact t0.trans ac_00.symm) (by exact om_fb59dbab t1 y) (by rw [hS.cell tnw (by decide +kernel)]; exact t2) rfl (by unfold ac; rw [if_neg (by exact om_782211d2 t1 b1.2 b1.1 z y), if_neg (by exact om_4a72d197 t1 b1.2 b1.1 z y), if_pos rfl]) (by unfold ac; rw [if_neg (by exact om_40a69d24 t1 b1.2 b1.1 z y), if_neg (by exact om_1d537630 t1 b1.2 b1.1 z y), if_neg (by exact om_44cb46b9), if_pos rfl]) (fun k hk hn => ⟨by unfold ac; rw [if_neg (by exact om_6584b5fd hk), if_neg (by exact om_49ee7c72 hk), if_neg (by exact om_c5870da5 t1 b1.2 b1.1 z y hk hn), if_neg (by exact om_a4c00365 t1 b1.2 b1.1 z y hk hn)], by unfold ac; rw [if_neg (by exact om_7cbc66b4 hk), if_neg (by exact om_717ca4bf hk), if_neg (by exact om_925a8ce3 t1 b1.2 b1.1 z y hk hn), if_neg (by exact om_a853eb4d t1 b1.2 b1.1 z y hk hn)]⟩)
theorem c_draw (h : CVw I R x ha c E s n mk g q) (hW : Wf T cn K N I R d) (tx : T x = 1) (hS : St T cn K N d' wik_X10_draw wrk_X10_draw I R I' R') (hc : Cs_X10_draw T I R x v I' R') :
    (v.toInt = -1 ∧ ¬ (ha = 1 ∧ s 1 ≤ 5) ∧ CVw I' R' x ha c E s n mk g q) ∨ (v.toInt = dwm (s 2) (c 0) ∧ (ha = 1 ∧ s 1 ≤ 5) ∧ CVw I' R' x ha c E (ac s (dw (dw (s 2))) (dwm (s 2) (c 0)) (dwt (s 2) (c 0))) (kn n) mk (kg n g s) q) := by
  have e1 : I' x 5 = I x 5 := hS.cell tx (by decide +kernel)
  have e2 : ∀ a j, T a = 2 ∨ rdc (T a) = true → I' a j = I a j := fun a j ta => by
    rcases ta with ta | ta
    · exact hS.cell ta (wm_no (by decide +kernel))
    · exact hS.2.1 a j (wm_p (p := fun r => !(rdc r)) (by decide +kernel) (by rw [ta]; rfl))
  have nb := h.nb hW tx
  have h0 := h
  obtain ⟨al, dr, nw, pa, A, B, hp, s1, ⟨v0, v1, v2, v5, v6⟩, ts, s4, s5, s6, hA, hB, hD⟩ := h0
  obtain ⟨tal, tdr, tnw, tpa, tA, tB⟩ := hp.ro hW tx
  obtain ⟨p1, p2, p3, p4, p5, p6, p7⟩ := hp
  have s4' := s4
  obtain ⟨t0, t1, t2, t3⟩ := s4
  have b1 := iv8_2 hW tnw (rfl : I nw 2 = I nw 2)
  rcases hc with ⟨a1, a2, a3, -⟩ | ⟨a1, a2, a3, a4, -⟩ | ⟨a1, a2, a3, a4, a5, a6, a7, -⟩
  · exact Or.inl ⟨a2, fun y => by exact om_1234963b s1 a1 y.1, h.sm hW tx a3 e1 e2⟩
  · have z := a2 nw p4
    exact Or.inl ⟨a3, fun y => by exact om_edfe10b7 t1 b1.2 b1.1 z y.2, h.sm hW tx a4 e1 e2⟩
  · have z := a2 nw p4
    have z5 := a5 nw p4 al p1
    rw [t2, v0] at z5
    obtain ⟨va, vb, y1, y2, y3⟩ := a7 nw al p4 p1
    rw [t2, v0] at y2 y3
    refine Or.inr ⟨z5, ⟨by exact om_bd8e519c s1 a1, by exact om_d0185298 t1 b1.2 b1.1 z⟩, ?_⟩
    refine h.keep hW tx a6 e1 e2 (fun a ta => hS.cell ta (by decide +kernel)) (fun a j ta => ?_) (fun nw2 hn ht => ?_)
    · rcases ta with ta | ta | ta | ta | ta | ta | ta | ta | ta | ta | ta <;> exact hS.rcell ta (wm_no (by decide +kernel))
    · obtain rfl := Option.some.inj (p4.symm.trans hn)
      have y := a3 _ ((hS.rcell tx (by decide +kernel)).trans p4) _ p4
      have y4 := a4 _ ((hS.rcell tx (by decide +kernel)).trans p4) _ p4
      rw [t2] at y4
      exact ht.ad hS tnw (by decide +kernel) y1 ⟨by exact om_4fb157f6 t1 b1.2 b1.1 z y, by exact om_b0130307 t1 b1.2 b1.1 z y⟩ (by rw [hS.cell tnw (by decide +kernel)]; exact t0.trans ac_00.symm) (by exact om_fb59dbab t1 y) y4 rfl (by unfold ac; rw [if_neg (by exact om_782211d2 t1 b1.2 b1.1 z y), if_neg (by exact om_4a72d197 t1 b1.2 b1.1 z y), if_pos rfl]; exact y2.symm) (by unfold ac; rw [if_neg (by exact om_40a69d24 t1 b1.2 b1.1 z y), if_neg (by exact om_1d537630 t1 b1.2 b1.1 z y), if_neg (by exact om_44cb46b9), if_pos rfl]; exact y3.symm) (fun k hk hn => ⟨by unfold ac; rw [if_neg (by exact om_6584b5fd hk), if_neg (by exact om_49ee7c72 hk), if_neg (by exact om_c5870da5 t1 b1.2 b1.1 z y hk hn), if_neg (by exact om_a4c00365 t1 b1.2 b1.1 z y hk hn)], by unfold ac; rw [if_neg (by exact om_7cbc66b4 hk), if_neg (by exact om_717ca4bf hk), if_neg (by exact om_925a8ce3 t1 b1.2 b1.1 z y hk hn), if_neg (by exact om_a853eb4d t1 b1.2 b1.1 z y hk hn)]⟩)
theorem c_lift (h : CVw I R x ha c E s n mk g q) (hW : Wf T cn K N I R d) (tx : T x = 1) (hS : St T cn K N d' wik_X10_lift wrk_X10_lift I R I' R') (hc : Cs_X10_lift T I R x v I' R') :
    (v.toInt = 0 ∧ s 1 = 0 ∧ CVw I' R' x ha c E s n mk g q) ∨ (v.toInt = 1 ∧ 1 ≤ s 1 ∧ CVw I' R' x ha c E (fun c => if c = 1 then s 1 - 1 else s c) (kn n) mk (kg n g s) q) := by
  have e1 : I' x 5 = I x 5 := hS.cell tx (by decide +kernel)
  have e2 : ∀ a j, T a = 2 ∨ rdc (T a) = true → I' a j = I a j := fun a j ta => by
    rcases ta with ta | ta
    · exact hS.cell ta (wm_no (by decide +kernel))
    · exact hS.2.1 a j (wm_p (p := fun r => !(rdc r)) (by decide +kernel) (by rw [ta]; rfl))
  have nb := h.nb hW tx
  have h0 := h
  obtain ⟨al, dr, nw, pa, A, B, hp, s1, ⟨v0, v1, v2, v5, v6⟩, ts, s4, s5, s6, hA, hB, hD⟩ := h0
  obtain ⟨tal, tdr, tnw, tpa, tA, tB⟩ := hp.ro hW tx
  obtain ⟨p1, p2, p3, p4, p5, p6, p7⟩ := hp
  have s4' := s4
  obtain ⟨t0, t1, t2, t3⟩ := s4
  have b1 := iv8_2 hW tnw (rfl : I nw 2 = I nw 2)
  rcases hc with ⟨a1, a2, a3, -⟩ | ⟨a1, a2, a3, a4, -⟩
  · have z := a1 nw p4
    exact Or.inl ⟨a2, by exact om_146e4dfc t1 z, h.sm hW tx a3 e1 e2⟩
  · have z := a1 nw p4
    refine Or.inr ⟨a2, by exact om_55559740 t1 b1.2 b1.1 z, ?_⟩
    refine h.keep hW tx a4 e1 e2 (fun a ta => hS.cell ta (by decide +kernel)) (fun a j ta => ?_) (fun nw2 hn ht => ?_)
    · rcases ta with ta | ta | ta | ta | ta | ta | ta | ta | ta | ta | ta <;> exact hS.rcell ta (wm_no (by decide +kernel))
    · obtain rfl := Option.some.inj (p4.symm.trans hn)
      have y := a3 _ ((hS.rcell tx (by decide +kernel)).trans p4) _ p4
      exact ht.nw hS hW tnw (by decide +kernel) (by decide +kernel) (by decide +kernel) (by rw [hS.cell tnw (by decide +kernel)]; exact t0) (by show _ = s 1 - 1; exact om_6d0757a2 t1 y) (by rw [hS.cell tnw (by decide +kernel)]; exact t2) (by show s 1 - 1 ≤ s 1; exact om_c492fd21) (fun c hc => if_neg (by exact om_4db9dc4d hc))
theorem c_seed (h : CVw I R x ha c E s n mk g q) (hW : Wf T cn K N I R d) (tx : T x = 1) (hS : St T cn K N d' wik_X10_seed wrk_X10_seed I R I' R) (hc : Cs_X10_seed T I R x x1 v I' R) :
    (v.toInt = 0 ∧ ¬ (ha = 1 ∧ 0 ≤ x1.toInt ∧ x1.toInt ≤ 65536) ∧ CVw I' R x ha c E s n mk g q) ∨ (v.toInt = 1 ∧ (ha = 1 ∧ 0 ≤ x1.toInt ∧ x1.toInt ≤ 65536) ∧ CVw I' R x ha c E (fun c => if c = 2 then x1.toInt else s c) n mk g q) := by
  have e1 : I' x 5 = I x 5 := hS.cell tx (by decide +kernel)
  have e2 : ∀ a j, T a = 2 ∨ rdc (T a) = true → I' a j = I a j := fun a j ta => by
    rcases ta with ta | ta
    · exact hS.cell ta (wm_no (by decide +kernel))
    · exact hS.2.1 a j (wm_p (p := fun r => !(rdc r)) (by decide +kernel) (by rw [ta]; rfl))
  have nb := h.nb hW tx
  have h0 := h
  obtain ⟨al, dr, nw, pa, A, B, hp, s1, ⟨v0, v1, v2, v5, v6⟩, ts, s4, s5, s6, hA, hB, hD⟩ := h0
  obtain ⟨tal, tdr, tnw, tpa, tA, tB⟩ := hp.ro hW tx
  obtain ⟨p1, p2, p3, p4, p5, p6, p7⟩ := hp
  have s4' := s4
  obtain ⟨t0, t1, t2, t3⟩ := s4
  have b1 := iv8_2 hW tnw (rfl : I nw 2 = I nw 2)
  rcases hc with ⟨a1, a2, a3, -⟩ | ⟨a1, a2, a3, a4, -⟩ | ⟨a1, a2, a3, a4, a5, -⟩
  · exact Or.inl ⟨a2, fun y => by exact om_1234963b s1 a1 y.1, h.sm hW tx a3 e1 e2⟩
  · exact Or.inl ⟨a3, fun y => by exact om_b2ec4fcf a2 y.2.2 y.2.1, h.sm hW tx a4 e1 e2⟩
  · refine Or.inr ⟨a4, ⟨by exact om_bd8e519c s1 a1, a2, a3⟩, ?_⟩
    refine h.bk hW tx e1 (fun a j ta => ?_) (fun pa2 hp2 y => ?_) (fun a ta => hS.cell ta (by decide +kernel)) (Int.le_refl _) (fun nw2 pa2 A2 B2 hn hp2 hA2 hB2 ht gA gB => ?_)
    · rcases ta with ta | ta | ta | ta | ta
      · exact e2 a j (Or.inl ta)
      · exact e2 a j (Or.inr ta)
      all_goals exact hS.cell ta (wm_no (by decide +kernel))
    · obtain rfl := Option.some.inj (p5.symm.trans hp2)
      rw [hS.cell tpa (by decide +kernel)]; exact y
    · obtain rfl := Option.some.inj (p4.symm.trans hn)
      exact ht.nw hS hW tnw (by decide +kernel) (by decide +kernel) (by decide +kernel) (by rw [hS.cell tnw (by decide +kernel)]; exact t0) (by rw [hS.cell tnw (by decide +kernel)]; exact t1) (a5 _ p4) (Int.le_refl _) (fun c hc => if_neg (by exact om_30c0316b hc))
theorem c_undo (h : CVw I R x ha c E s n mk g q) (hW : Wf T cn K N I R d) (tx : T x = 1) (hS : St T cn K N d' wik_X10_undo wrk_X10_undo I R I' R) (hc : Cs_X10_undo T I R x v I' R) :
    (v.toInt = 0 ∧ n = 0 ∧ CVw I' R x ha c E s n mk g q) ∨ (v.toInt = 1 ∧ 1 ≤ n ∧ CVw I' R x ha c E (g (n - 1).toNat) (n - 1) mk g q) := by
  have e1 : I' x 5 = I x 5 := hS.cell tx (by decide +kernel)
  have e2 : ∀ a j, T a = 2 ∨ rdc (T a) = true → I' a j = I a j := fun a j ta => by
    rcases ta with ta | ta
    · exact hS.cell ta (wm_no (by decide +kernel))
    · exact hS.2.1 a j (wm_p (p := fun r => !(rdc r)) (by decide +kernel) (by rw [ta]; rfl))
  have nb := h.nb hW tx
  have h0 := h
  obtain ⟨al, dr, nw, pa, A, B, hp, s1, ⟨v0, v1, v2, v5, v6⟩, ts, s4, s5, s6, hA, hB, hD⟩ := h0
  obtain ⟨tal, tdr, tnw, tpa, tA, tB⟩ := hp.ro hW tx
  obtain ⟨p1, p2, p3, p4, p5, p6, p7⟩ := hp
  have s4' := s4
  obtain ⟨t0, t1, t2, t3⟩ := s4
  have b1 := iv8_2 hW tnw (rfl : I nw 2 = I nw 2)
  rcases hc with ⟨a1, a2, a3, -⟩ | ⟨a1, a2, a3, a4, -⟩
  · have z := a1 pa p5
    exact Or.inl ⟨a2, by exact om_146e4dfc s5 z, h.sm hW tx a3 e1 e2⟩
  · have z := a1 pa p5
    refine Or.inr ⟨a2, by exact om_1f437858 nb.1.2 nb.1.1 s5 z, ?_⟩
    refine h.bk hW tx e1 (fun a j ta => ?_) (fun pa2 hp2 y => ?_) (fun a ta => hS.cell ta (by decide +kernel)) (by exact om_c492fd21) (fun nw2 pa2 A2 B2 hn hp2 hA2 hB2 ht gA gB => ?_)
    · rcases ta with ta | ta | ta | ta | ta
      · exact e2 a j (Or.inl ta)
      · exact e2 a j (Or.inr ta)
      all_goals exact hS.cell ta (wm_no (by decide +kernel))
    · have := a3 pa2 hp2
      exact om_c592328e s5 y this
    · obtain rfl := Option.some.inj (p4.symm.trans hn)
      obtain rfl := Option.some.inj (p5.symm.trans hp2)
      obtain rfl := Option.some.inj (p6.symm.trans hA2)
      have y := a4 _ _ _ p4 p5 p6
      rw [s5] at y
      obtain ⟨b, hb, tb⟩ := rf33 hW tA (j := (n - 1).toNat) (by exact om_8b52b5b9 nb.1.2 nb.1.1 s5 z)
      obtain ⟨y0, y1, y2, y3⟩ := y b hb
      obtain ⟨gb, hgb, -⟩ := rf10_3 hW tb
      obtain ⟨ub, hub, -⟩ := rf10_4 hW tb
      exact (gA (n - 1).toNat (by exact om_964a2275 nb.1.2 nb.1.1 s5 z) b hb).rw hgb hub y0 y1 y2 y3
theorem c_back (h : CVw I R x ha c E s n mk g q) (hW : Wf T cn K N I R d) (tx : T x = 1) (hS : St T cn K N d' wik_X10_back wrk_X10_back I R I' R) (hc : Cs_X10_back T I R x x1 v I' R) :
    (v.toInt = 0 ∧ ¬ (0 ≤ x1.toInt ∧ x1.toInt < mk) ∧ CVw I' R x ha c E s n mk g q) ∨ (v.toInt = 1 ∧ (0 ≤ x1.toInt ∧ x1.toInt < mk) ∧ CVw I' R x ha c E (q x1.toInt.toNat) 0 mk g q) := by
  have e1 : I' x 5 = I x 5 := hS.cell tx (by decide +kernel)
  have e2 : ∀ a j, T a = 2 ∨ rdc (T a) = true → I' a j = I a j := fun a j ta => by
    rcases ta with ta | ta
    · exact hS.cell ta (wm_no (by decide +kernel))
    · exact hS.2.1 a j (wm_p (p := fun r => !(rdc r)) (by decide +kernel) (by rw [ta]; rfl))
  have nb := h.nb hW tx
  have h0 := h
  obtain ⟨al, dr, nw, pa, A, B, hp, s1, ⟨v0, v1, v2, v5, v6⟩, ts, s4, s5, s6, hA, hB, hD⟩ := h0
  obtain ⟨tal, tdr, tnw, tpa, tA, tB⟩ := hp.ro hW tx
  obtain ⟨p1, p2, p3, p4, p5, p6, p7⟩ := hp
  have s4' := s4
  obtain ⟨t0, t1, t2, t3⟩ := s4
  have b1 := iv8_2 hW tnw (rfl : I nw 2 = I nw 2)
  rcases hc with ⟨a1, a2, a3, -⟩ | ⟨a1, a2, a3, a4, a5, -⟩
  · have z := a1 pa p5
    exact Or.inl ⟨a2, fun y => by exact om_b29c1280 s6 z y.1 y.2, h.sm hW tx a3 e1 e2⟩
  · have z := a2 pa p5
    refine Or.inr ⟨a3, ⟨a1, by exact om_a830ecb4 s6 z⟩, ?_⟩
    refine h.bk hW tx e1 (fun a j ta => ?_) (fun pa2 hp2 y => ?_) (fun a ta => hS.cell ta (by decide +kernel)) (by exact om_400e841b nb.1.2 nb.1.1 s5) (fun nw2 pa2 A2 B2 hn hp2 hA2 hB2 ht gA gB => ?_)
    · rcases ta with ta | ta | ta | ta | ta
      · exact e2 a j (Or.inl ta)
      · exact e2 a j (Or.inr ta)
      all_goals exact hS.cell ta (wm_no (by decide +kernel))
    · exact a4 pa2 hp2
    · obtain rfl := Option.some.inj (p4.symm.trans hn)
      obtain rfl := Option.some.inj (p5.symm.trans hp2)
      obtain rfl := Option.some.inj (p7.symm.trans hB2)
      have y := a5 _ _ _ p4 p5 p7
      obtain ⟨b, hb, tb⟩ := rf34 hW tB (j := x1.toInt.toNat) (by exact om_2e594966 nb.2.2 nb.2.1 s6 z)
      obtain ⟨y0, y1, y2, y3⟩ := y b hb
      obtain ⟨gb, hgb, -⟩ := rf10_3 hW tb
      obtain ⟨ub, hub, -⟩ := rf10_4 hW tb
      exact (gB x1.toInt.toNat (by exact om_efcf0d5a s6 a1 z) b hb).rw hgb hub y0 y1 y2 y3
theorem c_mark (h : CVw I R x ha c E s n mk g q) (hW : Wf T cn K N I R d) (tx : T x = 1) (hS : St T cn K N d' wik_X10_mark wrk_X10_mark I R I' R) (hc : Cs_X10_mark T I R x v I' R) :
    (v.toInt = -1 ∧ ¬ (ha = 1 ∧ mk ≤ 2) ∧ CVw I' R x ha c E s n mk g q) ∨ (v.toInt = mk ∧ (ha = 1 ∧ mk ≤ 2) ∧ CVw I' R x ha c E s n (mk + 1) g (fun i c => if (i : Int) < mk then q i c else s c)) := by
  have e1 : I' x 5 = I x 5 := hS.cell tx (by decide +kernel)
  have e2 : ∀ a j, T a = 2 ∨ rdc (T a) = true → I' a j = I a j := fun a j ta => by
    rcases ta with ta | ta
    · exact hS.cell ta (wm_no (by decide +kernel))
    · exact hS.2.1 a j (wm_p (p := fun r => !(rdc r)) (by decide +kernel) (by rw [ta]; rfl))
  have nb := h.nb hW tx
  have h0 := h
  obtain ⟨al, dr, nw, pa, A, B, hp, s1, ⟨v0, v1, v2, v5, v6⟩, ts, s4, s5, s6, hA, hB, hD⟩ := h0
  obtain ⟨tal, tdr, tnw, tpa, tA, tB⟩ := hp.ro hW tx
  obtain ⟨p1, p2, p3, p4, p5, p6, p7⟩ := hp
  have s4' := s4
  obtain ⟨t0, t1, t2, t3⟩ := s4
  have b1 := iv8_2 hW tnw (rfl : I nw 2 = I nw 2)
  rcases hc with ⟨a1, a2, a3, -⟩ | ⟨a1, a2, a3, a4, -⟩ | ⟨a1, a2, a3, a4, a5, -⟩
  · exact Or.inl ⟨a2, fun y => by exact om_1234963b s1 a1 y.1, h.sm hW tx a3 e1 e2⟩
  · have z := a2 pa p5
    exact Or.inl ⟨a3, fun y => by exact om_d982c077 s6 z y.2, h.sm hW tx a4 e1 e2⟩
  · have z := a2 pa p5
    have z3 := a3 pa p5
    refine Or.inr ⟨by exact om_9fa72578 s6 z3, ⟨by exact om_bd8e519c s1 a1, by exact om_40fd367f nb.2.2 nb.2.1 s6 z z3⟩, ?_⟩
    refine h.mark hW tx (by exact om_40fd367f nb.2.2 nb.2.1 s6 z z3) e1 (fun a j ta => ?_) (fun a ta => hS.cell ta (by decide +kernel)) (fun pa2 hp2 y => ?_) (fun nw2 pa2 A2 hn hp2 hA2 => a5 _ _ _ hn hp2 hA2)
    · rcases ta with ta | ta | ta | ta | ta
      · exact e2 a j (Or.inl ta)
      · exact e2 a j (Or.inr ta)
      all_goals exact hS.cell ta (wm_no (by decide +kernel))
    · have := a4 pa2 hp2
      exact om_ba507dbd s6 z3 y this
end CzVc
