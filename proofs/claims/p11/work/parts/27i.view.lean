/-! ===== level C: the reference's acts, as its view sees them ===== -/
section CzVn
variable {T : Nat → Nat} {cn : Nat} {K N : Nat → Nat} {d d' : Int} {I I' : cz_I} {R : cz_R} {x m : Nat} {ha n mk : Int} {c : Nat → Int} {E : Nat → Nat → Int} {s : Nat → Int} {g q : Nat → Nat → Int} {v x1 x2 : Int32}
/-- w, its rows untouched -/
theorem S15.w3 {w : Nat} {s' : Nat → Int} (t : S15 (I w) s) (w3 : ∀ c : Nat, 3 ≤ c → I' w c = I w c) (e0 : (I' w 0).toInt = s' 0) (e1 : (I' w 1).toInt = s' 1) (e2 : (I' w 2).toInt = s' 2) (hle : s' 1 ≤ s 1) (e3 : ∀ c, 3 ≤ c → s' c = s c) : S15 (I' w) s' := by
  refine ⟨fun c hc => ?_, fun k hk hs => ?_⟩
  · have z : c = 0 ∨ c = 1 ∨ c = 2 := by exact om_af51cf70 hc
    rcases z with rfl | rfl | rfl
    · exact e0
    · exact e1
    · exact e2
  · rw [w3 _ (by exact om_d1e78b61 hk), w3 _ (by exact om_1378fd39 hk), e3 _ (by exact om_d1e78b61 hk), e3 _ (by exact om_1378fd39 hk)]
    exact t.2 k hk (by exact om_a60464d4 hle hs)
/-- w with a cloud more -/
theorem S15.ad {w : Nat} {s' : Nat → Int} {va vb : Int32} (t : S15 (I w) s) (ad : AdM I I' w (I w 1).toInt va vb) (h5 : 0 ≤ s 1 ∧ s 1 ≤ 5) (e0 : (I' w 0).toInt = s' 0) (e1 : (I' w 1).toInt = s 1 + 1) (e2 : (I' w 2).toInt = s' 2) (f1 : s' 1 = s 1 + 1) (f3 : s' (3 + (s 1).toNat) = va.toInt) (f4 : s' (9 + (s 1).toNat) = vb.toInt) (f5 : ∀ k : Nat, k < 6 → (k : Int) < s 1 → s' (3 + k) = s (3 + k) ∧ s' (9 + k) = s (9 + k)) : S15 (I' w) s' := by
  obtain ⟨h2, h3, h1⟩ := ad
  rw [t.1 1 (by omega)] at h1 h2 h3
  refine ⟨fun c hc => ?_, fun k hk hs => ?_⟩
  · have z : c = 0 ∨ c = 1 ∨ c = 2 := by exact om_af51cf70 hc
    rcases z with rfl | rfl | rfl
    · exact e0
    · exact e1.trans f1.symm
    · exact e2
  · by_cases z : (k : Int) < s 1
    · obtain ⟨y1, y2⟩ := h1 k hk z
      obtain ⟨z1, z2⟩ := f5 k hk z
      rw [y1, y2, z1, z2]; exact t.2 k hk z
    · obtain rfl : k = (s 1).toNat := by exact om_54c6412d h5.2 h5.1 e1 f1 hs z
      rw [h2, h3, f3, f4]; exact ⟨rfl, rfl⟩
theorem m_call (h : MVw I R m ha c E s n mk g q) (hW : Wf T cn K N I R d) (tm : T m = 15) (hS : St T cn K N d' wik_X12_call wrk_X12_call I R I' R) (hc : Cs_X12_call T I R m x1 x2 v I' R) (b1 : 0 ≤ s 1 ∧ s 1 ≤ 6) :
    (v.toInt = 0 ∧ ¬ (ha = 1 ∧ (0 ≤ x1.toInt ∧ x1.toInt < c 5 ∧ ¬ bt (s 0) x1.toInt = x2.toInt)) ∧ MVw I' R m ha c E s n mk g q) ∨ (v.toInt = 1 ∧ (ha = 1 ∧ (0 ≤ x1.toInt ∧ x1.toInt < c 5 ∧ ¬ bt (s 0) x1.toInt = x2.toInt)) ∧ ∃ z : Int32, z.toInt = s 0 ∧ MVw I' R m ha c E (fun c => if c = 0 then (z ^^^ ((1 : Int32) <<< (x1 &&& 31))).toInt else s c) (kn n) mk (kg n g s) q) := by
  have e4 : ∀ a j, R14 (T a) → I' a j = I a j := fun a j ta => by
    rcases ta with ta | ta
    · exact hS.cell ta (wm_no (by decide +kernel))
    · exact hS.2.1 a j (wm_p (p := fun r => !(rdm r)) (by decide +kernel) (by rw [ta]; rfl))
  have nb := h.nb hW tm
  have h0 := h
  obtain ⟨w, p, k, p1, p2, p3, hav, hs, hn, hm, hp, hq⟩ := h0
  have s0 := hs.1 0 (by exact om_d64e39d1)
  have s1 := hs.1 1 (by exact om_8d289ac2)
  have s2 := hs.1 2 (by exact om_9caba31f)
  rcases hc with ⟨a1, a2, a3, -⟩ | ⟨a1, a2, a3, a4, -⟩ | ⟨a1, a2, a3, a4, a5, a6, -⟩ | ⟨a1, a2, a3, a4, a5, a6, a7, a8, a9, b1', b2, b3, -⟩
  · have z := h.ha0 a2
    exact Or.inl ⟨a1, fun y => by exact om_84cf5bf8 z y.1, h.sm hW tm a3 e4⟩
  · obtain ⟨z, b, hb, z0, z1, z2, z5, -⟩ := h.ha1 a3
    have y := a1 b hb
    exact Or.inl ⟨a2, fun y => by omega, h.sm hW tm a4 e4⟩
  · have y := a3 w p1
    rw [s0] at y
    exact Or.inl ⟨a4, fun z => z.2.2.2 y, h.sm hW tm a6 e4⟩
  · obtain ⟨z, b, hb, z0, z1, z2, z5, -⟩ := h.ha1 a9
    have y4 := a4 b hb
    have y := a5 w p1
    rw [s0] at y
    refine Or.inr ⟨a6, ⟨z, a3, by exact om_a830ecb4 z5 y4, y⟩, I w 0, s0, ?_⟩
    refine h.keep hW tm b1' (kn_of a1 a2 hn) (hS.cell tm (by decide +kernel)) (fun a j ta => ?_) (fun w2 hw2 ht => ?_)
    · rcases ta with ta | ta
      · exact e4 a j ta
      · exact hS.cell ta (wm_no (by decide +kernel))
    · obtain rfl := Option.some.inj (p1.symm.trans hw2)
      exact ht.w3 (b3 _ p1) (by rw [b2 _ p1]; rfl) (by show _ = s 1; have := a7 _ p1; exact om_9fa72578 s1 this) (by show _ = s 2; have := a8 _ p1; exact om_9fa72578 s2 this) (Int.le_refl _) (fun c hc => if_neg (by exact om_d5f6b774 hc))
theorem m_cloud (h : MVw I R m ha c E s n mk g q) (hW : Wf T cn K N I R d) (tm : T m = 15) (hS : St T cn K N d' wik_X12_cloud wrk_X12_cloud I R I' R) (hc : Cs_X12_cloud T I R m x1 x2 v I' R) (b1 : 0 ≤ s 1 ∧ s 1 ≤ 6) :
    (v.toInt = 0 ∧ ¬ (ha = 1 ∧ 0 ≤ x1.toInt ∧ x1.toInt < x2.toInt ∧ x2.toInt ≤ c 0 ∧ s 1 ≤ 5) ∧ MVw I' R m ha c E s n mk g q) ∨ (v.toInt = 1 ∧ (ha = 1 ∧ 0 ≤ x1.toInt ∧ x1.toInt < x2.toInt ∧ x2.toInt ≤ c 0 ∧ s 1 ≤ 5) ∧ MVw I' R m ha c E (ac s (s 2) x1.toInt x2.toInt) (kn n) mk (kg n g s) q) := by
  have e4 : ∀ a j, R14 (T a) → I' a j = I a j := fun a j ta => by
    rcases ta with ta | ta
    · exact hS.cell ta (wm_no (by decide +kernel))
    · exact hS.2.1 a j (wm_p (p := fun r => !(rdm r)) (by decide +kernel) (by rw [ta]; rfl))
  have nb := h.nb hW tm
  have h0 := h
  obtain ⟨w, p, k, p1, p2, p3, hav, hs, hn, hm, hp, hq⟩ := h0
  have s0 := hs.1 0 (by exact om_d64e39d1)
  have s1 := hs.1 1 (by exact om_8d289ac2)
  have s2 := hs.1 2 (by exact om_9caba31f)
  rcases hc with ⟨a1, a2, a3, -⟩ | ⟨a1, a2, a3, a4, -⟩ | ⟨a1, a2, a3, a4, a5, a6, a7, -⟩ | ⟨a1, a2, a3, a4, a5, a6, a7, a8, a9, b1', b2, b3, b4, -⟩
  · have z := h.ha0 a2
    exact Or.inl ⟨a1, fun y => by exact om_84cf5bf8 z y.1, h.sm hW tm a3 e4⟩
  · obtain ⟨z, b, hb, z0, -⟩ := h.ha1 a3
    have y := a1 b hb
    exact Or.inl ⟨a2, fun y => by omega, h.sm hW tm a4 e4⟩
  · have y := a4 w p1
    exact Or.inl ⟨a5, fun z => by exact om_2872bc38 s1 y z.2.2.2.2, h.sm hW tm a7 e4⟩
  · obtain ⟨z, b, hb, z0, -⟩ := h.ha1 b2
    have y4 := a5 b hb
    have y := a6 w p1
    refine Or.inr ⟨a7, ⟨z, a3, a4, by exact om_bde4ffce z0 y4, by exact om_f1ca3cd8 b1.2 b1.1 s1 y⟩, ?_⟩
    refine h.keep hW tm b3 (kn_of a1 a2 hn) (hS.cell tm (by decide +kernel)) (fun a j ta => ?_) (fun w2 hw2 ht => ?_)
    · rcases ta with ta | ta
      · exact e4 a j ta
      · exact hS.cell ta (wm_no (by decide +kernel))
    · obtain rfl := Option.some.inj (p1.symm.trans hw2)
      exact ht.ad (b4 _ p1) ⟨by exact om_0ae5ed2d b1.2 b1.1 s1 y, by exact om_f1ca3cd8 b1.2 b1.1 s1 y⟩ (by rw [ac_00]; have := a9 _ p1; exact om_9fa72578 s0 this) (by have := a8 _ p1; exact om_fb59dbab s1 this) (by show _ = s 2; have := b1' _ p1; exact om_9fa72578 s2 this) rfl (by unfold ac; rw [if_neg (by exact om_25271a67 b1.2 b1.1 s1 y), if_neg (by exact om_35a91f98 b1.2 b1.1 s1 y), if_pos rfl]) (by unfold ac; rw [if_neg (by exact om_c9c16782 b1.2 b1.1 s1 y), if_neg (by exact om_7283bb55 b1.2 b1.1 s1 y), if_neg (by exact om_44cb46b9), if_pos rfl]) (fun k hk hn => ⟨by unfold ac; rw [if_neg (by exact om_6584b5fd hk), if_neg (by exact om_49ee7c72 hk), if_neg (by exact om_956ce78e b1.2 b1.1 s1 y hk hn), if_neg (by exact om_71f87b78 b1.2 b1.1 s1 y hk hn)], by unfold ac; rw [if_neg (by exact om_7cbc66b4 hk), if_neg (by exact om_717ca4bf hk), if_neg (by exact om_02c69289 b1.2 b1.1 s1 y hk hn), if_neg (by exact om_9d9dc53b b1.2 b1.1 s1 y hk hn)]⟩)
theorem m_draw (h : MVw I R m ha c E s n mk g q) (hW : Wf T cn K N I R d) (tm : T m = 15) (hS : St T cn K N d' wik_X12_draw wrk_X12_draw I R I' R) (hc : Cs_X12_draw T I R m v I' R) (b1 : 0 ≤ s 1 ∧ s 1 ≤ 6) :
    (v.toInt = -1 ∧ ¬ (ha = 1 ∧ s 1 ≤ 5) ∧ MVw I' R m ha c E s n mk g q) ∨ (v.toInt = dwm (s 2) (c 0) ∧ (ha = 1 ∧ s 1 ≤ 5) ∧ MVw I' R m ha c E (ac s (dw (dw (s 2))) (dwm (s 2) (c 0)) (dwt (s 2) (c 0))) (kn n) mk (kg n g s) q) := by
  have e4 : ∀ a j, R14 (T a) → I' a j = I a j := fun a j ta => by
    rcases ta with ta | ta
    · exact hS.cell ta (wm_no (by decide +kernel))
    · exact hS.2.1 a j (wm_p (p := fun r => !(rdm r)) (by decide +kernel) (by rw [ta]; rfl))
  have nb := h.nb hW tm
  have h0 := h
  obtain ⟨w, p, k, p1, p2, p3, hav, hs, hn, hm, hp, hq⟩ := h0
  have s0 := hs.1 0 (by exact om_d64e39d1)
  have s1 := hs.1 1 (by exact om_8d289ac2)
  have s2 := hs.1 2 (by exact om_9caba31f)
  rcases hc with ⟨a1, a2, a3, -⟩ | ⟨a1, a2, a3, a4, -⟩ | ⟨a1, a2, a3, a4, a5, a6, a7, a8, a9, b1', -⟩
  · have z := h.ha0 a2
    exact Or.inl ⟨a1, fun y => by exact om_84cf5bf8 z y.1, h.sm hW tm a3 e4⟩
  · have y := a1 w p1
    exact Or.inl ⟨a2, fun z => by exact om_2872bc38 s1 y z.2, h.sm hW tm a4 e4⟩
  · obtain ⟨z, b, hb, z0, -⟩ := h.ha1 a8
    have y := a3 w p1
    have y6 := a6 w p1 b hb
    rw [s2, z0] at y6
    obtain ⟨va, vb, q1, q2, q3⟩ := b1' w b p1 hb
    rw [s2, z0] at q2 q3
    refine Or.inr ⟨y6, ⟨z, by exact om_f1ca3cd8 b1.2 b1.1 s1 y⟩, ?_⟩
    refine h.keep hW tm a9 (kn_of a1 a2 hn) (hS.cell tm (by decide +kernel)) (fun a j ta => ?_) (fun w2 hw2 ht => ?_)
    · rcases ta with ta | ta
      · exact e4 a j ta
      · exact hS.cell ta (wm_no (by decide +kernel))
    · obtain rfl := Option.some.inj (p1.symm.trans hw2)
      exact ht.ad q1 ⟨by exact om_0ae5ed2d b1.2 b1.1 s1 y, by exact om_f1ca3cd8 b1.2 b1.1 s1 y⟩ (by rw [ac_00]; have := a7 _ p1; exact om_9fa72578 s0 this) (by have := a4 _ p1; exact om_fb59dbab s1 this) (by have z := a5 _ p1; rw [s2] at z; exact z) rfl (by unfold ac; rw [if_neg (by exact om_25271a67 b1.2 b1.1 s1 y), if_neg (by exact om_35a91f98 b1.2 b1.1 s1 y), if_pos rfl]; exact q2.symm) (by unfold ac; rw [if_neg (by exact om_c9c16782 b1.2 b1.1 s1 y), if_neg (by exact om_7283bb55 b1.2 b1.1 s1 y), if_neg (by exact om_44cb46b9), if_pos rfl]; exact q3.symm) (fun k hk hn => ⟨by unfold ac; rw [if_neg (by exact om_6584b5fd hk), if_neg (by exact om_49ee7c72 hk), if_neg (by exact om_956ce78e b1.2 b1.1 s1 y hk hn), if_neg (by exact om_71f87b78 b1.2 b1.1 s1 y hk hn)], by unfold ac; rw [if_neg (by exact om_7cbc66b4 hk), if_neg (by exact om_717ca4bf hk), if_neg (by exact om_02c69289 b1.2 b1.1 s1 y hk hn), if_neg (by exact om_9d9dc53b b1.2 b1.1 s1 y hk hn)]⟩)
theorem m_lift (h : MVw I R m ha c E s n mk g q) (hW : Wf T cn K N I R d) (tm : T m = 15) (hS : St T cn K N d' wik_X12_lift wrk_X12_lift I R I' R) (hc : Cs_X12_lift T I R m v I' R) (b1 : 0 ≤ s 1 ∧ s 1 ≤ 6) :
    (v.toInt = 0 ∧ ¬ (ha = 1 ∧ 1 ≤ s 1) ∧ MVw I' R m ha c E s n mk g q) ∨ (v.toInt = 1 ∧ (ha = 1 ∧ 1 ≤ s 1) ∧ MVw I' R m ha c E (fun c => if c = 1 then s 1 - 1 else s c) (kn n) mk (kg n g s) q) := by
  have e4 : ∀ a j, R14 (T a) → I' a j = I a j := fun a j ta => by
    rcases ta with ta | ta
    · exact hS.cell ta (wm_no (by decide +kernel))
    · exact hS.2.1 a j (wm_p (p := fun r => !(rdm r)) (by decide +kernel) (by rw [ta]; rfl))
  have nb := h.nb hW tm
  have h0 := h
  obtain ⟨w, p, k, p1, p2, p3, hav, hs, hn, hm, hp, hq⟩ := h0
  have s0 := hs.1 0 (by exact om_d64e39d1)
  have s1 := hs.1 1 (by exact om_8d289ac2)
  have s2 := hs.1 2 (by exact om_9caba31f)
  rcases hc with ⟨a1, a2, a3, -⟩ | ⟨a1, a2, a3, a4, -⟩ | ⟨a1, a2, a3, a4, a5, a6, a7, a8, a9, b1', -⟩
  · have z := h.ha0 a2
    exact Or.inl ⟨a1, fun y => by exact om_84cf5bf8 z y.1, h.sm hW tm a3 e4⟩
  · have y := a1 w p1
    exact Or.inl ⟨a2, fun z => by exact om_86655873 s1 y z.2, h.sm hW tm a4 e4⟩
  · obtain ⟨z, -⟩ := h.ha1 a8
    have y := a3 w p1
    refine Or.inr ⟨a4, ⟨z, by exact om_67d30a15 b1.2 b1.1 s1 y⟩, ?_⟩
    refine h.keep hW tm a9 (kn_of a1 a2 hn) (hS.cell tm (by decide +kernel)) (fun a j ta => ?_) (fun w2 hw2 ht => ?_)
    · rcases ta with ta | ta
      · exact e4 a j ta
      · exact hS.cell ta (wm_no (by decide +kernel))
    · obtain rfl := Option.some.inj (p1.symm.trans hw2)
      exact ht.w3 (b1' _ p1) (by show _ = s 0; have := a6 _ p1; exact om_9fa72578 s0 this) (by show _ = s 1 - 1; have := a5 _ p1; exact om_6d0757a2 s1 this) (by show _ = s 2; have := a7 _ p1; exact om_9fa72578 s2 this) (by show s 1 - 1 ≤ s 1; exact om_c492fd21) (fun c hc => if_neg (by exact om_4db9dc4d hc))
theorem m_seed (h : MVw I R m ha c E s n mk g q) (hW : Wf T cn K N I R d) (tm : T m = 15) (hS : St T cn K N d' wik_X12_seed wrk_X12_seed I R I' R) (hc : Cs_X12_seed T I R m x1 v I' R) (b1 : 0 ≤ s 1 ∧ s 1 ≤ 6) :
    (v.toInt = 0 ∧ ¬ (ha = 1 ∧ 0 ≤ x1.toInt ∧ x1.toInt ≤ 65536) ∧ MVw I' R m ha c E s n mk g q) ∨ (v.toInt = 1 ∧ (ha = 1 ∧ 0 ≤ x1.toInt ∧ x1.toInt ≤ 65536) ∧ MVw I' R m ha c E (fun c => if c = 2 then x1.toInt else s c) n mk g q) := by
  have e4 : ∀ a j, R14 (T a) → I' a j = I a j := fun a j ta => by
    rcases ta with ta | ta
    · exact hS.cell ta (wm_no (by decide +kernel))
    · exact hS.2.1 a j (wm_p (p := fun r => !(rdm r)) (by decide +kernel) (by rw [ta]; rfl))
  have nb := h.nb hW tm
  have h0 := h
  obtain ⟨w, p, k, p1, p2, p3, hav, hs, hn, hm, hp, hq⟩ := h0
  have s0 := hs.1 0 (by exact om_d64e39d1)
  have s1 := hs.1 1 (by exact om_8d289ac2)
  have s2 := hs.1 2 (by exact om_9caba31f)
  rcases hc with ⟨a1, a2, a3, -⟩ | ⟨a1, a2, a3, a4, -⟩ | ⟨a1, a2, a3, a4, a5, a6, a7, a8, -⟩
  · have z := h.ha0 a2
    exact Or.inl ⟨a1, fun y => by exact om_84cf5bf8 z y.1, h.sm hW tm a3 e4⟩
  · exact Or.inl ⟨a2, fun z => by exact om_b2ec4fcf a1 z.2.2 z.2.1, h.sm hW tm a4 e4⟩
  · obtain ⟨z, -⟩ := h.ha1 a7
    refine Or.inr ⟨a3, ⟨z, a1, a2⟩, ?_⟩
    refine h.bk hW tm (Int.le_refl _) (by rw [hS.cell tm (by decide +kernel)]; exact hn) (hS.cell tm (by decide +kernel)) (fun a j ta => ?_) (fun w2 p2' k2 hw2 _ _ ht _ _ => ?_)
    · rcases ta with ta | ta | ta
      · exact e4 a j ta
      · exact hS.cell ta (wm_no (by decide +kernel))
      · exact hS.cell ta (wm_no (by decide +kernel))
    · obtain rfl := Option.some.inj (p1.symm.trans hw2)
      exact ht.w3 (a8 _ p1) (by show _ = s 0; have := a5 _ p1; exact om_9fa72578 s0 this) (by show _ = s 1; have := a6 _ p1; exact om_9fa72578 s1 this) (a4 _ p1) (Int.le_refl _) (fun c hc => if_neg (by exact om_30c0316b hc))
theorem m_undo (h : MVw I R m ha c E s n mk g q) (hW : Wf T cn K N I R d) (tm : T m = 15) (hS : St T cn K N d' wik_X12_undo wrk_X12_undo I R I' R) (hc : Cs_X12_undo T I R m v I' R) (b1 : 0 ≤ s 1 ∧ s 1 ≤ 6) :
    (v.toInt = 0 ∧ ¬ (ha = 1 ∧ 1 ≤ n) ∧ MVw I' R m ha c E s n mk g q) ∨ (v.toInt = 1 ∧ (ha = 1 ∧ 1 ≤ n) ∧ MVw I' R m ha c E (g (n - 1).toNat) (n - 1) mk g q) := by
  have e4 : ∀ a j, R14 (T a) → I' a j = I a j := fun a j ta => by
    rcases ta with ta | ta
    · exact hS.cell ta (wm_no (by decide +kernel))
    · exact hS.2.1 a j (wm_p (p := fun r => !(rdm r)) (by decide +kernel) (by rw [ta]; rfl))
  have nb := h.nb hW tm
  have h0 := h
  obtain ⟨w, p, k, p1, p2, p3, hav, hs, hn, hm, hp, hq⟩ := h0
  have s0 := hs.1 0 (by exact om_d64e39d1)
  have s1 := hs.1 1 (by exact om_8d289ac2)
  have s2 := hs.1 2 (by exact om_9caba31f)
  rcases hc with ⟨a1, a2, a3, -⟩ | ⟨a1, a2, a3, a4, -⟩ | ⟨a1, a2, a3, a4, a5, -⟩
  · have z := h.ha0 a2
    exact Or.inl ⟨a1, fun y => by exact om_84cf5bf8 z y.1, h.sm hW tm a3 e4⟩
  · exact Or.inl ⟨a2, fun z => by exact om_86655873 hn a1 z.2, h.sm hW tm a4 e4⟩
  · obtain ⟨z, -⟩ := h.ha1 a4
    refine Or.inr ⟨a2, ⟨z, by exact om_3791bbcc nb.1.2 nb.1.1 hn a1 a3⟩, ?_⟩
    refine h.bk hW tm (by exact om_c492fd21) (by exact om_6d0757a2 hn a3) (hS.cell tm (by decide +kernel)) (fun a j ta => ?_) (fun w2 p2' k2 hw2 hp2 _ _ gp _ => ?_)
    · rcases ta with ta | ta | ta
      · exact e4 a j ta
      · exact hS.cell ta (wm_no (by decide +kernel))
      · exact hS.cell ta (wm_no (by decide +kernel))
    · obtain rfl := Option.some.inj (p1.symm.trans hw2)
      obtain rfl := Option.some.inj (p2.symm.trans hp2)
      exact (gp (n - 1).toNat (by exact om_c799b6f5 nb.1.2 nb.1.1 hn a1 a3)).eq (fun c hc => by rw [a5 _ _ p1 p2 c hc, hn])
theorem m_back (h : MVw I R m ha c E s n mk g q) (hW : Wf T cn K N I R d) (tm : T m = 15) (hS : St T cn K N d' wik_X12_back wrk_X12_back I R I' R) (hc : Cs_X12_back T I R m x1 v I' R) (b1 : 0 ≤ s 1 ∧ s 1 ≤ 6) :
    (v.toInt = 0 ∧ ¬ (ha = 1 ∧ 0 ≤ x1.toInt ∧ x1.toInt < mk) ∧ MVw I' R m ha c E s n mk g q) ∨ (v.toInt = 1 ∧ (ha = 1 ∧ 0 ≤ x1.toInt ∧ x1.toInt < mk) ∧ MVw I' R m ha c E (q x1.toInt.toNat) 0 mk g q) := by
  have e4 : ∀ a j, R14 (T a) → I' a j = I a j := fun a j ta => by
    rcases ta with ta | ta
    · exact hS.cell ta (wm_no (by decide +kernel))
    · exact hS.2.1 a j (wm_p (p := fun r => !(rdm r)) (by decide +kernel) (by rw [ta]; rfl))
  have nb := h.nb hW tm
  have h0 := h
  obtain ⟨w, p, k, p1, p2, p3, hav, hs, hn, hm, hp, hq⟩ := h0
  have s0 := hs.1 0 (by exact om_d64e39d1)
  have s1 := hs.1 1 (by exact om_8d289ac2)
  have s2 := hs.1 2 (by exact om_9caba31f)
  rcases hc with ⟨a1, a2, a3, -⟩ | ⟨a1, a2, a3, a4, -⟩ | ⟨a1, a2, a3, a4, a5, a6, -⟩
  · have z := h.ha0 a2
    exact Or.inl ⟨a1, fun y => by exact om_84cf5bf8 z y.1, h.sm hW tm a3 e4⟩
  · exact Or.inl ⟨a2, fun z => by exact om_b29c1280 hm a1 z.2.1 z.2.2, h.sm hW tm a4 e4⟩
  · obtain ⟨z, -⟩ := h.ha1 a5
    refine Or.inr ⟨a3, ⟨z, a1, by exact om_a830ecb4 hm a2⟩, ?_⟩
    refine h.bk hW tm (by exact om_400e841b nb.1.2 nb.1.1 hn) a4 (hS.cell tm (by decide +kernel)) (fun a j ta => ?_) (fun w2 p2' k2 hw2 _ hk2 _ _ gk => ?_)
    · rcases ta with ta | ta | ta
      · exact e4 a j ta
      · exact hS.cell ta (wm_no (by decide +kernel))
      · exact hS.cell ta (wm_no (by decide +kernel))
    · obtain rfl := Option.some.inj (p1.symm.trans hw2)
      obtain rfl := Option.some.inj (p3.symm.trans hk2)
      exact (gk x1.toInt.toNat (by exact om_efcf0d5a hm a1 a2)).eq (fun c hc => by rw [a6 _ _ p1 p3 c hc])
theorem m_mark (h : MVw I R m ha c E s n mk g q) (hW : Wf T cn K N I R d) (tm : T m = 15) (hS : St T cn K N d' wik_X12_mark wrk_X12_mark I R I' R) (hc : Cs_X12_mark T I R m v I' R) (b1 : 0 ≤ s 1 ∧ s 1 ≤ 6) :
    (v.toInt = -1 ∧ ¬ (ha = 1 ∧ mk ≤ 2) ∧ MVw I' R m ha c E s n mk g q) ∨ (v.toInt = mk ∧ (ha = 1 ∧ mk ≤ 2) ∧ MVw I' R m ha c E s n (mk + 1) g (fun i c => if (i : Int) < mk then q i c else s c)) := by
  have e4 : ∀ a j, R14 (T a) → I' a j = I a j := fun a j ta => by
    rcases ta with ta | ta
    · exact hS.cell ta (wm_no (by decide +kernel))
    · exact hS.2.1 a j (wm_p (p := fun r => !(rdm r)) (by decide +kernel) (by rw [ta]; rfl))
  have nb := h.nb hW tm
  have h0 := h
  obtain ⟨w, p, k, p1, p2, p3, hav, hs, hn, hm, hp, hq⟩ := h0
  have s0 := hs.1 0 (by exact om_d64e39d1)
  have s1 := hs.1 1 (by exact om_8d289ac2)
  have s2 := hs.1 2 (by exact om_9caba31f)
  rcases hc with ⟨a1, a2, a3, -⟩ | ⟨a1, a2, a3, a4, -⟩ | ⟨a1, a2, a3, a4, a5, -⟩
  · have z := h.ha0 a2
    exact Or.inl ⟨a1, fun y => by exact om_84cf5bf8 z y.1, h.sm hW tm a3 e4⟩
  · exact Or.inl ⟨a2, fun z => by exact om_d982c077 hm a1 z.2, h.sm hW tm a4 e4⟩
  · obtain ⟨z, -⟩ := h.ha1 a4
    refine Or.inr ⟨by exact om_9fa72578 hm a2, ⟨z, by exact om_7f49cbc5 nb.2.2 nb.2.1 hm a1 a2 a3⟩, ?_⟩
    refine h.mark hW tm (hS.cell tm (by decide +kernel)) (by exact om_e02ef100 hm a2 a3) (fun a j ta => ?_) (fun w2 k2 hw2 hk2 => a5 _ _ hw2 hk2)
    · rcases ta with ta | ta | ta
      · exact e4 a j ta
      · exact hS.cell ta (wm_no (by decide +kernel))
      · exact hS.cell ta (wm_no (by decide +kernel))
end CzVn
