section CzVn
variable {T : Nat → Nat} {cn : Nat} {K N : Nat → Nat} {d d' : Int} {I I' : cz_I} {R : cz_R} {x m : Nat} {ha mi ca n mk : Int} {s : Nat → Int} {g q : Nat → Nat → Int} {v x1 x2 : Int32}
theorem MVw.sm (h : MVw I R m ha mi ca s n mk g q) (hW : Wf T cn K N I R d) (tm : T m = 15) (hm : SmM T I I' m) (e4 : ∀ a j, T a = 14 → I' a j = I a j) : MVw I' R m ha mi ca s n mk g q := h.of hW tm hm.1 hm.2.1 hm.2.2 e4 rfl rfl rfl rfl
theorem MVw.ha0 (h : MVw I R m ha mi ca s n mk g q) (hr : R m 3 = none) : ha = 0 := by
  obtain ⟨w, p, k, -, -, -, ha, -⟩ := h
  rcases ha with ⟨h1, -⟩ | ⟨h1, b, h2, -⟩
  · exact h1
  · rw [hr] at h2; cases h2
theorem MVw.ha1 (h : MVw I R m ha mi ca s n mk g q) (hr : ∃ b, R m 3 = some b) : ha = 1 ∧ ∃ b, R m 3 = some b ∧ (I b 0).toInt = mi ∧ (I b 5).toInt = ca := by
  obtain ⟨w, p, k, -, -, -, ha, -⟩ := h
  obtain ⟨b0, hr⟩ := hr
  rcases ha with ⟨h1, h2, -⟩ | ⟨h1, h2⟩
  · rw [hr] at h2; cases h2
  · exact ⟨h1, h2⟩
theorem kn_of {a b n : Int} (h1 : a < 12 → b = a + 1) (h2 : a ≥ 12 → b = 12) (e : a = n) : b = kn n := by
  subst e; unfold kn; split <;> omega
theorem m_call (h : MVw I R m ha mi ca s n mk g q) (hW : Wf T cn K N I R d) (tm : T m = 15) (hS : St T cn K N d' wik_X12_call wrk_X12_call I R I' R) (hc : Cs_X12_call T I R m x1 x2 v I' R) :
    (v.toInt = 0 ∧ ¬ (ha = 1 ∧ (0 ≤ x1.toInt ∧ x1.toInt < ca ∧ ¬ bt (s 0) x1.toInt = x2.toInt)) ∧ MVw I' R m ha mi ca s n mk g q) ∨ (v.toInt = 1 ∧ (ha = 1 ∧ (0 ≤ x1.toInt ∧ x1.toInt < ca ∧ ¬ bt (s 0) x1.toInt = x2.toInt)) ∧ ∃ z : Int32, z.toInt = s 0 ∧ MVw I' R m ha mi ca (fun c => if c = 0 then (z ^^^ ((1 : Int32) <<< (x1 &&& 31))).toInt else s c) (kn n) mk (kg n g s) q) := by
  have e4 : ∀ a j, T a = 14 → I' a j = I a j := fun a j ta => hS.cell ta (wm_no (by decide +kernel))
  have h0 := h
  obtain ⟨w, p, k, p1, p2, p3, hav, hs, hn, hm, hp, hq⟩ := h0
  have s0 := hs 0 (by exact om_d64e39d1)
  have s1 := hs 1 (by exact om_8d289ac2)
  have s2 := hs 2 (by exact om_9caba31f)
  rcases hc with ⟨a1, a2, a3, -⟩ | ⟨a1, a2, a3, a4, -⟩ | ⟨a1, a2, a3, a4, a5, a6, -⟩ | ⟨a1, a2, a3, a4, a5, a6, a7, a8, a9, b1, b2, -⟩
  · have z := h.ha0 a2
    exact Or.inl ⟨a1, fun y => by exact om_84cf5bf8 z y.1, h.sm hW tm a3 e4⟩
  · obtain ⟨z, b, hb, z0, z5⟩ := h.ha1 a3
    have y := a1 b hb
    exact Or.inl ⟨a2, fun y => by omega, h.sm hW tm a4 e4⟩
  · have y := a3 w p1
    rw [s0] at y
    exact Or.inl ⟨a4, fun z => z.2.2.2 y, h.sm hW tm a6 e4⟩
  · obtain ⟨z, b, hb, z0, z5⟩ := h.ha1 a9
    have y4 := a4 b hb
    have y := a5 w p1
    rw [s0] at y
    refine Or.inr ⟨a6, ⟨z, a3, by exact om_a830ecb4 z5 y4, y⟩, I w 0, s0, ?_⟩
    refine h.keep hW tm b1 (kn_of a1 a2 hn) (hS.cell tm (by decide +kernel)) (fun a j ta => ?_) (fun _ _ => rfl) (fun w2 hw2 _ => ?_)
    · rcases ta with ta | ta
      · exact e4 a j ta
      · exact hS.cell ta (wm_no (by decide +kernel))
    · obtain rfl := Option.some.inj (p1.symm.trans hw2)
      intro c hc
      have z3 : c = 0 ∨ c = 1 ∨ c = 2 := by exact om_af51cf70 hc
      rcases z3 with rfl | rfl | rfl
      · rw [b2 _ p1]; rfl
      · show _ = s 1; have := a7 _ p1; exact om_9fa72578 s1 this
      · show _ = s 2; have := a8 _ p1; exact om_9fa72578 s2 this
theorem m_cloud (h : MVw I R m ha mi ca s n mk g q) (hW : Wf T cn K N I R d) (tm : T m = 15) (hS : St T cn K N d' wik_X12_cloud wrk_X12_cloud I R I' R) (hc : Cs_X12_cloud T I R m x1 x2 v I' R) :
    (v.toInt = 0 ∧ ¬ (ha = 1 ∧ 0 ≤ x1.toInt ∧ x1.toInt < x2.toInt ∧ x2.toInt ≤ mi ∧ s 1 ≤ 5) ∧ MVw I' R m ha mi ca s n mk g q) ∨ (v.toInt = 1 ∧ (ha = 1 ∧ 0 ≤ x1.toInt ∧ x1.toInt < x2.toInt ∧ x2.toInt ≤ mi ∧ s 1 ≤ 5) ∧ MVw I' R m ha mi ca (fun c => if c = 1 then s 1 + 1 else s c) (kn n) mk (kg n g s) q) := by
  have e4 : ∀ a j, T a = 14 → I' a j = I a j := fun a j ta => hS.cell ta (wm_no (by decide +kernel))
  have h0 := h
  obtain ⟨w, p, k, p1, p2, p3, hav, hs, hn, hm, hp, hq⟩ := h0
  have s0 := hs 0 (by exact om_d64e39d1)
  have s1 := hs 1 (by exact om_8d289ac2)
  have s2 := hs 2 (by exact om_9caba31f)
  rcases hc with ⟨a1, a2, a3, -⟩ | ⟨a1, a2, a3, a4, -⟩ | ⟨a1, a2, a3, a4, a5, a6, a7, -⟩ | ⟨a1, a2, a3, a4, a5, a6, a7, a8, a9, b1, b2, b3, -⟩
  · have z := h.ha0 a2
    exact Or.inl ⟨a1, fun y => by exact om_84cf5bf8 z y.1, h.sm hW tm a3 e4⟩
  · obtain ⟨z, b, hb, z0, z5⟩ := h.ha1 a3
    have y := a1 b hb
    exact Or.inl ⟨a2, fun y => by omega, h.sm hW tm a4 e4⟩
  · have y := a4 w p1
    exact Or.inl ⟨a5, fun z => by exact om_2872bc38 s1 y z.2.2.2.2, h.sm hW tm a7 e4⟩
  · obtain ⟨z, b, hb, z0, z5⟩ := h.ha1 b2
    have y4 := a5 b hb
    have y := a6 w p1
    refine Or.inr ⟨a7, ⟨z, a3, a4, by exact om_bde4ffce z0 y4, by exact om_7cba4fb0 s1 y⟩, ?_⟩
    refine h.keep hW tm b3 (kn_of a1 a2 hn) (hS.cell tm (by decide +kernel)) (fun a j ta => ?_) (fun _ _ => rfl) (fun w2 hw2 _ => ?_)
    · rcases ta with ta | ta
      · exact e4 a j ta
      · exact hS.cell ta (wm_no (by decide +kernel))
    · obtain rfl := Option.some.inj (p1.symm.trans hw2)
      intro c hc
      have z3 : c = 0 ∨ c = 1 ∨ c = 2 := by exact om_af51cf70 hc
      rcases z3 with rfl | rfl | rfl
      · show _ = s 0; have := a9 _ p1; exact om_9fa72578 s0 this
      · show _ = s 1 + 1; have := a8 _ p1; exact om_fb59dbab s1 this
      · show _ = s 2; have := b1 _ p1; exact om_9fa72578 s2 this
theorem m_draw (h : MVw I R m ha mi ca s n mk g q) (hW : Wf T cn K N I R d) (tm : T m = 15) (hS : St T cn K N d' wik_X12_draw wrk_X12_draw I R I' R) (hc : Cs_X12_draw T I R m v I' R) :
    (v.toInt = -1 ∧ ¬ (ha = 1 ∧ s 1 ≤ 5) ∧ MVw I' R m ha mi ca s n mk g q) ∨ (v.toInt = dwm (s 2) mi ∧ (ha = 1 ∧ s 1 ≤ 5) ∧ MVw I' R m ha mi ca (fun c => if c = 1 then s 1 + 1 else if c = 2 then dw (dw (s 2)) else s c) (kn n) mk (kg n g s) q) := by
  have e4 : ∀ a j, T a = 14 → I' a j = I a j := fun a j ta => hS.cell ta (wm_no (by decide +kernel))
  have h0 := h
  obtain ⟨w, p, k, p1, p2, p3, hav, hs, hn, hm, hp, hq⟩ := h0
  have s0 := hs 0 (by exact om_d64e39d1)
  have s1 := hs 1 (by exact om_8d289ac2)
  have s2 := hs 2 (by exact om_9caba31f)
  rcases hc with ⟨a1, a2, a3, -⟩ | ⟨a1, a2, a3, a4, -⟩ | ⟨a1, a2, a3, a4, a5, a6, a7, a8, a9, -⟩
  · have z := h.ha0 a2
    exact Or.inl ⟨a1, fun y => by exact om_84cf5bf8 z y.1, h.sm hW tm a3 e4⟩
  · have y := a1 w p1
    exact Or.inl ⟨a2, fun z => by exact om_2872bc38 s1 y z.2, h.sm hW tm a4 e4⟩
  · obtain ⟨z, b, hb, z0, z5⟩ := h.ha1 a8
    have y := a3 w p1
    have y6 := a6 w p1 b hb
    rw [s2, z0] at y6
    refine Or.inr ⟨y6, ⟨z, by exact om_7cba4fb0 s1 y⟩, ?_⟩
    refine h.keep hW tm a9 (kn_of a1 a2 hn) (hS.cell tm (by decide +kernel)) (fun a j ta => ?_) (fun _ _ => rfl) (fun w2 hw2 _ => ?_)
    · rcases ta with ta | ta
      · exact e4 a j ta
      · exact hS.cell ta (wm_no (by decide +kernel))
    · obtain rfl := Option.some.inj (p1.symm.trans hw2)
      intro c hc
      have z3 : c = 0 ∨ c = 1 ∨ c = 2 := by exact om_af51cf70 hc
      rcases z3 with rfl | rfl | rfl
      · show _ = s 0; have := a7 _ p1; exact om_9fa72578 s0 this
      · show _ = s 1 + 1; have := a4 _ p1; exact om_fb59dbab s1 this
      · have z := a5 _ p1; rw [s2] at z; exact z
theorem m_lift (h : MVw I R m ha mi ca s n mk g q) (hW : Wf T cn K N I R d) (tm : T m = 15) (hS : St T cn K N d' wik_X12_lift wrk_X12_lift I R I' R) (hc : Cs_X12_lift T I R m v I' R) :
    (v.toInt = 0 ∧ ¬ (ha = 1 ∧ 1 ≤ s 1) ∧ MVw I' R m ha mi ca s n mk g q) ∨ (v.toInt = 1 ∧ (ha = 1 ∧ 1 ≤ s 1) ∧ MVw I' R m ha mi ca (fun c => if c = 1 then s 1 - 1 else s c) (kn n) mk (kg n g s) q) := by
  have e4 : ∀ a j, T a = 14 → I' a j = I a j := fun a j ta => hS.cell ta (wm_no (by decide +kernel))
  have h0 := h
  obtain ⟨w, p, k, p1, p2, p3, hav, hs, hn, hm, hp, hq⟩ := h0
  have s0 := hs 0 (by exact om_d64e39d1)
  have s1 := hs 1 (by exact om_8d289ac2)
  have s2 := hs 2 (by exact om_9caba31f)
  rcases hc with ⟨a1, a2, a3, -⟩ | ⟨a1, a2, a3, a4, -⟩ | ⟨a1, a2, a3, a4, a5, a6, a7, a8, a9, -⟩
  · have z := h.ha0 a2
    exact Or.inl ⟨a1, fun y => by exact om_84cf5bf8 z y.1, h.sm hW tm a3 e4⟩
  · have y := a1 w p1
    exact Or.inl ⟨a2, fun z => by exact om_86655873 s1 y z.2, h.sm hW tm a4 e4⟩
  · obtain ⟨z, b, hb, z0, z5⟩ := h.ha1 a8
    have y := a3 w p1
    refine Or.inr ⟨a4, ⟨z, by exact om_bc0dfdff s1 y⟩, ?_⟩
    refine h.keep hW tm a9 (kn_of a1 a2 hn) (hS.cell tm (by decide +kernel)) (fun a j ta => ?_) (fun _ _ => rfl) (fun w2 hw2 _ => ?_)
    · rcases ta with ta | ta
      · exact e4 a j ta
      · exact hS.cell ta (wm_no (by decide +kernel))
    · obtain rfl := Option.some.inj (p1.symm.trans hw2)
      intro c hc
      have z3 : c = 0 ∨ c = 1 ∨ c = 2 := by exact om_af51cf70 hc
      rcases z3 with rfl | rfl | rfl
      · show _ = s 0; have := a6 _ p1; exact om_9fa72578 s0 this
      · show _ = s 1 - 1; have := a5 _ p1; exact om_6d0757a2 s1 this
      · show _ = s 2; have := a7 _ p1; exact om_9fa72578 s2 this
theorem m_seed (h : MVw I R m ha mi ca s n mk g q) (hW : Wf T cn K N I R d) (tm : T m = 15) (hS : St T cn K N d' wik_X12_seed wrk_X12_seed I R I' R) (hc : Cs_X12_seed T I R m x1 v I' R) :
    (v.toInt = 0 ∧ ¬ (ha = 1 ∧ 0 ≤ x1.toInt ∧ x1.toInt ≤ 65536) ∧ MVw I' R m ha mi ca s n mk g q) ∨ (v.toInt = 1 ∧ (ha = 1 ∧ 0 ≤ x1.toInt ∧ x1.toInt ≤ 65536) ∧ MVw I' R m ha mi ca (fun c => if c = 2 then x1.toInt else s c) n mk g q) := by
  have e4 : ∀ a j, T a = 14 → I' a j = I a j := fun a j ta => hS.cell ta (wm_no (by decide +kernel))
  have h0 := h
  obtain ⟨w, p, k, p1, p2, p3, hav, hs, hn, hm, hp, hq⟩ := h0
  have s0 := hs 0 (by exact om_d64e39d1)
  have s1 := hs 1 (by exact om_8d289ac2)
  have s2 := hs 2 (by exact om_9caba31f)
  rcases hc with ⟨a1, a2, a3, -⟩ | ⟨a1, a2, a3, a4, -⟩ | ⟨a1, a2, a3, a4, a5, a6, a7, -⟩
  · have z := h.ha0 a2
    exact Or.inl ⟨a1, fun y => by exact om_84cf5bf8 z y.1, h.sm hW tm a3 e4⟩
  · exact Or.inl ⟨a2, fun z => by exact om_b2ec4fcf a1 z.2.2 z.2.1, h.sm hW tm a4 e4⟩
  · obtain ⟨z, -⟩ := h.ha1 a7
    refine Or.inr ⟨a3, ⟨z, a1, a2⟩, ?_⟩
    refine h.bk hW tm (Int.le_refl _) (by rw [hS.cell tm (by decide +kernel)]; exact hn) (hS.cell tm (by decide +kernel)) (fun a j ta => ?_) (fun _ _ => rfl) (fun w2 p2' k2 hw2 _ _ => ?_)
    · rcases ta with ta | ta | ta
      · exact e4 a j ta
      · exact hS.cell ta (wm_no (by decide +kernel))
      · exact hS.cell ta (wm_no (by decide +kernel))
    · obtain rfl := Option.some.inj (p1.symm.trans hw2)
      intro c hc
      have z3 : c = 0 ∨ c = 1 ∨ c = 2 := by exact om_af51cf70 hc
      rcases z3 with rfl | rfl | rfl
      · show _ = s 0; have := a5 _ p1; exact om_9fa72578 s0 this
      · show _ = s 1; have := a6 _ p1; exact om_9fa72578 s1 this
      · exact a4 _ p1
theorem m_undo (h : MVw I R m ha mi ca s n mk g q) (hW : Wf T cn K N I R d) (tm : T m = 15) (hS : St T cn K N d' wik_X12_undo wrk_X12_undo I R I' R) (hc : Cs_X12_undo T I R m v I' R) :
    (v.toInt = 0 ∧ ¬ (ha = 1 ∧ 1 ≤ n) ∧ MVw I' R m ha mi ca s n mk g q) ∨ (v.toInt = 1 ∧ (ha = 1 ∧ 1 ≤ n) ∧ MVw I' R m ha mi ca (g (n - 1).toNat) (n - 1) mk g q) := by
  have e4 : ∀ a j, T a = 14 → I' a j = I a j := fun a j ta => hS.cell ta (wm_no (by decide +kernel))
  have h0 := h
  obtain ⟨w, p, k, p1, p2, p3, hav, hs, hn, hm, hp, hq⟩ := h0
  have s0 := hs 0 (by exact om_d64e39d1)
  have s1 := hs 1 (by exact om_8d289ac2)
  have s2 := hs 2 (by exact om_9caba31f)
  rcases hc with ⟨a1, a2, a3, -⟩ | ⟨a1, a2, a3, a4, -⟩ | ⟨a1, a2, a3, a4, a5, -⟩
  · have z := h.ha0 a2
    exact Or.inl ⟨a1, fun y => by exact om_84cf5bf8 z y.1, h.sm hW tm a3 e4⟩
  · exact Or.inl ⟨a2, fun z => by exact om_86655873 hn a1 z.2, h.sm hW tm a4 e4⟩
  · obtain ⟨z, -⟩ := h.ha1 a4
    refine Or.inr ⟨a2, ⟨z, by exact om_7b860610 hn a1 a3⟩, ?_⟩
    refine h.bk hW tm (by exact om_c492fd21) (by exact om_6d0757a2 hn a3) (hS.cell tm (by decide +kernel)) (fun a j ta => ?_) (fun _ _ => rfl) (fun w2 p2' k2 hw2 hp2 _ => ?_)
    · rcases ta with ta | ta | ta
      · exact e4 a j ta
      · exact hS.cell ta (wm_no (by decide +kernel))
      · exact hS.cell ta (wm_no (by decide +kernel))
    · obtain rfl := Option.some.inj (p1.symm.trans hw2)
      obtain rfl := Option.some.inj (p2.symm.trans hp2)
      intro c hc
      rw [a5 _ _ p1 p2 c (by exact om_e72fde65 hc), hn]
      exact hp (n - 1).toNat c (by exact om_79b60e4f hn a1 a3) hc
theorem m_back (h : MVw I R m ha mi ca s n mk g q) (hW : Wf T cn K N I R d) (tm : T m = 15) (hS : St T cn K N d' wik_X12_back wrk_X12_back I R I' R) (hc : Cs_X12_back T I R m x1 v I' R) :
    (v.toInt = 0 ∧ ¬ (ha = 1 ∧ 0 ≤ x1.toInt ∧ x1.toInt < mk) ∧ MVw I' R m ha mi ca s n mk g q) ∨ (v.toInt = 1 ∧ (ha = 1 ∧ 0 ≤ x1.toInt ∧ x1.toInt < mk) ∧ MVw I' R m ha mi ca (q x1.toInt.toNat) 0 mk g q) := by
  have e4 : ∀ a j, T a = 14 → I' a j = I a j := fun a j ta => hS.cell ta (wm_no (by decide +kernel))
  have h0 := h
  obtain ⟨w, p, k, p1, p2, p3, hav, hs, hn, hm, hp, hq⟩ := h0
  have s0 := hs 0 (by exact om_d64e39d1)
  have s1 := hs 1 (by exact om_8d289ac2)
  have s2 := hs 2 (by exact om_9caba31f)
  have nb := h.nb hW tm
  rcases hc with ⟨a1, a2, a3, -⟩ | ⟨a1, a2, a3, a4, -⟩ | ⟨a1, a2, a3, a4, a5, a6, -⟩
  · have z := h.ha0 a2
    exact Or.inl ⟨a1, fun y => by exact om_84cf5bf8 z y.1, h.sm hW tm a3 e4⟩
  · exact Or.inl ⟨a2, fun z => by exact om_b29c1280 hm a1 z.2.1 z.2.2, h.sm hW tm a4 e4⟩
  · obtain ⟨z, -⟩ := h.ha1 a5
    refine Or.inr ⟨a3, ⟨z, a1, by exact om_a830ecb4 hm a2⟩, ?_⟩
    refine h.bk hW tm (by exact om_c59a7fde nb.1.2 nb.1.1) a4 (hS.cell tm (by decide +kernel)) (fun a j ta => ?_) (fun _ _ => rfl) (fun w2 p2' k2 hw2 _ hk2 => ?_)
    · rcases ta with ta | ta | ta
      · exact e4 a j ta
      · exact hS.cell ta (wm_no (by decide +kernel))
      · exact hS.cell ta (wm_no (by decide +kernel))
    · obtain rfl := Option.some.inj (p1.symm.trans hw2)
      obtain rfl := Option.some.inj (p3.symm.trans hk2)
      intro c hc
      rw [a6 _ _ p1 p3 c (by exact om_e72fde65 hc)]
      exact hq x1.toInt.toNat c (by exact om_efcf0d5a hm a1 a2) hc
theorem m_mark (h : MVw I R m ha mi ca s n mk g q) (hW : Wf T cn K N I R d) (tm : T m = 15) (hS : St T cn K N d' wik_X12_mark wrk_X12_mark I R I' R) (hc : Cs_X12_mark T I R m v I' R) :
    (v.toInt = -1 ∧ ¬ (ha = 1 ∧ mk ≤ 2) ∧ MVw I' R m ha mi ca s n mk g q) ∨ (v.toInt = mk ∧ (ha = 1 ∧ mk ≤ 2) ∧ MVw I' R m ha mi ca s n (mk + 1) g (fun i c => if (i : Int) < mk then q i c else s c)) := by
  have e4 : ∀ a j, T a = 14 → I' a j = I a j := fun a j ta => hS.cell ta (wm_no (by decide +kernel))
  have h0 := h
  obtain ⟨w, p, k, p1, p2, p3, hav, hs, hn, hm, hp, hq⟩ := h0
  have s0 := hs 0 (by exact om_d64e39d1)
  have s1 := hs 1 (by exact om_8d289ac2)
  have s2 := hs 2 (by exact om_9caba31f)
  rcases hc with ⟨a1, a2, a3, -⟩ | ⟨a1, a2, a3, a4, -⟩ | ⟨a1, a2, a3, a4, a5, -⟩
  · have z := h.ha0 a2
    exact Or.inl ⟨a1, fun y => by exact om_84cf5bf8 z y.1, h.sm hW tm a3 e4⟩
  · exact Or.inl ⟨a2, fun z => by exact om_d982c077 hm a1 z.2, h.sm hW tm a4 e4⟩
  · obtain ⟨z, -⟩ := h.ha1 a4
    refine Or.inr ⟨by exact om_9fa72578 hm a2, ⟨z, by exact om_4ac10099 hm a1 a2 a3⟩, ?_⟩
    refine h.mark hW tm (hS.cell tm (by decide +kernel)) (by exact om_e02ef100 hm a2 a3) (fun a j ta => ?_) (fun _ _ => rfl) (fun w2 k2 hw2 hk2 => a5 _ _ hw2 hk2)
    · rcases ta with ta | ta | ta
      · exact e4 a j ta
      · exact hS.cell ta (wm_no (by decide +kernel))
      · exact hS.cell ta (wm_no (by decide +kernel))
theorem m_nights (h : MVw I R m ha mi ca s n mk g q) (hW : Wf T cn K N I R d) (tm : T m = 15) (hS : St T cn K N d' wik_X12_nights wrk_X12_nights I R I' R) (hr : ∀ w, R m 16 = some w → ∀ c : Nat, c < 15 → I' w c = I w c) : MVw I' R m ha mi ca s n mk g q := by
  obtain ⟨w, p, k, p1, p2, p3, hav, hs, hn, hm, hp, hq⟩ := h
  have tp : T p = 78 := hW.rs tm rfl rfl p2
  have tk : T k = 79 := hW.rs tm rfl rfl p3
  refine ⟨w, p, k, p1, p2, p3, hav.kp rfl (fun b hb => ?_), fun c hc => by rw [hr w p1 c (by exact om_e72fde65 hc)]; exact hs c hc, by rw [hS.cell tm (by decide +kernel)]; exact hn, by rw [hS.cell tm (by decide +kernel)]; exact hm, fun i c hi hc => by rw [hS.cell tp (wm_no (by decide +kernel))]; exact hp i c hi hc, fun i c hi hc => by rw [hS.cell tk (wm_no (by decide +kernel))]; exact hq i c hi hc⟩
  have tb : T b = 14 := hW.rsN tm rfl hb
  exact ⟨hS.cell tb (wm_no (by decide +kernel)), hS.cell tb (wm_no (by decide +kernel))⟩
end CzVn
