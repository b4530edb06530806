/-! ===== the acts, as the views see them ===== -/
section CzVc
variable {T : Nat → Nat} {cn : Nat} {K N : Nat → Nat} {d d' : Int} {I I' : cz_I} {R R' : cz_R} {x m : Nat} {ha mi ca n mk : Int} {s : Nat → Int} {g q : Nat → Nat → Int} {v x1 x2 : Int32}
theorem c_call (h : CVw I R x ha mi ca s n mk g q) (hW : Wf T cn K N I R d) (tx : T x = 1) (hS : St T cn K N d' wik_X10_call wrk_X10_call I R I' R') (hc : Cs_X10_call T I R x x1 x2 v I' R') :
    (v.toInt = 0 ∧ ¬ (0 ≤ x1.toInt ∧ x1.toInt < ca ∧ ¬ bt (s 0) x1.toInt = x2.toInt) ∧ CVw I' R' x ha mi ca s n mk g q) ∨ (v.toInt = 1 ∧ (0 ≤ x1.toInt ∧ x1.toInt < ca ∧ ¬ bt (s 0) x1.toInt = x2.toInt) ∧ ∃ z : Int32, z.toInt = s 0 ∧ CVw I' R' x ha mi ca (fun c => if c = 0 then (z ^^^ ((1 : Int32) <<< (x1 &&& 31))).toInt else s c) (kn n) mk (kg n g s) q) := by
  have e1 : I' x 5 = I x 5 := hS.cell tx (by decide +kernel)
  have e2 : ∀ a j, T a = 2 → I' a j = I a j := fun a j ta => hS.cell ta (wm_no (by decide +kernel))
  have h0 := h
  obtain ⟨al, dr, nw, pa, A, B, hp, ⟨s1, s2, s3, ⟨t0, t1, t2⟩, s5, s6⟩, -⟩ := h0
  obtain ⟨-, -, tnw, -, -, -⟩ := hp.ro hW tx
  obtain ⟨p1, p2, p3, p4, p5, p6, p7⟩ := hp
  rcases hc with ⟨a1, a2, a3, -⟩ | ⟨a1, a2, a3, a4, a5, -⟩ | ⟨a1, a2, a3, a4, a5, a6, -⟩
  · have z := a1 al p1
    exact Or.inl ⟨a2, fun y => by exact om_8cd11a1a s3 z y.2.2 y.1 y.2.1, h.sm hW tx a3 e1 e2⟩
  · have z := a3 nw p4
    rw [t0] at z
    exact Or.inl ⟨a4, fun y => y.2.2 z, h.sm hW tx a5 e1 e2⟩
  · have z1 := a2 al p1
    have z := a3 nw p4
    rw [t0] at z
    refine Or.inr ⟨a4, ⟨a1, by exact om_a830ecb4 s3 z1, z⟩, I nw 0, t0, ?_⟩
    refine h.keep hW tx a5 e1 e2 (fun a ta => hS.cell ta (by decide +kernel)) (fun a j ta => ?_) (fun nw2 hn ht => ?_)
    · rcases ta with ta | ta | ta
      · exact hS.rcell ta (wm_no (by decide +kernel))
      · exact hS.rcell ta (wm_no (by decide +kernel))
      · exact hS.rcell ta (wm_no (by decide +kernel))
    · obtain rfl := Option.some.inj (p4.symm.trans hn)
      refine ⟨?_, ?_, ?_⟩
      · rw [a6 _ p4]; rfl
      · rw [hS.cell tnw (by decide +kernel)]; exact t1
      · rw [hS.cell tnw (by decide +kernel)]; exact t2
theorem c_cloud (h : CVw I R x ha mi ca s n mk g q) (hW : Wf T cn K N I R d) (tx : T x = 1) (hS : St T cn K N d' wik_X10_cloud wrk_X10_cloud I R I' R') (hc : Cs_X10_cloud T I R x x1 x2 v I' R') :
    (v.toInt = 0 ∧ ¬ (ha = 1 ∧ 0 ≤ x1.toInt ∧ x1.toInt < x2.toInt ∧ x2.toInt ≤ mi ∧ s 1 ≤ 5) ∧ CVw I' R' x ha mi ca s n mk g q) ∨ (v.toInt = 1 ∧ (ha = 1 ∧ 0 ≤ x1.toInt ∧ x1.toInt < x2.toInt ∧ x2.toInt ≤ mi ∧ s 1 ≤ 5) ∧ CVw I' R' x ha mi ca (fun c => if c = 1 then s 1 + 1 else s c) (kn n) mk (kg n g s) q) := by
  have e1 : I' x 5 = I x 5 := hS.cell tx (by decide +kernel)
  have e2 : ∀ a j, T a = 2 → I' a j = I a j := fun a j ta => hS.cell ta (wm_no (by decide +kernel))
  have h0 := h
  obtain ⟨al, dr, nw, pa, A, B, hp, ⟨s1, s2, s3, ⟨t0, t1, t2⟩, s5, s6⟩, -⟩ := h0
  obtain ⟨-, -, tnw, -, -, -⟩ := hp.ro hW tx
  obtain ⟨p1, p2, p3, p4, p5, p6, p7⟩ := hp
  rcases hc with ⟨a1, a2, a3, -⟩ | ⟨a1, a2, a3, a4, -⟩ | ⟨a1, a2, a3, a4, a5, a6, a7, -⟩ | ⟨a1, a2, a3, a4, a5, a6, a7, a8, -⟩
  · exact Or.inl ⟨a2, fun y => by exact om_1234963b s1 a1 y.1, h.sm hW tx a3 e1 e2⟩
  · have z := a2 al p1
    exact Or.inl ⟨a3, fun y => by exact om_7b9356e8 s2 z y.2.1 y.2.2.2.1 y.2.2.1, h.sm hW tx a4 e1 e2⟩
  · have z := a5 nw p4
    exact Or.inl ⟨a6, fun y => by exact om_e1642b1c t1 z y.2.2.2.2, h.sm hW tx a7 e1 e2⟩
  · have z1 := a4 al p1
    have z := a5 nw p4
    refine Or.inr ⟨a6, ⟨by exact om_bd8e519c s1 a1, a2, a3, by exact om_bde4ffce s2 z1, by exact om_7cba4fb0 t1 z⟩, ?_⟩
    refine h.keep hW tx a8 e1 e2 (fun a ta => hS.cell ta (by decide +kernel)) (fun a j ta => ?_) (fun nw2 hn ht => ?_)
    · rcases ta with ta | ta | ta
      · exact hS.rcell ta (wm_no (by decide +kernel))
      · exact hS.rcell ta (wm_no (by decide +kernel))
      · exact hS.rcell ta (wm_no (by decide +kernel))
    · obtain rfl := Option.some.inj (p4.symm.trans hn)
      have y := a7 _ ((hS.rcell tx (by decide +kernel)).trans p4) _ p4
      refine ⟨?_, ?_, ?_⟩
      · rw [hS.cell tnw (by decide +kernel)]; exact t0
      · show _ = s 1 + 1
        exact om_fb59dbab t1 y
      · rw [hS.cell tnw (by decide +kernel)]; exact t2
theorem c_draw (h : CVw I R x ha mi ca s n mk g q) (hW : Wf T cn K N I R d) (tx : T x = 1) (hS : St T cn K N d' wik_X10_draw wrk_X10_draw I R I' R') (hc : Cs_X10_draw T I R x v I' R') :
    (v.toInt = -1 ∧ ¬ (ha = 1 ∧ s 1 ≤ 5) ∧ CVw I' R' x ha mi ca s n mk g q) ∨ (v.toInt = dwm (s 2) mi ∧ (ha = 1 ∧ s 1 ≤ 5) ∧ CVw I' R' x ha mi ca (fun c => if c = 1 then s 1 + 1 else if c = 2 then dw (dw (s 2)) else s c) (kn n) mk (kg n g s) q) := by
  have e1 : I' x 5 = I x 5 := hS.cell tx (by decide +kernel)
  have e2 : ∀ a j, T a = 2 → I' a j = I a j := fun a j ta => hS.cell ta (wm_no (by decide +kernel))
  have h0 := h
  obtain ⟨al, dr, nw, pa, A, B, hp, ⟨s1, s2, s3, ⟨t0, t1, t2⟩, s5, s6⟩, -⟩ := h0
  obtain ⟨-, -, tnw, -, -, -⟩ := hp.ro hW tx
  obtain ⟨p1, p2, p3, p4, p5, p6, p7⟩ := hp
  rcases hc with ⟨a1, a2, a3, -⟩ | ⟨a1, a2, a3, a4, -⟩ | ⟨a1, a2, a3, a4, a5, a6, -⟩
  · exact Or.inl ⟨a2, fun y => by exact om_1234963b s1 a1 y.1, h.sm hW tx a3 e1 e2⟩
  · have z := a2 nw p4
    exact Or.inl ⟨a3, fun y => by exact om_e1642b1c t1 z y.2, h.sm hW tx a4 e1 e2⟩
  · have z := a2 nw p4
    have z5 := a5 nw p4 al p1
    rw [t2, s2] at z5
    refine Or.inr ⟨z5, ⟨by exact om_bd8e519c s1 a1, by exact om_7cba4fb0 t1 z⟩, ?_⟩
    refine h.keep hW tx a6 e1 e2 (fun a ta => hS.cell ta (by decide +kernel)) (fun a j ta => ?_) (fun nw2 hn ht => ?_)
    · rcases ta with ta | ta | ta
      · exact hS.rcell ta (wm_no (by decide +kernel))
      · exact hS.rcell ta (wm_no (by decide +kernel))
      · exact hS.rcell ta (wm_no (by decide +kernel))
    · obtain rfl := Option.some.inj (p4.symm.trans hn)
      have y := a3 _ ((hS.rcell tx (by decide +kernel)).trans p4) _ p4
      have y2 := a4 _ ((hS.rcell tx (by decide +kernel)).trans p4) _ p4
      rw [t2] at y2
      refine ⟨?_, ?_, y2⟩
      · rw [hS.cell tnw (by decide +kernel)]; exact t0
      · show _ = s 1 + 1
        exact om_fb59dbab t1 y
theorem c_lift (h : CVw I R x ha mi ca s n mk g q) (hW : Wf T cn K N I R d) (tx : T x = 1) (hS : St T cn K N d' wik_X10_lift wrk_X10_lift I R I' R') (hc : Cs_X10_lift T I R x v I' R') :
    (v.toInt = 0 ∧ s 1 = 0 ∧ CVw I' R' x ha mi ca s n mk g q) ∨ (v.toInt = 1 ∧ 1 ≤ s 1 ∧ CVw I' R' x ha mi ca (fun c => if c = 1 then s 1 - 1 else s c) (kn n) mk (kg n g s) q) := by
  have e1 : I' x 5 = I x 5 := hS.cell tx (by decide +kernel)
  have e2 : ∀ a j, T a = 2 → I' a j = I a j := fun a j ta => hS.cell ta (wm_no (by decide +kernel))
  have h0 := h
  obtain ⟨al, dr, nw, pa, A, B, hp, ⟨s1, s2, s3, ⟨t0, t1, t2⟩, s5, s6⟩, -⟩ := h0
  obtain ⟨-, -, tnw, -, -, -⟩ := hp.ro hW tx
  obtain ⟨p1, p2, p3, p4, p5, p6, p7⟩ := hp
  rcases hc with ⟨a1, a2, a3, -⟩ | ⟨a1, a2, a3, a4, -⟩
  · have z := a1 nw p4
    exact Or.inl ⟨a2, by exact om_146e4dfc t1 z, h.sm hW tx a3 e1 e2⟩
  · have z := a1 nw p4
    refine Or.inr ⟨a2, by exact om_bc0dfdff t1 z, ?_⟩
    refine h.keep hW tx a4 e1 e2 (fun a ta => hS.cell ta (by decide +kernel)) (fun a j ta => ?_) (fun nw2 hn ht => ?_)
    · rcases ta with ta | ta | ta
      · exact hS.rcell ta (wm_no (by decide +kernel))
      · exact hS.rcell ta (wm_no (by decide +kernel))
      · exact hS.rcell ta (wm_no (by decide +kernel))
    · obtain rfl := Option.some.inj (p4.symm.trans hn)
      have y := a3 _ ((hS.rcell tx (by decide +kernel)).trans p4) _ p4
      refine ⟨?_, ?_, ?_⟩
      · rw [hS.cell tnw (by decide +kernel)]; exact t0
      · show _ = s 1 - 1
        exact om_6d0757a2 t1 y
      · rw [hS.cell tnw (by decide +kernel)]; exact t2
theorem c_seed (h : CVw I R x ha mi ca s n mk g q) (hW : Wf T cn K N I R d) (tx : T x = 1) (hS : St T cn K N d' wik_X10_seed wrk_X10_seed I R I' R) (hc : Cs_X10_seed T I R x x1 v I' R) :
    (v.toInt = 0 ∧ ¬ (ha = 1 ∧ 0 ≤ x1.toInt ∧ x1.toInt ≤ 65536) ∧ CVw I' R x ha mi ca s n mk g q) ∨ (v.toInt = 1 ∧ (ha = 1 ∧ 0 ≤ x1.toInt ∧ x1.toInt ≤ 65536) ∧ CVw I' R x ha mi ca (fun c => if c = 2 then x1.toInt else s c) n mk g q) := by
  have e1 : I' x 5 = I x 5 := hS.cell tx (by decide +kernel)
  have e2 : ∀ a j, T a = 2 → I' a j = I a j := fun a j ta => hS.cell ta (wm_no (by decide +kernel))
  have h0 := h
  obtain ⟨al, dr, nw, pa, A, B, hp, ⟨s1, s2, s3, ⟨t0, t1, t2⟩, s5, s6⟩, -⟩ := h0
  obtain ⟨-, -, tnw, tpa, -, -⟩ := hp.ro hW tx
  obtain ⟨p1, p2, p3, p4, p5, p6, p7⟩ := hp
  rcases hc with ⟨a1, a2, a3, -⟩ | ⟨a1, a2, a3, a4, -⟩ | ⟨a1, a2, a3, a4, a5, -⟩
  · exact Or.inl ⟨a2, fun y => by exact om_1234963b s1 a1 y.1, h.sm hW tx a3 e1 e2⟩
  · exact Or.inl ⟨a3, fun y => by exact om_b2ec4fcf a2 y.2.2 y.2.1, h.sm hW tx a4 e1 e2⟩
  · refine Or.inr ⟨a4, ⟨by exact om_bd8e519c s1 a1, a2, a3⟩, ?_⟩
    refine h.bk hW tx e1 (fun a j ta => ?_) (fun _ _ => rfl) (fun pa2 hp2 z => ?_) (fun a ta => hS.cell ta (by decide +kernel)) (Int.le_refl _) (fun nw2 pa2 A2 B2 hn _ _ _ => ?_)
    · rcases ta with ta | ta
      · exact e2 a j ta
      · exact hS.cell ta (wm_no (by decide +kernel))
    · obtain rfl := Option.some.inj (p5.symm.trans hp2)
      rw [hS.cell tpa (by decide +kernel)]; exact z
    · obtain rfl := Option.some.inj (p4.symm.trans hn)
      refine ⟨?_, ?_, a5 _ p4⟩
      · rw [hS.cell tnw (by decide +kernel)]; exact t0
      · rw [hS.cell tnw (by decide +kernel)]; exact t1
theorem c_undo (h : CVw I R x ha mi ca s n mk g q) (hW : Wf T cn K N I R d) (tx : T x = 1) (hS : St T cn K N d' wik_X10_undo wrk_X10_undo I R I' R) (hc : Cs_X10_undo T I R x v I' R) :
    (v.toInt = 0 ∧ n = 0 ∧ CVw I' R x ha mi ca s n mk g q) ∨ (v.toInt = 1 ∧ 1 ≤ n ∧ CVw I' R x ha mi ca (g (n - 1).toNat) (n - 1) mk g q) := by
  have nb := h.nb hW tx
  have e1 : I' x 5 = I x 5 := hS.cell tx (by decide +kernel)
  have e2 : ∀ a j, T a = 2 → I' a j = I a j := fun a j ta => hS.cell ta (wm_no (by decide +kernel))
  have h0 := h
  obtain ⟨al, dr, nw, pa, A, B, hp, ⟨s1, s2, s3, ⟨t0, t1, t2⟩, s5, s6⟩, hA, -⟩ := h0
  obtain ⟨-, -, tnw, tpa, tA, -⟩ := hp.ro hW tx
  obtain ⟨p1, p2, p3, p4, p5, p6, p7⟩ := hp
  rcases hc with ⟨a1, a2, a3, -⟩ | ⟨a1, a2, a3, a4, -⟩
  · have z := a1 pa p5
    exact Or.inl ⟨a2, by exact om_146e4dfc s5 z, h.sm hW tx a3 e1 e2⟩
  · have z := a1 pa p5
    refine Or.inr ⟨a2, by exact om_1f437858 nb.1.2 nb.1.1 s5 z, ?_⟩
    refine h.bk hW tx e1 (fun a j ta => ?_) (fun _ _ => rfl) (fun pa2 hp2 y => ?_) (fun a ta => hS.cell ta (by decide +kernel)) (by exact om_c492fd21) (fun nw2 pa2 A2 B2 hn hp2 hA2 _ => ?_)
    · rcases ta with ta | ta
      · exact e2 a j ta
      · exact hS.cell ta (wm_no (by decide +kernel))
    · have := a3 pa2 hp2
      exact om_c592328e s5 y this
    · obtain rfl := Option.some.inj (p4.symm.trans hn)
      obtain rfl := Option.some.inj (p5.symm.trans hp2)
      obtain rfl := Option.some.inj (p6.symm.trans hA2)
      have y := a4 _ _ _ p4 p5 p6
      rw [s5] at y
      obtain ⟨b, hb, tb⟩ := rf33 hW tA (j := (n - 1).toNat) (by exact om_8b52b5b9 nb.1.2 nb.1.1 s5 z)
      obtain ⟨y0, y1, y2⟩ := y b hb
      obtain ⟨w0, w1, w2⟩ := hA (n - 1).toNat (by exact om_964a2275 nb.1.2 nb.1.1 s5 z) b hb
      exact ⟨y0.trans w0, y2.trans w1, y1.trans w2⟩
theorem c_back (h : CVw I R x ha mi ca s n mk g q) (hW : Wf T cn K N I R d) (tx : T x = 1) (hS : St T cn K N d' wik_X10_back wrk_X10_back I R I' R) (hc : Cs_X10_back T I R x x1 v I' R) :
    (v.toInt = 0 ∧ ¬ (0 ≤ x1.toInt ∧ x1.toInt < mk) ∧ CVw I' R x ha mi ca s n mk g q) ∨ (v.toInt = 1 ∧ (0 ≤ x1.toInt ∧ x1.toInt < mk) ∧ CVw I' R x ha mi ca (q x1.toInt.toNat) 0 mk g q) := by
  have nb := h.nb hW tx
  have e1 : I' x 5 = I x 5 := hS.cell tx (by decide +kernel)
  have e2 : ∀ a j, T a = 2 → I' a j = I a j := fun a j ta => hS.cell ta (wm_no (by decide +kernel))
  have h0 := h
  obtain ⟨al, dr, nw, pa, A, B, hp, ⟨s1, s2, s3, ⟨t0, t1, t2⟩, s5, s6⟩, -, hB, -⟩ := h0
  obtain ⟨-, -, tnw, tpa, -, tB⟩ := hp.ro hW tx
  obtain ⟨p1, p2, p3, p4, p5, p6, p7⟩ := hp
  rcases hc with ⟨a1, a2, a3, -⟩ | ⟨a1, a2, a3, a4, a5, -⟩
  · have z := a1 pa p5
    exact Or.inl ⟨a2, fun y => by exact om_b29c1280 s6 z y.1 y.2, h.sm hW tx a3 e1 e2⟩
  · have z := a2 pa p5
    refine Or.inr ⟨a3, ⟨a1, by exact om_a830ecb4 s6 z⟩, ?_⟩
    refine h.bk hW tx e1 (fun a j ta => ?_) (fun _ _ => rfl) (fun pa2 hp2 y => a4 pa2 hp2) (fun a ta => hS.cell ta (by decide +kernel)) (by exact om_400e841b nb.1.2 nb.1.1 s5) (fun nw2 pa2 A2 B2 hn hp2 _ hB2 => ?_)
    · rcases ta with ta | ta
      · exact e2 a j ta
      · exact hS.cell ta (wm_no (by decide +kernel))
    · obtain rfl := Option.some.inj (p4.symm.trans hn)
      obtain rfl := Option.some.inj (p5.symm.trans hp2)
      obtain rfl := Option.some.inj (p7.symm.trans hB2)
      have y := a5 _ _ _ p4 p5 p7
      obtain ⟨b, hb, tb⟩ := rf34 hW tB (j := x1.toInt.toNat) (by exact om_2e594966 nb.2.2 nb.2.1 s6 z)
      obtain ⟨y0, y1, y2⟩ := y b hb
      obtain ⟨w0, w1, w2⟩ := hB x1.toInt.toNat (by exact om_efcf0d5a s6 a1 z) b hb
      exact ⟨y0.trans w0, y2.trans w1, y1.trans w2⟩
theorem c_mark (h : CVw I R x ha mi ca s n mk g q) (hW : Wf T cn K N I R d) (tx : T x = 1) (hS : St T cn K N d' wik_X10_mark wrk_X10_mark I R I' R) (hc : Cs_X10_mark T I R x v I' R) :
    (v.toInt = -1 ∧ ¬ (ha = 1 ∧ mk ≤ 2) ∧ CVw I' R x ha mi ca s n mk g q) ∨ (v.toInt = mk ∧ (ha = 1 ∧ mk ≤ 2) ∧ CVw I' R x ha mi ca s n (mk + 1) g (fun i c => if (i : Int) < mk then q i c else s c)) := by
  have e1 : I' x 5 = I x 5 := hS.cell tx (by decide +kernel)
  have e2 : ∀ a j, T a = 2 → I' a j = I a j := fun a j ta => hS.cell ta (wm_no (by decide +kernel))
  have h0 := h
  obtain ⟨al, dr, nw, pa, A, B, hp, ⟨s1, s2, s3, ⟨t0, t1, t2⟩, s5, s6⟩, -⟩ := h0
  obtain ⟨p1, p2, p3, p4, p5, p6, p7⟩ := hp
  rcases hc with ⟨a1, a2, a3, -⟩ | ⟨a1, a2, a3, a4, -⟩ | ⟨a1, a2, a3, a4, a5, -⟩
  · exact Or.inl ⟨a2, fun y => by exact om_1234963b s1 a1 y.1, h.sm hW tx a3 e1 e2⟩
  · have z := a2 pa p5
    exact Or.inl ⟨a3, fun y => by exact om_d982c077 s6 z y.2, h.sm hW tx a4 e1 e2⟩
  · have z := a2 pa p5
    have z3 := a3 pa p5
    refine Or.inr ⟨by exact om_9fa72578 s6 z3, ⟨by exact om_bd8e519c s1 a1, by exact om_e0b2f9b7 s6 z z3⟩, ?_⟩
    refine h.mark hW tx (by exact om_e0b2f9b7 s6 z z3) e1 (fun a j ta => ?_) (fun _ _ => rfl) (fun a ta => hS.cell ta (by decide +kernel)) (fun pa2 hp2 y => ?_) (fun nw2 pa2 A2 hn hp2 hA2 => a5 _ _ _ hn hp2 hA2)
    · rcases ta with ta | ta
      · exact e2 a j ta
      · exact hS.cell ta (wm_no (by decide +kernel))
    · have := a4 pa2 hp2
      exact om_ba507dbd s6 z3 y this
end CzVc
