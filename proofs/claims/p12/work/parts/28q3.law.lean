section CzSn
variable {T : Nat → Nat} {cn : Nat} {K N : Nat → Nat} {d d' : Int} {wi wr wi' wr' : List Nat} {I I' I8 I9 : cz_I} {R R' R8 R9 : cz_R} {x m : Nat} {ha n mk : Int} {c : Nat → Int} {E X : Nat → Nat → Int} {s s' : Nat → Int} {g q : Nat → Nat → Int} {v8 v9 u1 u2 u3 b8 b9 : Int32}
/-- the class, with its own sky and night -/
def CVn (I : cz_I) (R : cz_R) (x : Nat) (ha : Int) (c : Nat → Int) (E : Nat → Nat → Int) (s : Nat → Int) (n mk : Int) (g q : Nat → Nat → Int) : Prop := CVs I R x ha c E s n mk g q ∧ NgN I R x c E s (XE c E s) ∧ DjN R x
theorem CVn.nb (h : CVn I R x ha c E s n mk g q) (hW : Wf T cn K N I R d) (tx : T x = 1) : (0 ≤ n ∧ n ≤ 12) ∧ 0 ≤ mk ∧ mk ≤ 3 := h.1.nb hW tx
theorem CVn.cab (h : CVn I R x ha c E s n mk g q) (hW : Wf T cn K N I R d) (tx : T x = 1) : 0 ≤ c 5 ∧ c 5 ≤ 6 := h.1.cab hW tx
theorem CVn.s1b (h : CVn I R x ha c E s n mk g q) (hW : Wf T cn K N I R d) (tx : T x = 1) : 0 ≤ s 1 ∧ s 1 ≤ 6 := h.1.s1b hW tx
theorem CVn.ngq (h : CVn I R x ha c E s n mk g q) : NgQ I R x (XE c E s) E c := NgN.qq h.1.1 h.2.1
theorem DjN.kp (h : DjN R x) (hW : Wf T cn K N I9 R d) (tx : T x = 1) (hS : St T cn K N d' wi wr I R I' R') (k2 : okI [13] wr = true) (k5 : wm wr 1 10 = false) (k6 : wm wr 1 14 = false) : DjN R' x := by
  intro a b h10 h14
  rw [hS.rcell tx k5] at h10
  rw [hS.rcell tx k6] at h14
  have ta : T a = 13 := hW.rs tx rfl rfl h10
  have tb : T b = 13 := hW.rs tx rfl rfl h14
  obtain ⟨z1, z2⟩ := h a b h10 h14
  refine ⟨z1, fun k l y k1 k2' l1 l2 hk hl => z2 k l y k1 k2' l1 l2 ?_ ?_⟩
  · rw [← hS.rcell ta (wm_no (okI_at k2 (by decide)))]; exact hk
  · rw [← hS.rcell tb (wm_no (okI_at k2 (by decide)))]; exact hl
theorem CVn.kp (h : CVn I R x ha c E s n mk g q) (hW : Wf T cn K N I R d) (tx : T x = 1) (hS : St T cn K N d' wi wr I R I' R') (c1 : okI [2, 3, 4, 5, 6, 18, 20, 24, 8, 10, 11, 27, 28, 31, 32] wi = true) (c2 : okI [2, 8, 10, 11, 19, 6, 21, 22, 23, 33, 34] wr = true) (c3 : wm wi 1 5 = false) (c4 : wm wr 1 2 = false) (c5 : wm wr 1 3 = false) (c6 : wm wr 1 6 = false) (c7 : wm wr 1 7 = false) (k1 : wi.all (fun z => !(Nat.ble 35 (z / 64) && Nat.ble (z / 64) 42)) = true := by decide +kernel) (k2 : okI [12] wr = true := by decide +kernel) (k3 : wm wi 1 9 = false := by decide +kernel) (k4 : wm wr 1 8 = false := by decide +kernel) (k5 : wm wr 1 13 = false := by decide +kernel) (n1 : wi.all (fun z => !(rdN (z / 64))) = true := by decide +kernel) (n2 : okI [12, 13] wr = true := by decide +kernel) (n3 : wm wi 1 11 = false := by decide +kernel) (n5 : wm wr 1 10 = false := by decide +kernel) (n6 : wm wr 1 14 = false := by decide +kernel) (n7 : okI [13] wr = true := by decide +kernel) : CVn I' R' x ha c E s n mk g q :=
  ⟨h.1.kp hW tx hS c1 c2 c3 c4 c5 c6 c7 k1 k2 k3 k4 k5, h.2.1.st hW tx hS (congrArg Int32.toInt (hS.cell tx k3)) (Or.inl ⟨congrArg Int32.toInt (hS.cell tx n3), rfl⟩) rfl n1 n2 c4 k4 n5, h.2.2.kp hW tx hS n7 n5 n6⟩
/-- a call of the class that asks for sky or night -/
theorem CVn.au (h : CVn I R x ha c E s n mk g q) (hW : Wf T cn K N I R d) (tx : T x = 1) (hS : St T cn K N d' wi wr I R I' R') (hQ : SkQ I' R' x (XE c E s)) (hN : NgQ I' R' x (XE c E s) E c) (c1 : okI [2, 3, 4, 5, 6, 18, 20, 24, 8, 10, 11, 27, 28, 31, 32] wi = true) (c2 : okI [2, 8, 10, 11, 19, 6, 21, 22, 23, 33, 34] wr = true) (c3 : wm wi 1 5 = false) (c4 : wm wr 1 2 = false) (c5 : wm wr 1 3 = false) (c6 : wm wr 1 6 = false) (c7 : wm wr 1 7 = false) (k2 : okI [12] wr = true := by decide +kernel) (k4 : wm wr 1 8 = false := by decide +kernel) (k5 : wm wr 1 13 = false := by decide +kernel) (n1 : wr.all (fun c => Nat.beq (c / 64) 13) = true := by decide +kernel) (n2 : ∀ j : Nat, j < 12 → 3 ≤ j → wm wr 13 j = false := by decide +kernel) : CVn I' R' x ha c E s n mk g q :=
  have z := h.1.au hW tx hS hQ c1 c2 c3 c4 c5 c6 c7 k2 k4 k5
  ⟨z, NgN.of z.1 hN, h.2.2.st hW tx hS n1 n2⟩
/-! the acts -/
theorem cn_cloud (h : CVn I R x ha c E s n mk g q) (hW : Wf T cn K N I R d) (tx : T x = 1) (hS : St T cn K N d' wik_X10_cloud wrk_X10_cloud I R I' R') (hc : Cs_X10_cloud T I R x u1 u2 v8 I' R') :
    (v8.toInt = 0 ∧ ¬ (ha = 1 ∧ 0 ≤ u1.toInt ∧ u1.toInt < u2.toInt ∧ u2.toInt ≤ c 0 ∧ s 1 ≤ 5) ∧ CVn I' R' x ha c E s n mk g q) ∨ (v8.toInt = 1 ∧ (ha = 1 ∧ 0 ≤ u1.toInt ∧ u1.toInt < u2.toInt ∧ u2.toInt ≤ c 0 ∧ s 1 ≤ 5) ∧ CVn I' R' x ha c E (ac s (s 2) u1.toInt u2.toInt) (kn n) mk (kg n g s) q) := by
  obtain ⟨hs, hN, hDn⟩ := h
  have hD := hDn.kp hW tx hS (by decide +kernel) (by decide +kernel) (by decide +kernel)
  have hk : (v8.toInt = 0 ∧ (I' x 9).toInt = (I x 9).toInt ∧ (I' x 11).toInt = (I x 11).toInt) ∨ (v8.toInt = 1 ∧ (I' x 9).toInt = 0 ∧ (I' x 11).toInt = 0) := by
    rcases hc with ⟨-, a1, -, k, k', -⟩ | ⟨-, -, a1, -, k, k', -⟩ | ⟨-, -, -, -, -, a1, -, k, k', -⟩ | ⟨-, -, -, -, -, a1, -, -, -, k, k', -⟩
    · exact Or.inl ⟨a1, k, k'⟩
    · exact Or.inl ⟨a1, k, k'⟩
    · exact Or.inl ⟨a1, k, k'⟩
    · exact Or.inr ⟨a1, k, k'⟩
  rcases cs_cloud hs hW tx hS hc with ⟨a1, a2, a3⟩ | ⟨a1, a2, a3⟩ <;> rcases hk with ⟨b1, b2, b3⟩ | ⟨b1, b2, b3⟩
  · exact Or.inl ⟨a1, a2, a3, hN.st hW tx hS b2 (Or.inl ⟨b3, rfl⟩) rfl (by decide +kernel) (by decide +kernel) (by decide +kernel) (by decide +kernel) (by decide +kernel), hD⟩
  · omega
  · omega
  · exact Or.inr ⟨a1, a2, a3, NgN.z b2 b3, hD⟩
theorem cn_draw (h : CVn I R x ha c E s n mk g q) (hW : Wf T cn K N I R d) (tx : T x = 1) (hS : St T cn K N d' wik_X10_draw wrk_X10_draw I R I' R') (hc : Cs_X10_draw T I R x v8 I' R') :
    (v8.toInt = -1 ∧ ¬ (ha = 1 ∧ s 1 ≤ 5) ∧ CVn I' R' x ha c E s n mk g q) ∨ (v8.toInt = dwm (s 2) (c 0) ∧ (ha = 1 ∧ s 1 ≤ 5) ∧ CVn I' R' x ha c E (ac s (dw (dw (s 2))) (dwm (s 2) (c 0)) (dwt (s 2) (c 0))) (kn n) mk (kg n g s) q) := by
  obtain ⟨hs, hN, hDn⟩ := h
  have hD := hDn.kp hW tx hS (by decide +kernel) (by decide +kernel) (by decide +kernel)
  obtain ⟨al, nw, p1, p4, z5, -, -, -, -, t1⟩ := hs.1.num
  have hk : (¬ (ha = 1 ∧ s 1 ≤ 5) ∧ (I' x 9).toInt = (I x 9).toInt ∧ (I' x 11).toInt = (I x 11).toInt) ∨ ((ha = 1 ∧ s 1 ≤ 5) ∧ (I' x 9).toInt = 0 ∧ (I' x 11).toInt = 0) := by
    rcases hc with ⟨a1, -, -, k, k', -⟩ | ⟨a1, a2, -, -, k, k', -⟩ | ⟨a1, a2, -, -, -, -, -, k, k', -⟩
    · exact Or.inl ⟨by omega, k, k'⟩
    · have := a2 nw p4
      exact Or.inl ⟨by omega, k, k'⟩
    · have := a2 nw p4
      exact Or.inr ⟨by omega, k, k'⟩
  rcases cs_draw hs hW tx hS hc with ⟨a1, a2, a3⟩ | ⟨a1, a2, a3⟩ <;> rcases hk with ⟨b1, b2, b3⟩ | ⟨b1, b2, b3⟩
  · exact Or.inl ⟨a1, a2, a3, hN.st hW tx hS b2 (Or.inl ⟨b3, rfl⟩) rfl (by decide +kernel) (by decide +kernel) (by decide +kernel) (by decide +kernel) (by decide +kernel), hD⟩
  · exact absurd b1 a2
  · exact absurd a2 b1
  · exact Or.inr ⟨a1, a2, a3, NgN.z b2 b3, hD⟩
theorem cn_lift (h : CVn I R x ha c E s n mk g q) (hW : Wf T cn K N I R d) (tx : T x = 1) (hS : St T cn K N d' wik_X10_lift wrk_X10_lift I R I' R') (hc : Cs_X10_lift T I R x v8 I' R') :
    (v8.toInt = 0 ∧ s 1 = 0 ∧ CVn I' R' x ha c E s n mk g q) ∨ (v8.toInt = 1 ∧ 1 ≤ s 1 ∧ CVn I' R' x ha c E (fun c => if c = 1 then s 1 - 1 else s c) (kn n) mk (kg n g s) q) := by
  obtain ⟨hs, hN, hDn⟩ := h
  have hD := hDn.kp hW tx hS (by decide +kernel) (by decide +kernel) (by decide +kernel)
  have hk : (v8.toInt = 0 ∧ (I' x 9).toInt = (I x 9).toInt ∧ (I' x 11).toInt = (I x 11).toInt) ∨ (v8.toInt = 1 ∧ (I' x 9).toInt = 0 ∧ (I' x 11).toInt = 0) := by
    rcases hc with ⟨-, a1, -, k, k', -⟩ | ⟨-, a1, -, -, k, k', -⟩
    · exact Or.inl ⟨a1, k, k'⟩
    · exact Or.inr ⟨a1, k, k'⟩
  rcases cs_lift hs hW tx hS hc with ⟨a1, a2, a3⟩ | ⟨a1, a2, a3⟩ <;> rcases hk with ⟨b1, b2, b3⟩ | ⟨b1, b2, b3⟩
  · exact Or.inl ⟨a1, a2, a3, hN.st hW tx hS b2 (Or.inl ⟨b3, rfl⟩) rfl (by decide +kernel) (by decide +kernel) (by decide +kernel) (by decide +kernel) (by decide +kernel), hD⟩
  · omega
  · omega
  · exact Or.inr ⟨a1, a2, a3, NgN.z b2 b3, hD⟩
theorem cn_undo (h : CVn I R x ha c E s n mk g q) (hW : Wf T cn K N I R d) (tx : T x = 1) (hS : St T cn K N d' wik_X10_undo wrk_X10_undo I R I' R) (hc : Cs_X10_undo T I R x v8 I' R) :
    (v8.toInt = 0 ∧ n = 0 ∧ CVn I' R x ha c E s n mk g q) ∨ (v8.toInt = 1 ∧ 1 ≤ n ∧ CVn I' R x ha c E (g (n - 1).toNat) (n - 1) mk g q) := by
  obtain ⟨hs, hN, hDn⟩ := h
  have hD := hDn.kp hW tx hS (by decide +kernel) (by decide +kernel) (by decide +kernel)
  have hk : (v8.toInt = 0 ∧ (I' x 9).toInt = (I x 9).toInt ∧ (I' x 11).toInt = (I x 11).toInt) ∨ (v8.toInt = 1 ∧ (I' x 9).toInt = 0 ∧ (I' x 11).toInt = 0) := by
    rcases hc with ⟨-, a1, -, k, k', -⟩ | ⟨-, a1, -, -, k, k', -⟩
    · exact Or.inl ⟨a1, k, k'⟩
    · exact Or.inr ⟨a1, k, k'⟩
  rcases cs_undo hs hW tx hS hc with ⟨a1, a2, a3⟩ | ⟨a1, a2, a3⟩ <;> rcases hk with ⟨b1, b2, b3⟩ | ⟨b1, b2, b3⟩
  · exact Or.inl ⟨a1, a2, a3, hN.st hW tx hS b2 (Or.inl ⟨b3, rfl⟩) rfl (by decide +kernel) (by decide +kernel) (by decide +kernel) (by decide +kernel) (by decide +kernel), hD⟩
  · omega
  · omega
  · exact Or.inr ⟨a1, a2, a3, NgN.z b2 b3, hD⟩
theorem cn_back (h : CVn I R x ha c E s n mk g q) (hW : Wf T cn K N I R d) (tx : T x = 1) (hS : St T cn K N d' wik_X10_back wrk_X10_back I R I' R) (hc : Cs_X10_back T I R x u1 v8 I' R) :
    (v8.toInt = 0 ∧ ¬ (0 ≤ u1.toInt ∧ u1.toInt < mk) ∧ CVn I' R x ha c E s n mk g q) ∨ (v8.toInt = 1 ∧ (0 ≤ u1.toInt ∧ u1.toInt < mk) ∧ CVn I' R x ha c E (q u1.toInt.toNat) 0 mk g q) := by
  obtain ⟨hs, hN, hDn⟩ := h
  have hD := hDn.kp hW tx hS (by decide +kernel) (by decide +kernel) (by decide +kernel)
  have hk : (v8.toInt = 0 ∧ (I' x 9).toInt = (I x 9).toInt ∧ (I' x 11).toInt = (I x 11).toInt) ∨ (v8.toInt = 1 ∧ (I' x 9).toInt = 0 ∧ (I' x 11).toInt = 0) := by
    rcases hc with ⟨-, a1, -, k, k', -⟩ | ⟨-, -, a1, -, -, k, k', -⟩
    · exact Or.inl ⟨a1, k, k'⟩
    · exact Or.inr ⟨a1, k, k'⟩
  rcases cs_back hs hW tx hS hc with ⟨a1, a2, a3⟩ | ⟨a1, a2, a3⟩ <;> rcases hk with ⟨b1, b2, b3⟩ | ⟨b1, b2, b3⟩
  · exact Or.inl ⟨a1, a2, a3, hN.st hW tx hS b2 (Or.inl ⟨b3, rfl⟩) rfl (by decide +kernel) (by decide +kernel) (by decide +kernel) (by decide +kernel) (by decide +kernel), hD⟩
  · omega
  · omega
  · exact Or.inr ⟨a1, a2, a3, NgN.z b2 b3, hD⟩
theorem cn_seed (h : CVn I R x ha c E s n mk g q) (hW : Wf T cn K N I R d) (tx : T x = 1) (hS : St T cn K N d' wik_X10_seed wrk_X10_seed I R I' R) (hc : Cs_X10_seed T I R x u1 v8 I' R) :
    (v8.toInt = 0 ∧ ¬ (ha = 1 ∧ 0 ≤ u1.toInt ∧ u1.toInt ≤ 65536) ∧ CVn I' R x ha c E s n mk g q) ∨ (v8.toInt = 1 ∧ (ha = 1 ∧ 0 ≤ u1.toInt ∧ u1.toInt ≤ 65536) ∧ CVn I' R x ha c E (fun c => if c = 2 then u1.toInt else s c) n mk g q) := by
  obtain ⟨hs, hN, hDn⟩ := h
  have hD := hDn.kp hW tx hS (by decide +kernel) (by decide +kernel) (by decide +kernel)
  have h11 : (I' x 11).toInt = (I x 11).toInt := congrArg Int32.toInt (hS.cell tx (by decide +kernel))
  have h9 : (I' x 9).toInt = (I x 9).toInt := congrArg Int32.toInt (hS.cell tx (by decide +kernel))
  rcases cs_seed hs hW tx hS hc with ⟨a1, a2, a3⟩ | ⟨a1, a2, a3⟩
  · exact Or.inl ⟨a1, a2, a3, hN.st hW tx hS h9 (Or.inl ⟨h11, rfl⟩) rfl (by decide +kernel) (by decide +kernel) (by decide +kernel) (by decide +kernel) (by decide +kernel), hD⟩
  · exact Or.inr ⟨a1, a2, a3, by rw [XE.eq (s := s) (fun k hk => if_neg (by omega))]; exact hN.st hW tx hS h9 (Or.inl ⟨h11, if_neg (by decide)⟩) (if_neg (by decide)) (by decide +kernel) (by decide +kernel) (by decide +kernel) (by decide +kernel) (by decide +kernel), hD⟩
theorem cn_mark (h : CVn I R x ha c E s n mk g q) (hW : Wf T cn K N I R d) (tx : T x = 1) (hS : St T cn K N d' wik_X10_mark wrk_X10_mark I R I' R) (hc : Cs_X10_mark T I R x v8 I' R) :
    (v8.toInt = -1 ∧ ¬ (ha = 1 ∧ mk ≤ 2) ∧ CVn I' R x ha c E s n mk g q) ∨ (v8.toInt = mk ∧ (ha = 1 ∧ mk ≤ 2) ∧ CVn I' R x ha c E s n (mk + 1) g (fun i c => if (i : Int) < mk then q i c else s c)) := by
  obtain ⟨hs, hN, hDn⟩ := h
  have hD := hDn.kp hW tx hS (by decide +kernel) (by decide +kernel) (by decide +kernel)
  have h11 : (I' x 11).toInt = (I x 11).toInt := congrArg Int32.toInt (hS.cell tx (by decide +kernel))
  have h9 : (I' x 9).toInt = (I x 9).toInt := congrArg Int32.toInt (hS.cell tx (by decide +kernel))
  have hN' := hN.st (s' := s) hW tx hS h9 (Or.inl ⟨h11, rfl⟩) rfl (by decide +kernel) (by decide +kernel) (by decide +kernel) (by decide +kernel) (by decide +kernel)
  rcases cs_mark hs hW tx hS hc with ⟨a1, a2, a3⟩ | ⟨a1, a2, a3⟩
  · exact Or.inl ⟨a1, a2, a3, hN', hD⟩
  · exact Or.inr ⟨a1, a2, a3, hN', hD⟩
theorem cn_call (h : CVn I R x ha c E s n mk g q) (hW : Wf T cn K N I R d) (tx : T x = 1) (hS : St T cn K N d' wik_X10_call wrk_X10_call I R I' R') (hc : Cs_X10_call T I R x u1 u2 v8 I' R') :
    (v8.toInt = 0 ∧ ¬ (0 ≤ u1.toInt ∧ u1.toInt < c 5 ∧ ¬ bt (s 0) u1.toInt = u2.toInt) ∧ CVn I' R' x ha c E s n mk g q) ∨ (v8.toInt = 1 ∧ (0 ≤ u1.toInt ∧ u1.toInt < c 5 ∧ ¬ bt (s 0) u1.toInt = u2.toInt) ∧ ∃ z : Int32, z.toInt = s 0 ∧ CVn I' R' x ha c E (fun c => if c = 0 then (z ^^^ ((1 : Int32) <<< (u1 &&& 31))).toInt else s c) (kn n) mk (kg n g s) q) := by
  obtain ⟨hs, hN, hDn⟩ := h
  have hD := hDn.kp hW tx hS (by decide +kernel) (by decide +kernel) (by decide +kernel)
  have h9 : (I' x 9).toInt = (I x 9).toInt := congrArg Int32.toInt (hS.cell tx (by decide +kernel))
  have hk : (v8.toInt = 0 ∧ (I' x 11).toInt = (I x 11).toInt) ∨ (v8.toInt = 1 ∧ (I' x 11).toInt = 0) := by
    rcases hc with ⟨-, a1, -, k, -⟩ | ⟨-, -, -, a1, -, k, -⟩ | ⟨-, -, -, a1, -, -, k, -⟩
    · exact Or.inl ⟨a1, k⟩
    · exact Or.inl ⟨a1, k⟩
    · exact Or.inr ⟨a1, k⟩
  rcases cs_call hs hW tx hS hc with ⟨a1, a2, a3⟩ | ⟨a1, a2, z, y, a3⟩ <;> rcases hk with ⟨b1, b2⟩ | ⟨b1, b2⟩
  · exact Or.inl ⟨a1, a2, a3, hN.st hW tx hS h9 (Or.inl ⟨b2, rfl⟩) rfl (by decide +kernel) (by decide +kernel) (by decide +kernel) (by decide +kernel) (by decide +kernel), hD⟩
  · omega
  · omega
  · exact Or.inr ⟨a1, a2, z, y, a3, by rw [XE.eq (s := s) (fun k hk => if_neg (by omega))]; exact hN.st hW tx hS h9 (Or.inr b2) (if_neg (by decide)) (by decide +kernel) (by decide +kernel) (by decide +kernel) (by decide +kernel) (by decide +kernel), hD⟩
/-! an ALP -/
theorem CVn.alpN (h : CVn I R x ha c E s n mk g q) (k9 : (I8 x 9).toInt = (I x 9).toInt) (k11 : (I8 x 11).toInt = (I x 11).toInt) (g8 : St T cn K N 0 wik_X10_alp wrk_X10_alp I R I8 R8) (hW : Wf T cn K N I R d) (tx : T x = 1) (hx2 : R8 x 2 = R x 2) (z : CVw I8 R8 x ha c E s n mk g q) : CVn I8 R8 x ha c E s n mk g q :=
  ⟨CVs.alpN h.1 k9 g8 hW tx z, h.2.1.cg hW tx k9 (Or.inl ⟨k11, rfl⟩) (fun a j ta => g8.2.1 a j (wm_p (p := fun r => !(rdN r)) (by decide +kernel) (by rw [ta]; rfl))) (fun j hj => by rcases hj with rfl | rfl | rfl; exact hx2; exact g8.rcell tx (by decide +kernel); exact g8.rcell tx (by decide +kernel)) (fun a j ta => by rcases ta with ta | ta <;> exact g8.rcell ta (wm_no (by decide +kernel))) rfl, h.2.2.kp hW tx g8 (by decide +kernel) (by decide +kernel) (by decide +kernel)⟩
theorem CVn.alpY {ha2 n2 mk2 : Int} {c2 : Nat → Int} {E2 : Nat → Nat → Int} {s2 : Nat → Int} {g2 q2 : Nat → Nat → Int} (h : CVn I R x ha c E s n mk g q) (k9 : (I8 x 9).toInt = 0) (k11 : (I8 x 11).toInt = 0) (g8 : St T cn K N 0 wik_X10_alp wrk_X10_alp I R I8 R8) (hW : Wf T cn K N I R d) (tx : T x = 1) (z : CVw I8 R8 x ha2 c2 E2 s2 n2 mk2 g2 q2) : CVn I8 R8 x ha2 c2 E2 s2 n2 mk2 g2 q2 :=
  ⟨CVs.alpY h.1 k9 g8 hW tx z, NgN.z k9 k11, h.2.2.kp hW tx g8 (by decide +kernel) (by decide +kernel) (by decide +kernel)⟩
theorem CVn.alp9 (h : CVn I8 R8 x ha c E s n mk g q) (hW : Wf T cn K N I8 R8 0) (tx : T x = 1) (hI9 : ∀ a j, a < cn → wm wi_alpT (T a) j = false → I9 a j = I8 a j) (hR9 : ∀ a j, a < cn → wm wr_alpT (T a) j = false → R9 a j = R8 a j) : CVn I9 R9 x ha c E s n mk g q := by
  have lt : ∀ a r, T a = r → ¬ r = 0 → a < cn := fun a r ta hr => (hW.1 a (by rw [ta]; exact hr)).1
  have hx : x < cn := lt x 1 tx (by decide)
  have rx : ∀ j, wm wr_alpT 1 j = false → R9 x j = R8 x j := fun j hj => hR9 x j hx (by rw [tx]; exact hj)
  have r13 : ∀ a j, T a = 12 ∨ T a = 13 → R9 a j = R8 a j := fun a j ta => hR9 a j (lt a _ rfl (by omega)) (by rcases ta with ta | ta <;> rw [ta] <;> exact wm_no (by decide +kernel))
  refine ⟨CVs.alp9 h.1 hW tx hI9 hR9, h.2.1.cg hW tx (by rw [hI9 x 9 hx (by rw [tx]; decide +kernel)]) (Or.inl ⟨by rw [hI9 x 11 hx (by rw [tx]; decide +kernel)], rfl⟩) (fun a j ta => hI9 a j (lt a _ rfl (fun z => by rw [z] at ta; cases ta)) (wm_p (p := fun r => !(rdN r)) (by decide +kernel) (by rw [ta]; rfl))) (fun j hj => by rcases hj with rfl | rfl | rfl <;> exact rx _ (by decide +kernel)) r13 rfl, ?_⟩
  intro a b h10 h14
  rw [rx 10 (by decide +kernel)] at h10
  rw [rx 14 (by decide +kernel)] at h14
  have ta : T a = 13 := hW.rs tx rfl rfl h10
  have tb : T b = 13 := hW.rs tx rfl rfl h14
  obtain ⟨z1, z2⟩ := h.2.2 a b h10 h14
  exact ⟨z1, fun k l y k1 k2 l1 l2 hk hl => z2 k l y k1 k2 l1 l2 ((r13 a k (Or.inr ta)).symm.trans hk) ((r13 b l (Or.inr tb)).symm.trans hl)⟩
theorem CVn.hE (h : CVn I R x ha c E s n mk g q) : ∀ al, R x 2 = some al → CVa I R al c E := by
  obtain ⟨al', dr, nw', pa, A, B, ⟨p1, -⟩, -, v, -⟩ := h.1.1
  intro al h2
  obtain rfl := Option.some.inj (p1.symm.trans h2)
  exact v
theorem CVn.hMs (h : CVn I R x ha c E s n mk g q) (hR : RgC ha s n mk g q) : ∀ nw, R x 6 = some nw → 0 ≤ (I nw 0).toInt ∧ (I nw 0).toInt ≤ 63 := fun nw h6 => by rw [h.1.1.s0q h6]; exact hR.1
theorem MVw.hA (h : MVw I R m ha c E s n mk g q) : NmE I R m E c := by
  intro b hb
  obtain ⟨-, b', hb2, -, y1, -, -, y5⟩ := h.ha1 ⟨b, hb⟩
  obtain rfl := Option.some.inj (hb.symm.trans hb2)
  exact ⟨y1, y5⟩
theorem MVw.hMs (h : MVw I R m ha c E s n mk g q) (hR : RgC ha s n mk g q) : ∀ w, R m 16 = some w → 0 ≤ (I w 0).toInt ∧ (I w 0).toInt ≤ 63 := by
  obtain ⟨w', p, k, p1, -, -, -, hs, -⟩ := h
  intro w hw
  obtain rfl := Option.some.inj (p1.symm.trans hw)
  rw [hs.1 0 (by omega)]; exact hR.1
theorem MVw.h1 (h : MVw I R m ha c E s n mk g q) (hW : Wf T cn K N I R d) (tm : T m = 15) : ∀ b, R m 3 = some b → 1 ≤ c 0 := by
  intro b hb
  obtain ⟨-, b', hb2, -, y1, -⟩ := h.ha1 ⟨b, hb⟩
  obtain rfl := Option.some.inj (hb.symm.trans hb2)
  have z : (I b 0).toInt = c 0 := y1 0 (by omega)
  have := hW.2.2.2.2.2.1 m tm b hb
  omega
theorem MVw.h1c (h : MVw I R m ha c E s n mk g q) (hOr : OrC ha c E) (hW : Wf T cn K N I R d) (tm : T m = 15) : 1 ≤ c 0 ∨ ∀ i, c i = 0 := by
  obtain ⟨w, p, k, -, -, -, hav, -⟩ := h
  rcases hav with ⟨h0, -⟩ | ⟨h1, b, hb, h3, -⟩
  · exact Or.inr (hOr.z h0)
  · have := hW.2.2.2.2.2.1 m tm b hb
    exact Or.inl (by omega)
/-- the two nights are one -/
theorem ngz_eq {al nw b w : Nat} (f3 : (I al 3).toInt = c 2) (fw : (I nw 2).toInt = s 1) (f0 : (I nw 0).toInt = s 0) (y2 : (I8 b 2).toInt = c 2) (yw : (I8 w 1).toInt = s 1) (y0 : (I8 w 0).toInt = s 0) (c2 : 0 ≤ c 2) (s1 : 0 ≤ s 1) : NgM I8 b w X E c = NgZ I al nw X E c := by
  unfold NgM NgZ; rw [f3, fw, f0, y2, yw, y0, nN c2 s1]
theorem MVw.numN (h : MVw I R m ha c E s n mk g q) (hb : ∃ b, R m 3 = some b) : ha = 1 ∧ ∃ b w, R m 3 = some b ∧ R m 16 = some w ∧ (I b 0).toInt = c 0 ∧ (I b 1).toInt = c 1 ∧ (I b 2).toInt = c 2 ∧ (I b 3).toInt = c 3 ∧ (I b 4).toInt = c 4 ∧ (I b 5).toInt = c 5 ∧ (I b 6).toInt = c 6 ∧ (I w 0).toInt = s 0 ∧ (I w 1).toInt = s 1 := by
  obtain ⟨h1, b, hb2, -, y1, -⟩ := h.ha1 hb
  obtain ⟨w, p, k, p1, -, -, -, hs, -⟩ := h
  exact ⟨h1, b, w, hb2, p1, y1 0 (by omega), y1 1 (by omega), y1 2 (by omega), y1 3 (by omega), y1 4 (by omega), y1 5 (by omega), y1 6 (by omega), hs.1 0 (by omega), hs.1 1 (by omega)⟩
end CzSn
