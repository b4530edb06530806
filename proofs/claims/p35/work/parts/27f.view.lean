/-! ===== what the acts see: views of class and reference ===== -/
/-- how many acts are kept behind one more -/
def kn (n : Int) : Int := if n < 12 then n + 1 else 12
/-- the acts behind one more -/
def kg (n : Int) (g : Nat → Nat → Int) (s : Nat → Int) (i c : Nat) : Int := if (i : Int) < (if n < 12 then n else 11) then g (if n < 12 then i else i + 1) c else s c
/-- a state of the class: calls, clouds, seed -/
def T3 (I : cz_I) (h : Nat) (f : Nat → Int) : Prop := (I h 0).toInt = f 0 ∧ (I h 2).toInt = f 1 ∧ (I h 1).toInt = f 2
theorem T3.kp {I J : cz_I} {h : Nat} {f : Nat → Int} (t : T3 I h f) (e : ∀ j, J h j = I h j) : T3 J h f := by
  unfold T3; rw [e 0, e 1, e 2]; exact t
theorem T3.cg {I : cz_I} {h : Nat} {f f' : Nat → Int} (t : T3 I h f) (e : ∀ c, c < 3 → f' c = f c) : T3 I h f' := by
  unfold T3; rw [e 0 (by exact om_d64e39d1), e 1 (by exact om_8d289ac2), e 2 (by exact om_9caba31f)]; exact t
def CVp (R : cz_R) (x al dr nw pa A B : Nat) : Prop := R x 2 = some al ∧ R x 3 = some dr ∧ ¬ al = dr ∧ R x 6 = some nw ∧ R x 7 = some pa ∧ R pa 1 = some A ∧ R pa 3 = some B
def CVs (I : cz_I) (x al nw pa : Nat) (ha mi ca : Int) (s : Nat → Int) (n mk : Int) : Prop := (I x 5).toInt = ha ∧ (I al 0).toInt = mi ∧ (I al 11).toInt = ca ∧ T3 I nw s ∧ (I pa 0).toInt = n ∧ (I pa 2).toInt = mk
def CVg (I : cz_I) (R : cz_R) (A : Nat) (n : Int) (g : Nat → Nat → Int) : Prop := ∀ i : Nat, (i : Int) < n → ∀ h, R A i = some h → T3 I h (g i)
def CVd (R : cz_R) (A B : Nat) : Prop := (∀ i j h, i < 12 → j < 12 → R A i = some h → R A j = some h → i = j) ∧ (∀ i j h, i < 3 → j < 3 → R B i = some h → R B j = some h → i = j) ∧ ∀ i j h, i < 12 → j < 3 → R A i = some h → R B j = some h → False
def CVw (I : cz_I) (R : cz_R) (x : Nat) (ha mi ca : Int) (s : Nat → Int) (n mk : Int) (g q : Nat → Nat → Int) : Prop := ∃ al dr nw pa A B, CVp R x al dr nw pa A B ∧ CVs I x al nw pa ha mi ca s n mk ∧ CVg I R A n g ∧ CVg I R B mk q ∧ CVd R A B
section CzVw
variable {T : Nat → Nat} {cn : Nat} {K N : Nat → Nat} {d d' : Int} {wi wr : List Nat} {I I' : cz_I} {R R' : cz_R} {x m : Nat} {ha mi ca n mk : Int} {s s' : Nat → Int} {g q : Nat → Nat → Int}
/-- the roles of what the class's view names -/
theorem CVp.ro {al dr nw pa A B : Nat} (h : CVp R x al dr nw pa A B) (hW : Wf T cn K N I R d) (tx : T x = 1) : T al = 2 ∧ T dr = 2 ∧ T nw = 8 ∧ T pa = 11 ∧ T A = 33 ∧ T B = 34 := by
  obtain ⟨h1, h2, -, h3, h4, h5, h6⟩ := h
  have tp : T pa = 11 := hW.rs tx rfl rfl h4
  exact ⟨hW.rs tx rfl rfl h1, hW.rs tx rfl rfl h2, hW.rs tx rfl rfl h3, tp, hW.rs tp rfl rfl h5, hW.rs tp rfl rfl h6⟩
theorem CVg.ro {A : Nat} (hW : Wf T cn K N I R d) (tA : T A = 33) {i h : Nat} (hi : i < 12) (hh : R A i = some h) : T h = 10 := by
  obtain ⟨b, e, tb⟩ := rf33 hW tA hi
  rw [hh] at e; cases e; exact tb
theorem CVg.roB {B : Nat} (hW : Wf T cn K N I R d) (tB : T B = 34) {i h : Nat} (hi : i < 3) (hh : R B i = some h) : T h = 10 := by
  obtain ⟨b, e, tb⟩ := rf34 hW tB hi
  rw [hh] at e; cases e; exact tb
/-- numbers of acts and marks are small -/
theorem CVw.nb (h : CVw I R x ha mi ca s n mk g q) (hW : Wf T cn K N I R d) (tx : T x = 1) : (0 ≤ n ∧ n ≤ 12) ∧ 0 ≤ mk ∧ mk ≤ 3 := by
  obtain ⟨al, dr, nw, pa, A, B, hp, ⟨-, -, -, -, h1, h2⟩, -⟩ := h
  obtain ⟨-, -, -, tp, -⟩ := hp.ro hW tx
  have a := iv11_0 hW tp (rfl : I pa 0 = I pa 0)
  have b := iv11_2 hW tp (rfl : I pa 2 = I pa 2)
  exact om_e37029c7 h1 h2 a.2 a.1 b.2 b.1
/-- a step that leaves all that the view sees -/
theorem CVw.of (h : CVw I R x ha mi ca s n mk g q) (hW : Wf T cn K N I R d) (tx : T x = 1) (e1 : I' x 5 = I x 5) (e2 : ∀ al j, R x 2 = some al → I' al j = I al j) (e3 : ∀ a j, T a = 8 ∨ T a = 10 ∨ T a = 11 → I' a j = I a j) (r1 : R' x 2 = R x 2) (r2 : R' x 3 = R x 3) (r3 : R' x 6 = R x 6) (r4 : R' x 7 = R x 7) (r5 : ∀ a j, T a = 11 ∨ T a = 33 ∨ T a = 34 → R' a j = R a j) : CVw I' R' x ha mi ca s n mk g q := by
  have nb := h.nb hW tx
  obtain ⟨al, dr, nw, pa, A, B, hp, hs, hA, hB, hD⟩ := h
  obtain ⟨tal, tdr, tnw, tpa, tA, tB⟩ := hp.ro hW tx
  obtain ⟨p1, p2, p3, p4, p5, p6, p7⟩ := hp
  obtain ⟨s1, s2, s3, s4, s5, s6⟩ := hs
  have rA : ∀ i, R' A i = R A i := fun i => r5 A i (Or.inr (Or.inl tA))
  have rB : ∀ i, R' B i = R B i := fun i => r5 B i (Or.inr (Or.inr tB))
  refine ⟨al, dr, nw, pa, A, B, ⟨r1.trans p1, r2.trans p2, p3, r3.trans p4, r4.trans p5, (r5 pa 1 (Or.inl tpa)).trans p6, (r5 pa 3 (Or.inl tpa)).trans p7⟩, ⟨by rw [e1]; exact s1, by rw [e2 al 0 p1]; exact s2, by rw [e2 al 11 p1]; exact s3, s4.kp (fun j => e3 nw j (Or.inl tnw)), by rw [e3 pa 0 (Or.inr (Or.inr tpa))]; exact s5, by rw [e3 pa 2 (Or.inr (Or.inr tpa))]; exact s6⟩, ?_, ?_, ?_⟩
  · intro i hi h hh
    rw [rA] at hh
    exact (hA i hi h hh).kp (fun j => e3 h j (Or.inr (Or.inl (CVg.ro hW tA (by exact om_a1d0d4f0 nb.1.2 nb.1.1 s5 hi) hh))))
  · intro i hi h hh
    rw [rB] at hh
    exact (hB i hi h hh).kp (fun j => e3 h j (Or.inr (Or.inl (CVg.roB hW tB (by exact om_b8b0a216 nb.2.2 nb.2.1 s6 hi) hh))))
  · exact ⟨fun i j h hi hj => by rw [rA, rA]; exact hD.1 i j h hi hj, fun i j h hi hj => by rw [rB, rB]; exact hD.2.1 i j h hi hj, fun i j h hi hj => by rw [rA, rB]; exact hD.2.2 i j h hi hj⟩
theorem CVw.kp (h : CVw I R x ha mi ca s n mk g q) (hW : Wf T cn K N I R d) (tx : T x = 1) (hS : St T cn K N d' wi wr I R I' R') (c1 : wm wi 1 5 = false) (c2 : wi.all (fun c => !(Nat.beq (c / 64) 2)) = true) (c8 : wi.all (fun c => !(Nat.beq (c / 64) 8)) = true) (c10 : wi.all (fun c => !(Nat.beq (c / 64) 10)) = true) (c11 : wi.all (fun c => !(Nat.beq (c / 64) 11)) = true) (w2 : wm wr 1 2 = false) (w3 : wm wr 1 3 = false) (w6 : wm wr 1 6 = false) (w7 : wm wr 1 7 = false) (w11 : wr.all (fun c => !(Nat.beq (c / 64) 11)) = true) (w33 : wr.all (fun c => !(Nat.beq (c / 64) 33)) = true) (w34 : wr.all (fun c => !(Nat.beq (c / 64) 34)) = true) : CVw I' R' x ha mi ca s n mk g q := by
  refine h.of hW tx (hS.cell tx c1) (fun al j hal => hS.cell (hW.rs tx rfl rfl hal : T al = 2) (wm_no c2)) (fun a j ta => ?_) (hS.rcell tx w2) (hS.rcell tx w3) (hS.rcell tx w6) (hS.rcell tx w7) (fun a j ta => ?_)
  · rcases ta with ta | ta | ta
    · exact hS.cell ta (wm_no c8)
    · exact hS.cell ta (wm_no c10)
    · exact hS.cell ta (wm_no c11)
  · rcases ta with ta | ta | ta
    · exact hS.rcell ta (wm_no w11)
    · exact hS.rcell ta (wm_no w33)
    · exact hS.rcell ta (wm_no w34)
/-- nothing was done -/
theorem CVw.sm (h : CVw I R x ha mi ca s n mk g q) (hW : Wf T cn K N I R d) (tx : T x = 1) (hm : SmC T I R I' R') (e1 : I' x 5 = I x 5) (e2 : ∀ a j, T a = 2 → I' a j = I a j) : CVw I' R' x ha mi ca s n mk g q := by
  obtain ⟨rfl, hm⟩ := hm
  exact h.of hW tx e1 (fun al j hal => e2 al j (hW.rs tx rfl rfl hal)) hm rfl rfl rfl rfl (fun _ _ _ => rfl)
/-- an act is kept, and what is now changes -/
theorem CVw.keep (h : CVw I R x ha mi ca s n mk g q) (hW : Wf T cn K N I R d) (tx : T x = 1) (k : KpC T I R I' R' x) (e1 : I' x 5 = I x 5) (e2 : ∀ a j, T a = 2 → I' a j = I a j) (e4 : ∀ a, T a = 11 → I' a 2 = I a 2) (r5 : ∀ a j, T a = 1 ∨ T a = 11 ∨ T a = 34 → R' a j = R a j) (hs' : ∀ nw, R x 6 = some nw → T3 I nw s → T3 I' nw s') : CVw I' R' x ha mi ca s' (kn n) mk (kg n g s) q := by
  have nb := h.nb hW tx
  obtain ⟨al, dr, nw, pa, A, B, hp, hs, hA, hB, hD⟩ := h
  obtain ⟨tal, tdr, tnw, tpa, tA, tB⟩ := hp.ro hW tx
  obtain ⟨p1, p2, p3, p4, p5, p6, p7⟩ := hp
  obtain ⟨s1, s2, s3, s4, s5, s6⟩ := hs
  obtain ⟨⟨h, th, k1, k2, k3, k4, k5, k6, k7⟩, n1, n2⟩ := k nw pa A p4 p5 p6
  rw [s5] at k1 k6 k7 n1 n2
  have rB : ∀ i, R' B i = R B i := fun i => r5 B i (Or.inr (Or.inr tB))
  have perm : ∀ i : Nat, i < 12 → ∃ j : Nat, j < 12 ∧ R' A i = R A j ∧ (n < 12 → j = i) ∧ (¬ n < 12 → (i < 11 → j = i + 1) ∧ (i = 11 → j = 0)) := by
    intro i hi
    by_cases q : n < 12
    · exact ⟨i, hi, by rw [k6 q], fun _ => rfl, fun z => absurd q z⟩
    · by_cases q2 : i < 11
      · exact ⟨i + 1, by exact om_4b704e18 hi q2, (k7 q).1 i q2, fun z => absurd z q, fun _ => ⟨fun _ => rfl, fun z => by exact om_f8afb109 hi q2 z⟩⟩
      · obtain rfl : i = 11 := by exact om_4321c4e2 hi q2
        exact ⟨0, by exact om_acfda0e0, (k7 q).2, fun z => absurd z q, fun _ => ⟨fun z => absurd z q2, fun _ => rfl⟩⟩
  have inj : ∀ i j b, i < 12 → j < 12 → R' A i = some b → R' A j = some b → i = j := by
    intro i j b hi hj h1 h2
    obtain ⟨i', hi', ei, a1, a2⟩ := perm i hi
    obtain ⟨j', hj', ej, b1, b2⟩ := perm j hj
    rw [ei] at h1
    rw [ej] at h2
    have := hD.1 i' j' b hi' hj' h1 h2
    by_cases q : n < 12
    · have := a1 q; have := b1 q; omega
    · have := a2 q; have := b2 q; omega
  have mkl : ∀ i j b, i < 12 → j < 3 → R' A i = some b → R' B j = some b → False := by
    intro i j b hi hj h1 h2
    obtain ⟨i', hi', ei, -, -⟩ := perm i hi
    rw [ei] at h1
    rw [rB] at h2
    exact hD.2.2 i' j b hi' hj h1 h2
  have hpos : (if n < 12 then n.toNat else 11) < 12 := by split <;> omega
  refine ⟨al, dr, nw, pa, A, B, ⟨(r5 x 2 (Or.inl tx)).trans p1, (r5 x 3 (Or.inl tx)).trans p2, p3, (r5 x 6 (Or.inl tx)).trans p4, (r5 x 7 (Or.inl tx)).trans p5, (r5 pa 1 (Or.inr (Or.inl tpa))).trans p6, (r5 pa 3 (Or.inr (Or.inl tpa))).trans p7⟩, ⟨by rw [e1]; exact s1, by rw [e2 al 0 tal]; exact s2, by rw [e2 al 11 tal]; exact s3, hs' nw p4 s4, ?_, by rw [e4 pa tpa]; exact s6⟩, ?_, ?_, ⟨inj, fun i j b hi hj => by rw [rB, rB]; exact hD.2.1 i j b hi hj, mkl⟩⟩
  · unfold kn
    by_cases y : n < 12
    · rw [if_pos y]; exact n1 y
    · rw [if_neg y]; exact n2 y
  · intro i hi b hb
    unfold kn at hi
    by_cases y : n < 12
    · rw [if_pos y] at hi k1
      have hR' := k6 y
      by_cases z : (i : Int) < n
      · have hb2 : R A i = some b := by rw [← hR']; exact hb
        have tb : T b = 10 := CVg.ro hW tA (by exact om_9aebae31 nb.1.2 nb.1.1 s5 y z) hb2
        have hne : ¬ b = h := fun e => by
          subst e
          have := inj i n.toNat b (by exact om_9aebae31 nb.1.2 nb.1.1 s5 y z) (by exact om_0adcf12a nb.1.2 nb.1.1 s5 y z) hb k1
          exact om_2fd290f8 nb.1.2 nb.1.1 s5 y z this
        refine ((hA i z b hb2).kp (fun j => k2 b j tb hne)).cg (fun c _ => ?_)
        unfold kg; rw [if_pos y, if_pos z, if_pos y]
      · obtain rfl : i = n.toNat := by exact om_1a45cec5 nb.1.2 nb.1.1 s5 hi y z
        rw [k1] at hb
        cases hb
        obtain ⟨w0, w1, w2⟩ := s4
        have t : T3 I' h s := ⟨by rw [k3]; exact w0, by rw [k5]; exact w1, by rw [k4]; exact w2⟩
        refine t.cg (fun c _ => ?_)
        unfold kg; rw [if_pos y, if_neg z]
    · rw [if_neg y] at hi k1
      by_cases z : (i : Int) < 11
      · have hb2 : R A (i + 1) = some b := by rw [← (k7 y).1 i (by exact om_d6fe5539 hi z)]; exact hb
        have tb : T b = 10 := CVg.ro hW tA (by exact om_bca2e04a hi z) hb2
        have hne : ¬ b = h := fun e => by
          subst e
          have := inj i 11 b (by exact om_3289f3da hi z) (by exact om_79befcff) hb k1
          exact om_13b8401b hi z this
        refine ((hA (i + 1) (by exact om_1d722754 nb.1.2 nb.1.1 s5 hi y z) b hb2).kp (fun j => k2 b j tb hne)).cg (fun c _ => ?_)
        unfold kg; rw [if_neg y, if_pos z, if_neg y]
      · obtain rfl : i = 11 := by exact om_c3d39fde hi z
        rw [k1] at hb
        cases hb
        obtain ⟨w0, w1, w2⟩ := s4
        have t : T3 I' h s := ⟨by rw [k3]; exact w0, by rw [k5]; exact w1, by rw [k4]; exact w2⟩
        refine t.cg (fun c _ => ?_)
        unfold kg; rw [if_neg y, if_neg z]
  · intro i hi b hb
    have hb2 := hb
    rw [rB] at hb
    have tb : T b = 10 := CVg.roB hW tB (by exact om_b8b0a216 nb.2.2 nb.2.1 s6 hi) hb
    exact (hB i hi b hb).kp (fun j => k2 b j tb (fun z => by subst z; exact mkl _ i b hpos (by exact om_b8b0a216 nb.2.2 nb.2.1 s6 hi) k1 hb2))
/-- a state of the past is back: all else of past as the caller says -/
theorem CVw.bk (h : CVw I R x ha mi ca s n mk g q) (hW : Wf T cn K N I R d) (tx : T x = 1) {n' : Int} (e1 : I' x 5 = I x 5) (e2 : ∀ a j, T a = 2 ∨ T a = 10 → I' a j = I a j) (r5 : ∀ a j, R' a j = R a j) (hn : ∀ pa, R x 7 = some pa → (I pa 0).toInt = n → (I' pa 0).toInt = n') (hm : ∀ a, T a = 11 → I' a 2 = I a 2) (hle : n' ≤ n) (hs' : ∀ nw pa A B, R x 6 = some nw → R x 7 = some pa → R pa 1 = some A → R pa 3 = some B → T3 I' nw s') : CVw I' R' x ha mi ca s' n' mk g q := by
  have nb := h.nb hW tx
  obtain ⟨al, dr, nw, pa, A, B, hp, hs, hA, hB, hD⟩ := h
  obtain ⟨tal, tdr, tnw, tpa, tA, tB⟩ := hp.ro hW tx
  obtain ⟨p1, p2, p3, p4, p5, p6, p7⟩ := hp
  obtain ⟨s1, s2, s3, s4, s5, s6⟩ := hs
  refine ⟨al, dr, nw, pa, A, B, ⟨(r5 _ _).trans p1, (r5 _ _).trans p2, p3, (r5 _ _).trans p4, (r5 _ _).trans p5, (r5 _ _).trans p6, (r5 _ _).trans p7⟩, ⟨by rw [e1]; exact s1, by rw [e2 al 0 (Or.inl tal)]; exact s2, by rw [e2 al 11 (Or.inl tal)]; exact s3, hs' nw pa A B p4 p5 p6 p7, hn pa p5 s5, by rw [hm pa tpa]; exact s6⟩, ?_, ?_, ⟨fun i j b hi hj => by rw [r5, r5]; exact hD.1 i j b hi hj, fun i j b hi hj => by rw [r5, r5]; exact hD.2.1 i j b hi hj, fun i j b hi hj => by rw [r5, r5]; exact hD.2.2 i j b hi hj⟩⟩
  · intro i hi b hb
    rw [r5] at hb
    exact (hA i (by exact om_4d1f453d hle s5 hi) b hb).kp (fun j => e2 b j (Or.inr (CVg.ro hW tA (by exact om_d7a6c92e hle nb.1.2 nb.1.1 s5 hi) hb)))
  · intro i hi b hb
    rw [r5] at hb
    exact (hB i hi b hb).kp (fun j => e2 b j (Or.inr (CVg.roB hW tB (by exact om_b8b0a216 nb.2.2 nb.2.1 s6 hi) hb)))
/-- a mark more -/
theorem CVw.mark (h : CVw I R x ha mi ca s n mk g q) (hW : Wf T cn K N I R d) (tx : T x = 1) (hk : mk ≤ 2) (e1 : I' x 5 = I x 5) (e2 : ∀ a j, T a = 2 ∨ T a = 8 → I' a j = I a j) (r5 : ∀ a j, R' a j = R a j) (hn : ∀ a, T a = 11 → I' a 0 = I a 0) (hm : ∀ pa, R x 7 = some pa → (I pa 2).toInt = mk → (I' pa 2).toInt = mk + 1) (hs' : ∀ nw pa A, R x 6 = some nw → R x 7 = some pa → R pa 3 = some A → MkC T I R I' A nw (I pa 2).toInt.toNat) : CVw I' R' x ha mi ca s n (mk + 1) g (fun i c => if (i : Int) < mk then q i c else s c) := by
  have nb := h.nb hW tx
  obtain ⟨al, dr, nw, pa, A, B, hp, hs, hA, hB, hD⟩ := h
  obtain ⟨tal, tdr, tnw, tpa, tA, tB⟩ := hp.ro hW tx
  obtain ⟨p1, p2, p3, p4, p5, p6, p7⟩ := hp
  obtain ⟨s1, s2, s3, s4, s5, s6⟩ := hs
  have hM := hs' nw pa B p4 p5 p7
  obtain ⟨hb0, e0, t0⟩ := rf34 hW tB (j := (I pa 2).toInt.toNat) (by exact om_dce9018b hk nb.2.1 s6)
  obtain ⟨-, f0, f1, f2, f3⟩ := hM hb0 e0
  refine ⟨al, dr, nw, pa, A, B, ⟨(r5 _ _).trans p1, (r5 _ _).trans p2, p3, (r5 _ _).trans p4, (r5 _ _).trans p5, (r5 _ _).trans p6, (r5 _ _).trans p7⟩, ⟨by rw [e1]; exact s1, by rw [e2 al 0 (Or.inl tal)]; exact s2, by rw [e2 al 11 (Or.inl tal)]; exact s3, s4.kp (fun j => e2 nw j (Or.inr tnw)), by rw [hn pa tpa]; exact s5, hm pa p5 s6⟩, ?_, ?_, ⟨fun i j b hi hj => by rw [r5, r5]; exact hD.1 i j b hi hj, fun i j b hi hj => by rw [r5, r5]; exact hD.2.1 i j b hi hj, fun i j b hi hj => by rw [r5, r5]; exact hD.2.2 i j b hi hj⟩⟩
  · intro i hi b hb
    rw [r5] at hb
    exact (hA i hi b hb).kp (fun j => f0 b j (CVg.ro hW tA (by exact om_a1d0d4f0 nb.1.2 nb.1.1 s5 hi) hb) (fun z => by subst z; exact hD.2.2 i _ b (by exact om_a1d0d4f0 nb.1.2 nb.1.1 s5 hi) (by exact om_dce9018b hk nb.2.1 s6) hb e0))
  · intro i hi b hb
    rw [r5] at hb
    by_cases z : (i : Int) < mk
    · refine ((hB i z b hb).kp (fun j => f0 b j (CVg.roB hW tB (by exact om_b27f82e4 hk nb.2.1 s6 z) hb) (fun y => by subst y; have := hD.2.1 i _ b (by exact om_b27f82e4 hk nb.2.1 s6 z) (by exact om_ec2a3ca5 hk nb.2.1 s6 z) hb e0; exact om_d8ebc744 hk nb.2.1 s6 z this))).cg (fun c _ => ?_)
      show (if (i : Int) < mk then q i c else s c) = q i c
      rw [if_pos z]
    · obtain rfl : i = (I pa 2).toInt.toNat := by exact om_514acbf1 hk nb.2.1 s6 hi z
      rw [e0] at hb; cases hb
      obtain ⟨w0, w1, w2⟩ := s4
      have t : T3 I' hb0 s := ⟨by rw [f1]; exact w0, by rw [f3]; exact w1, by rw [f2]; exact w2⟩
      refine t.cg (fun c _ => ?_)
      show (if (((I pa 2).toInt.toNat : Nat) : Int) < mk then q _ c else s c) = s c
      rw [if_neg z]
/-- an ALP that was refused -/
theorem CVw.alpN (h : CVw I R x ha mi ca s n mk g q) (hW : Wf T cn K N I R d) (tx : T x = 1) (hO : ∀ dr, R x 3 = some dr → FrO 2 dr T I I') (r2 : R' x 2 = R x 2 ∧ R' x 3 = R x 3) (e : (∀ a j, T a = 8 ∨ T a = 10 ∨ T a = 11 → I' a j = I a j) ∧ I' x 5 = I x 5) (r6 : R' x 6 = R x 6) (r7 : R' x 7 = R x 7) (r5 : ∀ a j, T a = 11 ∨ T a = 33 ∨ T a = 34 → R' a j = R a j) : CVw I' R' x ha mi ca s n mk g q := by
  refine h.of hW tx e.2 (fun al j hal => ?_) e.1 r2.1 r2.2 r6 r7 r5
  obtain ⟨al2, dr, nw, pa, A, B, ⟨p1, p2, p3, -⟩, -⟩ := h
  obtain rfl := Option.some.inj (p1.symm.trans hal)
  exact hO dr p2 _ j (hW.rs tx rfl rfl p1) p3
/-- an ALP that was taken -/
theorem CVw.alpY {l0 l5 : Int} (h : CVw I R x ha mi ca s n mk g q) (hW : Wf T cn K N I R d) (tx : T x = 1) (r2 : R' x 2 = R x 3 ∧ R' x 3 = R x 2) (r6 : R' x 6 = R x 6) (r7 : R' x 7 = R x 7) (r5 : ∀ a j, T a = 11 ∨ T a = 33 ∨ T a = 34 → R' a j = R a j) (f1 : (I' x 5).toInt = 1) (f2 : ∀ b, R' x 2 = some b → (I' b 0).toInt = l0) (f3 : ∀ b, R' x 2 = some b → (I' b 11).toInt = l5) (f4 : ∀ b, R' x 6 = some b → (I' b 0).toInt = 0) (f5 : ∀ b, R' x 6 = some b → (I' b 1).toInt = 0) (f6 : ∀ b, R' x 6 = some b → (I' b 2).toInt = 0) (f7 : ∀ b, R' x 7 = some b → (I' b 0).toInt = 0) (f8 : ∀ b, R' x 7 = some b → (I' b 2).toInt = 0) : CVw I' R' x 1 l0 l5 (fun _ => 0) 0 0 g q := by
  obtain ⟨al, dr, nw, pa, A, B, hp, -, -, -, hD⟩ := h
  obtain ⟨tal, tdr, tnw, tpa, tA, tB⟩ := hp.ro hW tx
  obtain ⟨p1, p2, p3, p4, p5, p6, p7⟩ := hp
  have rA : ∀ i, R' A i = R A i := fun i => r5 A i (Or.inr (Or.inl tA))
  have rB : ∀ i, R' B i = R B i := fun i => r5 B i (Or.inr (Or.inr tB))
  have n4 := r6.trans p4
  have n5 := r7.trans p5
  have n1 := r2.1.trans p2
  refine ⟨dr, al, nw, pa, A, B, ⟨n1, r2.2.trans p1, fun z => p3 z.symm, n4, n5, (r5 pa 1 (Or.inl tpa)).trans p6, (r5 pa 3 (Or.inl tpa)).trans p7⟩, ⟨f1, f2 dr n1, f3 dr n1, ⟨f4 nw n4, f6 nw n4, f5 nw n4⟩, f7 pa n5, f8 pa n5⟩, fun i hi => by omega, fun i hi => by omega, ⟨fun i j b hi hj => by rw [rA, rA]; exact hD.1 i j b hi hj, fun i j b hi hj => by rw [rB, rB]; exact hD.2.1 i j b hi hj, fun i j b hi hj => by rw [rA, rB]; exact hD.2.2 i j b hi hj⟩⟩
end CzVw
/-! ===== the reference's view ===== -/
def MVa (I : cz_I) (R : cz_R) (m : Nat) (ha mi ca : Int) : Prop := (ha = 0 ∧ R m 3 = none ∧ mi = 0 ∧ ca = 0) ∨ (ha = 1 ∧ ∃ b, R m 3 = some b ∧ (I b 0).toInt = mi ∧ (I b 5).toInt = ca)
def MVr (I : cz_I) (t : Nat) (n : Int) (g : Nat → Nat → Int) : Prop := ∀ i c : Nat, (i : Int) < n → c < 3 → (I t (15 * i + c)).toInt = g i c
def MVw (I : cz_I) (R : cz_R) (m : Nat) (ha mi ca : Int) (s : Nat → Int) (n mk : Int) (g q : Nat → Nat → Int) : Prop := ∃ w p k, R m 16 = some w ∧ R m 17 = some p ∧ R m 18 = some k ∧ MVa I R m ha mi ca ∧ (∀ c : Nat, c < 3 → (I w c).toInt = s c) ∧ (I m 19).toInt = n ∧ (I m 20).toInt = mk ∧ MVr I p n g ∧ MVr I k mk q
section CzVm
variable {T : Nat → Nat} {cn : Nat} {K N : Nat → Nat} {d d' : Int} {wi wr : List Nat} {I I' : cz_I} {R R' : cz_R} {x m : Nat} {ha mi ca n mk : Int} {s s' : Nat → Int} {g q : Nat → Nat → Int}
theorem MVa.kp (h : MVa I R m ha mi ca) (r3 : R' m 3 = R m 3) (e : ∀ b, R m 3 = some b → I' b 0 = I b 0 ∧ I' b 5 = I b 5) : MVa I' R' m ha mi ca := by
  rcases h with ⟨h1, h2, h3, h4⟩ | ⟨h1, b, h2, h3, h4⟩
  · exact Or.inl ⟨h1, r3.trans h2, h3, h4⟩
  · obtain ⟨e0, e5⟩ := e b h2
    exact Or.inr ⟨h1, b, r3.trans h2, by rw [e0]; exact h3, by rw [e5]; exact h4⟩
theorem MVw.of (h : MVw I R m ha mi ca s n mk g q) (hW : Wf T cn K N I R d) (tm : T m = 15) (e1 : I' m 19 = I m 19) (e2 : I' m 20 = I m 20) (e3 : ∀ a j, T a = 77 ∨ T a = 78 ∨ T a = 79 → I' a j = I a j) (e4 : ∀ a j, T a = 14 → I' a j = I a j) (r3 : R' m 3 = R m 3) (r6 : R' m 16 = R m 16) (r7 : R' m 17 = R m 17) (r8 : R' m 18 = R m 18) : MVw I' R' m ha mi ca s n mk g q := by
  obtain ⟨w, p, k, p1, p2, p3, ha, hs, hn, hm, hp, hk⟩ := h
  have tw : T w = 77 := hW.rs tm rfl rfl p1
  have tp : T p = 78 := hW.rs tm rfl rfl p2
  have tk : T k = 79 := hW.rs tm rfl rfl p3
  refine ⟨w, p, k, r6.trans p1, r7.trans p2, r8.trans p3, ha.kp r3 (fun b hb => ?_), fun c hc => by rw [e3 w c (Or.inl tw)]; exact hs c hc, by rw [e1]; exact hn, by rw [e2]; exact hm, fun i c hi hc => by rw [e3 p _ (Or.inr (Or.inl tp))]; exact hp i c hi hc, fun i c hi hc => by rw [e3 k _ (Or.inr (Or.inr tk))]; exact hk i c hi hc⟩
  have tb : T b = 14 := hW.rsN tm rfl hb
  exact ⟨e4 b 0 tb, e4 b 5 tb⟩
theorem MVw.kp (h : MVw I R m ha mi ca s n mk g q) (hW : Wf T cn K N I R d) (tm : T m = 15) (hS : St T cn K N d' wi wr I R I' R') (c1 : wm wi 15 19 = false) (c2 : wm wi 15 20 = false) (c7 : wi.all (fun c => !(Nat.beq (c / 64) 77)) = true) (c8 : wi.all (fun c => !(Nat.beq (c / 64) 78)) = true) (c9 : wi.all (fun c => !(Nat.beq (c / 64) 79)) = true) (c14 : wi.all (fun c => !(Nat.beq (c / 64) 14)) = true) (w3 : wm wr 15 3 = false) (w6 : wm wr 15 16 = false) (w7 : wm wr 15 17 = false) (w8 : wm wr 15 18 = false) : MVw I' R' m ha mi ca s n mk g q := by
  refine h.of hW tm (hS.cell tm c1) (hS.cell tm c2) (fun a j ta => ?_) (fun a j ta => hS.cell ta (wm_no c14)) (hS.rcell tm w3) (hS.rcell tm w6) (hS.rcell tm w7) (hS.rcell tm w8)
  rcases ta with ta | ta | ta
  · exact hS.cell ta (wm_no c7)
  · exact hS.cell ta (wm_no c8)
  · exact hS.cell ta (wm_no c9)
theorem MVw.nb (h : MVw I R m ha mi ca s n mk g q) (hW : Wf T cn K N I R d) (tm : T m = 15) : (0 ≤ n ∧ n ≤ 12) ∧ 0 ≤ mk ∧ mk ≤ 3 := by
  obtain ⟨w, p, k, -, -, -, -, -, h1, h2, -⟩ := h
  have a := iv15_19 hW tm (rfl : I m 19 = I m 19)
  have b := iv15_20 hW tm (rfl : I m 20 = I m 20)
  exact om_e37029c7 h1 h2 a.2 a.1 b.2 b.1
theorem MVw.keep (h : MVw I R m ha mi ca s n mk g q) (hW : Wf T cn K N I R d) (tm : T m = 15) (hk : ∀ w p, R m 16 = some w → R m 17 = some p → KeM I I' w p (I m 19).toInt) (e1 : (I' m 19).toInt = kn n) (e2 : I' m 20 = I m 20) (e4 : ∀ a j, T a = 14 ∨ T a = 79 → I' a j = I a j) (rr : ∀ a j, R' a j = R a j) (hs' : ∀ w, R m 16 = some w → (∀ c : Nat, c < 3 → (I w c).toInt = s c) → ∀ c : Nat, c < 3 → (I' w c).toInt = s' c) : MVw I' R' m ha mi ca s' (kn n) mk (kg n g s) q := by
  have nb := h.nb hW tm
  obtain ⟨w, p, k, p1, p2, p3, ha, hs, hn, hm, hp, hq⟩ := h
  have tk : T k = 79 := hW.rs tm rfl rfl p3
  have hK := hk w p p1 p2
  rw [hn] at hK
  refine ⟨w, p, k, (rr _ _).trans p1, (rr _ _).trans p2, (rr _ _).trans p3, ha.kp (rr _ _) (fun b hb => ?_), hs' w p1 hs, e1, by rw [e2]; exact hm, fun i c hi hc => ?_, fun i c hi hc => by rw [e4 k _ (Or.inr tk)]; exact hq i c hi hc⟩
  · have tb : T b = 14 := hW.rsN tm rfl hb
    exact ⟨e4 b 0 (Or.inl tb), e4 b 5 (Or.inl tb)⟩
  · obtain ⟨k1, k2⟩ := hK c (by exact om_e72fde65 hc)
    unfold kn at hi
    unfold kg
    by_cases z : (i : Int) < (if n < 12 then n else 11)
    · rw [if_pos z, k1 i z]
      by_cases y : n < 12
      · rw [if_pos y] at z ⊢; exact hp i c z hc
      · rw [if_neg y] at z ⊢; exact hp (i + 1) c (by exact om_b5e8e2d5 nb.1.2 nb.1.1 hn z y) hc
    · rw [if_neg z]
      have hi2 : i = (if n < 12 then n.toNat else 11) := by
        by_cases y : n < 12
        · rw [if_pos y] at z hi ⊢; exact om_34e3f3e2 nb.1.2 nb.1.1 hn hi z y
        · rw [if_neg y] at z hi ⊢; exact om_c3d39fde hi z
      rw [hi2, k2]; exact hs c hc
theorem MVw.bk (h : MVw I R m ha mi ca s n mk g q) (hW : Wf T cn K N I R d) (tm : T m = 15) {n' : Int} (hle : n' ≤ n) (e1 : (I' m 19).toInt = n') (e2 : I' m 20 = I m 20) (e4 : ∀ a j, T a = 14 ∨ T a = 78 ∨ T a = 79 → I' a j = I a j) (rr : ∀ a j, R' a j = R a j) (hs' : ∀ w p k, R m 16 = some w → R m 17 = some p → R m 18 = some k → ∀ c : Nat, c < 3 → (I' w c).toInt = s' c) : MVw I' R' m ha mi ca s' n' mk g q := by
  obtain ⟨w, p, k, p1, p2, p3, ha, hs, hn, hm, hp, hq⟩ := h
  have tp : T p = 78 := hW.rs tm rfl rfl p2
  have tk : T k = 79 := hW.rs tm rfl rfl p3
  refine ⟨w, p, k, (rr _ _).trans p1, (rr _ _).trans p2, (rr _ _).trans p3, ha.kp (rr _ _) (fun b hb => ?_), hs' w p k p1 p2 p3, e1, by rw [e2]; exact hm, fun i c hi hc => by rw [e4 p _ (Or.inr (Or.inl tp))]; exact hp i c (by exact om_3f2b0a5e hle e1 hn hi) hc, fun i c hi hc => by rw [e4 k _ (Or.inr (Or.inr tk))]; exact hq i c hi hc⟩
  have tb : T b = 14 := hW.rsN tm rfl hb
  exact ⟨e4 b 0 (Or.inl tb), e4 b 5 (Or.inl tb)⟩
theorem MVw.mark (h : MVw I R m ha mi ca s n mk g q) (hW : Wf T cn K N I R d) (tm : T m = 15) (e1 : I' m 19 = I m 19) (e2 : (I' m 20).toInt = mk + 1) (e4 : ∀ a j, T a = 14 ∨ T a = 77 ∨ T a = 78 → I' a j = I a j) (rr : ∀ a j, R' a j = R a j) (hs' : ∀ w k, R m 16 = some w → R m 18 = some k → (∀ j : Nat, (j : Int) < 15 * (I m 20).toInt → I' k j = I k j) ∧ ∀ c : Nat, c < 15 → I' k (15 * (I m 20).toInt.toNat + c) = I w c) : MVw I' R' m ha mi ca s n (mk + 1) g (fun i c => if (i : Int) < mk then q i c else s c) := by
  have nb := h.nb hW tm
  obtain ⟨w, p, k, p1, p2, p3, ha, hs, hn, hm, hp, hq⟩ := h
  have tw : T w = 77 := hW.rs tm rfl rfl p1
  have tp : T p = 78 := hW.rs tm rfl rfl p2
  obtain ⟨k1, k2⟩ := hs' w k p1 p3
  rw [hm] at k1 k2
  refine ⟨w, p, k, (rr _ _).trans p1, (rr _ _).trans p2, (rr _ _).trans p3, ha.kp (rr _ _) (fun b hb => ?_), fun c hc => by rw [e4 w _ (Or.inr (Or.inl tw))]; exact hs c hc, by rw [e1]; exact hn, e2, fun i c hi hc => by rw [e4 p _ (Or.inr (Or.inr tp))]; exact hp i c hi hc, fun i c hi hc => ?_⟩
  · have tb : T b = 14 := hW.rsN tm rfl hb
    exact ⟨e4 b 0 (Or.inl tb), e4 b 5 (Or.inl tb)⟩
  · show (I' k (15 * i + c)).toInt = if (i : Int) < mk then q i c else s c
    by_cases z : (i : Int) < mk
    · rw [if_pos z, k1 _ (by exact om_8e36b7e2 hm hc z)]; exact hq i c z hc
    · rw [if_neg z, show 15 * i + c = 15 * mk.toNat + c by exact om_1ee38627 nb.2.2 nb.2.1 hm hi z, k2 c (by exact om_e72fde65 hc)]; exact hs c hc
end CzVm
/-- what both views share: small calls, and without an ALP nothing was done -/
def RgA (ha mi ca : Int) (s : Nat → Int) (n mk : Int) (g q : Nat → Nat → Int) : Prop := (0 ≤ s 0 ∧ s 0 ≤ 63) ∧ (∀ i : Nat, (i : Int) < n → 0 ≤ g i 0 ∧ g i 0 ≤ 63) ∧ (∀ i : Nat, (i : Int) < mk → 0 ≤ q i 0 ∧ q i 0 ≤ 63) ∧ (ha = 0 → s 1 = 0 ∧ n = 0 ∧ mk = 0)
theorem RgA.keep {ha mi ca : Int} {s s' : Nat → Int} {n mk : Int} {g q : Nat → Nat → Int} (h : RgA ha mi ca s n mk g q) (h0 : ¬ ha = 0) (hs : 0 ≤ s' 0 ∧ s' 0 ≤ 63) : RgA ha mi ca s' (kn n) mk (kg n g s) q := by
  obtain ⟨h1, h2, h3, h4⟩ := h
  refine ⟨hs, fun i hi => ?_, h3, fun z => absurd z h0⟩
  unfold kg
  by_cases z : (i : Int) < (if n < 12 then n else 11)
  · rw [if_pos z]
    by_cases y : n < 12
    · rw [if_pos y] at z ⊢; exact h2 i z
    · rw [if_neg y] at z ⊢; exact h2 (i + 1) (by exact om_6db87102 z y)
  · rw [if_neg z]; exact h1
def LawA (I : cz_I) (R : cz_R) (x m : Nat) : Prop := ∃ (ha mi ca : Int) (s : Nat → Int) (n mk : Int) (g q : Nat → Nat → Int), CVw I R x ha mi ca s n mk g q ∧ MVw I R m ha mi ca s n mk g q ∧ RgA ha mi ca s n mk g q
theorem LawA.kp {T : Nat → Nat} {cn : Nat} {K N : Nat → Nat} {d d' : Int} {wi wr : List Nat} {I I' : cz_I} {R R' : cz_R} {x m : Nat} (h : LawA I R x m) (hW : Wf T cn K N I R d) (tx : T x = 1) (tm : T m = 15) (hS : St T cn K N d' wi wr I R I' R') (c1 : wm wi 1 5 = false) (c2 : wi.all (fun c => !(Nat.beq (c / 64) 2)) = true) (c8 : wi.all (fun c => !(Nat.beq (c / 64) 8)) = true) (c10 : wi.all (fun c => !(Nat.beq (c / 64) 10)) = true) (c11 : wi.all (fun c => !(Nat.beq (c / 64) 11)) = true) (w2 : wm wr 1 2 = false) (w3 : wm wr 1 3 = false) (w6 : wm wr 1 6 = false) (w7 : wm wr 1 7 = false) (w11 : wr.all (fun c => !(Nat.beq (c / 64) 11)) = true) (w33 : wr.all (fun c => !(Nat.beq (c / 64) 33)) = true) (w34 : wr.all (fun c => !(Nat.beq (c / 64) 34)) = true) (m1 : wm wi 15 19 = false) (m2 : wm wi 15 20 = false) (m7 : wi.all (fun c => !(Nat.beq (c / 64) 77)) = true) (m8 : wi.all (fun c => !(Nat.beq (c / 64) 78)) = true) (m9 : wi.all (fun c => !(Nat.beq (c / 64) 79)) = true) (m14 : wi.all (fun c => !(Nat.beq (c / 64) 14)) = true) (v3 : wm wr 15 3 = false) (v6 : wm wr 15 16 = false) (v7 : wm wr 15 17 = false) (v8 : wm wr 15 18 = false) : LawA I' R' x m := by
  obtain ⟨ha, mi, ca, s, n, mk, g, q, hC, hM, hR⟩ := h
  exact ⟨ha, mi, ca, s, n, mk, g, q, hC.kp hW tx hS c1 c2 c8 c10 c11 w2 w3 w6 w7 w11 w33 w34, hM.kp hW tm hS m1 m2 m7 m8 m9 m14 v3 v6 v7 v8, hR⟩
