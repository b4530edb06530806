/-! ===== level C: what acts, events and the sky see: views of class and reference ===== -/
def kn (n : Int) : Int := if n < 12 then n + 1 else 12
def kg (n : Int) (g : Nat → Nat → Int) (s : Nat → Int) (i c : Nat) : Int := if (i : Int) < (if n < 12 then n else 11) then g (if n < 12 then i else i + 1) c else s c
/-- a state of the class: calls, clouds, seed, and the clouds' rows -/
def T15 (I : cz_I) (R : cz_R) (h : Nat) (s : Nat → Int) : Prop := (I h 0).toInt = s 0 ∧ (I h 2).toInt = s 1 ∧ (I h 1).toInt = s 2 ∧ ∀ f t, R h 3 = some f → R h 4 = some t → ∀ k : Nat, k < 6 → (k : Int) < s 1 → (I f k).toInt = s (3 + k) ∧ (I t k).toInt = s (9 + k)
theorem T15.kp {I J : cz_I} {R R' : cz_R} {h : Nat} {s : Nat → Int} (q : T15 I R h s) (e : ∀ j, J h j = I h j) (r : ∀ j, R' h j = R h j) (ef : ∀ f j, R h 3 = some f ∨ R h 4 = some f → J f j = I f j) : T15 J R' h s := by
  obtain ⟨q0, q1, q2, q3⟩ := q
  refine ⟨by rw [e 0]; exact q0, by rw [e 2]; exact q1, by rw [e 1]; exact q2, fun f t hf ht k hk hs => ?_⟩
  rw [r] at hf ht
  rw [ef f k (Or.inl hf), ef t k (Or.inr ht)]; exact q3 f t hf ht k hk hs
theorem T15.cg {I : cz_I} {R : cz_R} {h : Nat} {s s' : Nat → Int} (q : T15 I R h s) (e : ∀ c, c < 15 → s' c = s c) : T15 I R h s' := by
  obtain ⟨q0, q1, q2, q3⟩ := q
  refine ⟨by rw [e 0 (by exact om_642b68dd)]; exact q0, by rw [e 1 (by exact om_d8393c6b)]; exact q1, by rw [e 2 (by exact om_61afe204)]; exact q2, fun f t hf ht k hk hs => ?_⟩
  rw [e 1 (by exact om_d8393c6b)] at hs
  rw [e (3 + k) (by exact om_e4b73def hk), e (9 + k) (by exact om_8aa980e7 hk)]; exact q3 f t hf ht k hk hs
/-- a state that was taken over from another -/
theorem T15.rw {I J : cz_I} {R : cz_R} {a o g u : Nat} {s : Nat → Int} (q : T15 I R o s) (hg : R o 3 = some g) (hu : R o 4 = some u) (e0 : (J a 0).toInt = (I o 0).toInt) (e1 : (J a 1).toInt = (I o 1).toInt) (e2 : (J a 2).toInt = (I o 2).toInt) (rw : RwC I R J a o (I o 2).toInt) : T15 J R a s := by
  obtain ⟨q0, q1, q2, q3⟩ := q
  refine ⟨e0.trans q0, e2.trans q1, e1.trans q2, fun f t hf ht k hk hs => ?_⟩
  obtain ⟨h1, h2⟩ := rw f t g u hf ht hg hu k (by rw [q1]; exact hs)
  rw [h1, h2]; exact q3 g u hg hu k hk hs
/-- the fifteen places of kept states -/
def Lk (R : cz_R) (A B e : Nat) : Option Nat := if e < 12 then R A e else R B (e - 12)
def CVp (R : cz_R) (x al dr nw pa A B : Nat) : Prop := R x 2 = some al ∧ R x 3 = some dr ∧ ¬ al = dr ∧ R x 6 = some nw ∧ R x 7 = some pa ∧ R pa 1 = some A ∧ R pa 3 = some B
/-- the places of an ALP's counts in the class: minutes, huts, events, cheeses, turners, calls, slices -/
def csl (k : Nat) : Nat := [0, 1, 3, 5, 9, 11, 13].getD k 0
def CVa (I : cz_I) (R : cz_R) (al : Nat) (c : Nat → Int) (E : Nat → Nat → Int) : Prop := (I al 0).toInt = c 0 ∧ (∀ k, k < 7 → (I al (csl k)).toInt = c k) ∧ (I al 3).toInt = c 2 ∧ (I al 11).toInt = c 5 ∧ AlC I R al c E
def CVg (I : cz_I) (R : cz_R) (A : Nat) (n : Int) (g : Nat → Nat → Int) : Prop := ∀ i : Nat, (i : Int) < n → ∀ h, R A i = some h → T15 I R h (g i)
def CVd (R : cz_R) (A B : Nat) : Prop := (∀ e e' h, e < 15 → e' < 15 → Lk R A B e = some h → Lk R A B e' = some h → e = e') ∧ ∀ e e' h h' f j, (j = 3 ∨ j = 4) → e < 15 → e' < 15 → Lk R A B e = some h → Lk R A B e' = some h' → R h j = some f → R h' j = some f → e = e'
/-- the rows of two ALPS are not the same places -/
def AlS (R : cz_R) (al dr : Nat) : Prop := AlT R al ∧ AlT R dr ∧ AlX R al dr
theorem AlS.sy {R : cz_R} {al dr : Nat} (h : AlS R al dr) : AlS R dr al := ⟨h.2.1, h.1, fun u u' a hu hu' h1 h2 => h.2.2 u' u a hu' hu h2 h1⟩
theorem AlS.cr {T : Nat → Nat} {cn : Nat} {K N : Nat → Nat} {d : Int} {I : cz_I} {R R' : cz_R} {al dr : Nat} (h : AlS R al dr) (hW : Wf T cn K N I R d) (ta : T al = 2) (tr : T dr = 2) (r : ∀ j, R' al j = R al j) (r' : ∀ j, R' dr j = R dr j) (rV : ∀ a j, Rr (T a) → R' a j = R a j) : AlS R' al dr :=
  ⟨h.1.cr hW ta r rV, h.2.1.cr hW tr r' rV, fun u u' a hu hu' h1 h2 => h.2.2 u u' a hu hu' ((Ob.cr hW ta r rV hu).symm.trans h1) ((Ob.cr hW tr r' rV hu').symm.trans h2)⟩
def CVw (I : cz_I) (R : cz_R) (x : Nat) (ha : Int) (c : Nat → Int) (E : Nat → Nat → Int) (s : Nat → Int) (n mk : Int) (g q : Nat → Nat → Int) : Prop := ∃ al dr nw pa A B, CVp R x al dr nw pa A B ∧ (I x 5).toInt = ha ∧ CVa I R al c E ∧ AlS R al dr ∧ T15 I R nw s ∧ (I pa 0).toInt = n ∧ (I pa 2).toInt = mk ∧ CVg I R A n g ∧ CVg I R B mk q ∧ CVd R A B
section CzVw
variable {T : Nat → Nat} {cn : Nat} {K N : Nat → Nat} {d d' : Int} {wi wr : List Nat} {I I' : cz_I} {R R' : cz_R} {x m : Nat} {ha n mk : Int} {c : Nat → Int} {E : Nat → Nat → Int} {s s' : Nat → Int} {g q : Nat → Nat → Int}
theorem CVp.ro {al dr nw pa A B : Nat} (h : CVp R x al dr nw pa A B) (hW : Wf T cn K N I R d) (tx : T x = 1) : T al = 2 ∧ T dr = 2 ∧ T nw = 8 ∧ T pa = 11 ∧ T A = 33 ∧ T B = 34 := by
  obtain ⟨h1, h2, -, h3, h4, h5, h6⟩ := h
  have tp : T pa = 11 := hW.rs tx rfl rfl h4
  exact ⟨hW.rs tx rfl rfl h1, hW.rs tx rfl rfl h2, hW.rs tx rfl rfl h3, tp, hW.rs tp rfl rfl h5, hW.rs tp rfl rfl h6⟩
theorem Lk.ro {A B e h : Nat} (hW : Wf T cn K N I R d) (tA : T A = 33) (tB : T B = 34) (he : e < 15) (hh : Lk R A B e = some h) : T h = 10 := by
  unfold Lk at hh
  by_cases z : e < 12
  · rw [if_pos z] at hh
    obtain ⟨b, e2, tb⟩ := rf33 hW tA z
    rw [hh] at e2; cases e2; exact tb
  · rw [if_neg z] at hh
    obtain ⟨b, e2, tb⟩ := rf34 hW tB (j := e - 12) (by exact om_b29e5653 he z)
    rw [hh] at e2; cases e2; exact tb
theorem LkA {A B i : Nat} (hi : i < 12) : Lk R A B i = R A i := if_pos hi
theorem LkB {A B i : Nat} : Lk R A B (12 + i) = R B i := by
  unfold Lk; rw [if_neg (by exact om_63a30a34), show 12 + i - 12 = i by exact om_76dd66fc]
theorem CVw.nb (h : CVw I R x ha c E s n mk g q) (hW : Wf T cn K N I R d) (tx : T x = 1) : (0 ≤ n ∧ n ≤ 12) ∧ 0 ≤ mk ∧ mk ≤ 3 := by
  obtain ⟨al, dr, nw, pa, A, B, hp, -, -, -, -, h1, h2, -⟩ := h
  obtain ⟨-, -, -, tp, -⟩ := hp.ro hW tx
  have a := iv11_0 hW tp (rfl : I pa 0 = I pa 0)
  have b := iv11_2 hW tp (rfl : I pa 2 = I pa 2)
  exact om_e37029c7 h1 h2 a.2 a.1 b.2 b.1
/-- the rows of a kept state have their roles -/
theorem T15.ro {h : Nat} (hW : Wf T cn K N I R d) (th : T h = 10) {f : Nat} (hf : R h 3 = some f ∨ R h 4 = some f) : T f = 31 ∨ T f = 32 := by
  rcases hf with hf | hf
  · exact Or.inl (hW.rs th rfl rfl hf)
  · exact Or.inr (hW.rs th rfl rfl hf)
theorem T15.roN {h : Nat} (hW : Wf T cn K N I R d) (th : T h = 8) {f : Nat} (hf : R h 3 = some f ∨ R h 4 = some f) : T f = 27 ∨ T f = 28 := by
  rcases hf with hf | hf
  · exact Or.inl (hW.rs th rfl rfl hf)
  · exact Or.inr (hW.rs th rfl rfl hf)
/-- a step that leaves all that the view sees -/
theorem CVw.of (h : CVw I R x ha c E s n mk g q) (hW : Wf T cn K N I R d) (tx : T x = 1) (e1 : I' x 5 = I x 5) (e2 : ∀ al j, R x 2 = some al → I' al j = I al j) (e5 : ∀ al, R x 2 = some al → AlC I R al c E → AlC I' R al c E) (e3 : ∀ a j, R7 (T a) → I' a j = I a j) (r1 : R' x 2 = R x 2) (r2 : R' x 3 = R x 3) (r3 : R' x 6 = R x 6) (r4 : R' x 7 = R x 7) (r5 : ∀ a j, T a = 2 ∨ T a = 8 ∨ T a = 10 ∨ T a = 11 ∨ T a = 19 ∨ T a = 6 ∨ T a = 21 ∨ T a = 22 ∨ T a = 23 ∨ T a = 33 ∨ T a = 34 → R' a j = R a j) : CVw I' R' x ha c E s n mk g q := by
  have nb := h.nb hW tx
  obtain ⟨al, dr, nw, pa, A, B, hp, s1, ⟨v0, v1, v2, v5, v6⟩, ts, s4, s5, s6, hA, hB, hD⟩ := h
  obtain ⟨tal, tdr, tnw, tpa, tA, tB⟩ := hp.ro hW tx
  obtain ⟨p1, p2, p3, p4, p5, p6, p7⟩ := hp
  have rA : ∀ i, R' A i = R A i := fun i => r5 A i (by exact om_1c206d20 tA)
  have rB : ∀ i, R' B i = R B i := fun i => r5 B i (by exact om_a12271cb tB)
  have rL : ∀ e, Lk R' A B e = Lk R A B e := fun e => by unfold Lk; rw [rA, rB]
  have rV : ∀ a j, Rr (T a) → R' a j = R a j := fun a j ta => r5 a j (by unfold Rr at ta; exact om_35642a7c ta)
  have kpt : ∀ h, T h = 10 → ∀ s, T15 I R h s → T15 I' R' h s := fun h th s t => t.kp (fun j => e3 h j (Or.inr (Or.inl th))) (fun j => r5 h j (by exact om_15e6f4de th)) (fun f j hf => e3 f j (by
    unfold R7
    rcases T15.ro hW th hf with tf | tf <;> omega))
  refine ⟨al, dr, nw, pa, A, B, ⟨r1.trans p1, r2.trans p2, p3, r3.trans p4, r4.trans p5, (r5 pa 1 (by exact om_8e3a5b25 tpa)).trans p6, (r5 pa 3 (by exact om_8e3a5b25 tpa)).trans p7⟩, by rw [e1]; exact s1, ⟨by rw [e2 al 0 p1]; exact v0, fun k hk => by rw [e2 al (csl k) p1]; exact v1 k hk, by rw [e2 al 3 p1]; exact v2, by rw [e2 al 11 p1]; exact v5, (e5 al p1 v6).cr hW tal (fun j => r5 al j (by exact om_7ee707df tal)) rV⟩, ts.cr hW tal tdr (fun j => r5 al j (by exact om_7ee707df tal)) (fun j => r5 dr j (by exact om_7ee707df tdr)) rV, s4.kp (fun j => e3 nw j (Or.inl tnw)) (fun j => r5 nw j (by exact om_8a75b180 tnw)) (fun f j hf => e3 f j (by
    unfold R7
    rcases T15.roN hW tnw hf with tf | tf <;> omega)), by rw [e3 pa 0 (by unfold R7; exact om_1c83a965 tpa)]; exact s5, by rw [e3 pa 2 (by unfold R7; exact om_1c83a965 tpa)]; exact s6, ?_, ?_, ?_⟩
  · intro i hi h hh
    rw [rA] at hh
    exact kpt h (Lk.ro (e := i) hW tA tB (by exact om_e5672013 nb.1.2 nb.1.1 s5 hi) ((LkA (by exact om_a1d0d4f0 nb.1.2 nb.1.1 s5 hi)).trans hh)) _ (hA i hi h hh)
  · intro i hi h hh
    rw [rB] at hh
    exact kpt h (Lk.ro (e := 12 + i) hW tA tB (by exact om_140b876c nb.2.2 nb.2.1 s6 hi) (LkB.trans hh)) _ (hB i hi h hh)
  · refine ⟨fun e e' h he he' h1 h2 => ?_, fun e e' h h' f j hj he he' h1 h2 h3 h4 => ?_⟩
    · rw [rL] at h1 h2; exact hD.1 e e' h he he' h1 h2
    · rw [rL] at h1 h2
      rw [r5 h j (by have := Lk.ro hW tA tB he h1; exact om_15e6f4de this)] at h3
      rw [r5 h' j (by have := Lk.ro hW tA tB he' h2; exact om_15e6f4de this)] at h4
      exact hD.2 e e' h h' f j hj he he' h1 h2 h3 h4
/-- nothing was done -/
theorem CVw.sm (h : CVw I R x ha c E s n mk g q) (hW : Wf T cn K N I R d) (tx : T x = 1) (hm : SmC T I R I' R') (e1 : I' x 5 = I x 5) (e2 : ∀ a j, T a = 2 ∨ rdc (T a) = true → I' a j = I a j) : CVw I' R' x ha c E s n mk g q := by
  obtain ⟨rfl, hm⟩ := hm
  exact h.of hW tx e1 (fun al j hal => e2 al j (Or.inl (hW.rs tx rfl rfl hal))) (fun al hal v => v.kp hW (hW.rs tx rfl rfl hal) (e2 al 7 (Or.inl (hW.rs tx rfl rfl hal))) (fun a j ta => e2 a j (Or.inr ta))) hm rfl rfl rfl rfl (fun _ _ _ => rfl)
/-- a state was written into the place h of the fifteen: the others stay -/
theorem CVd.oth {A B h e e0 b : Nat} (hD : CVd R A B) (hW : Wf T cn K N I R d) (tA : T A = 33) (tB : T B = 34) (k2 : FrO 10 h T I I') (k6 : ∀ f, R h 3 = some f → FrO 31 f T I I') (k7 : ∀ f, R h 4 = some f → FrO 32 f T I I') (r10 : ∀ a j, T a = 10 → R' a j = R a j) (he : e < 15) (he0 : e0 < 15) (hne : ¬ e = e0) (h1 : Lk R A B e = some b) (h2 : Lk R A B e0 = some h) {s : Nat → Int} (t : T15 I R b s) : T15 I' R' b s := by
  have tb : T b = 10 := Lk.ro hW tA tB he h1
  have th : T h = 10 := Lk.ro hW tA tB he0 h2
  have nb : ¬ b = h := fun z => hne (by subst z; exact hD.1 e e0 b he he0 h1 h2)
  refine t.kp (fun j => k2 b j tb nb) (fun j => r10 b j tb) (fun f j hf => ?_)
  rcases hf with hf | hf
  · obtain ⟨fh, hfh, -⟩ := rf10_3 hW th
    exact k6 fh hfh f j (hW.rs tb rfl rfl hf) (fun z => hne (by subst z; exact hD.2 e e0 b h f 3 (Or.inl rfl) he he0 h1 h2 hf hfh))
  · obtain ⟨fh, hfh, -⟩ := rf10_4 hW th
    exact k7 fh hfh f j (hW.rs tb rfl rfl hf) (fun z => hne (by subst z; exact hD.2 e e0 b h f 4 (Or.inr rfl) he he0 h1 h2 hf hfh))
/-- an act is kept, and what is now changes -/
theorem CVw.keep (h : CVw I R x ha c E s n mk g q) (hW : Wf T cn K N I R d) (tx : T x = 1) (k : KpC T I R I' R' x) (e1 : I' x 5 = I x 5) (e2 : ∀ a j, T a = 2 ∨ rdc (T a) = true → I' a j = I a j) (e4 : ∀ a, T a = 11 → I' a 2 = I a 2) (r5 : ∀ a j, T a = 1 ∨ T a = 2 ∨ T a = 8 ∨ T a = 10 ∨ T a = 11 ∨ T a = 19 ∨ T a = 6 ∨ T a = 21 ∨ T a = 22 ∨ T a = 23 ∨ T a = 34 → R' a j = R a j) (hs' : ∀ nw, R x 6 = some nw → T15 I R nw s → T15 I' R' nw s') : CVw I' R' x ha c E s' (kn n) mk (kg n g s) q := by
  have nb := h.nb hW tx
  obtain ⟨al, dr, nw, pa, A, B, hp, s1, ⟨v0, v1, v2, v5, v6⟩, ts, s4, s5, s6, hA, hB, hD⟩ := h
  obtain ⟨tal, tdr, tnw, tpa, tA, tB⟩ := hp.ro hW tx
  obtain ⟨p1, p2, p3, p4, p5, p6, p7⟩ := hp
  obtain ⟨⟨h, th, k1, k2, k3, k4, k5, k6, k7, k8, k9, k10⟩, n1, n2⟩ := k nw pa A p4 p5 p6
  rw [s5] at k1 k9 k10 n1 n2
  have rB : ∀ i, R' B i = R B i := fun i => r5 B i (by exact om_3d374aef tB)
  have rV : ∀ a j, Rr (T a) → R' a j = R a j := fun a j ta => r5 a j (by unfold Rr at ta; exact om_0c372391 ta)
  have r10 : ∀ a j, T a = 10 → R' a j = R a j := fun a j ta => r5 a j (by exact om_2db7a52f ta)
  obtain ⟨gw, hgw, -⟩ := rf8_3 hW tnw
  obtain ⟨uw, huw, -⟩ := rf8_4 hW tnw
  have perm : ∀ e : Nat, e < 15 → ∃ e' : Nat, e' < 15 ∧ Lk R' A B e = Lk R A B e' ∧ (n < 12 → e' = e) ∧ (¬ n < 12 → (e < 11 → e' = e + 1) ∧ (e = 11 → e' = 0) ∧ (12 ≤ e → e' = e)) := by
    intro e he
    by_cases y : n < 12
    · exact ⟨e, he, by rw [k9 y], fun _ => rfl, fun z => absurd y z⟩
    · by_cases z : e < 11
      · refine ⟨e + 1, by exact om_5dd8897a he z, ?_, fun z => absurd z y, fun _ => ⟨fun _ => rfl, fun z => by omega, fun z => by omega⟩⟩
        rw [LkA (by exact om_53be9a2e he z), LkA (by exact om_5a2deb61 he z)]; exact (k10 y).1 e z
      · by_cases z2 : e = 11
        · subst z2
          refine ⟨0, by exact om_642b68dd, ?_, fun z => absurd z y, fun _ => ⟨fun z => by exact om_719d5789 z, fun _ => rfl, fun z => by exact om_9370a872 z⟩⟩
          rw [LkA (by exact om_79befcff), LkA (by exact om_acfda0e0)]; exact (k10 y).2
        · refine ⟨e, he, ?_, fun z => absurd z y, fun _ => ⟨fun z => by omega, fun z => by exact om_a1c063d1 z2 z, fun _ => rfl⟩⟩
          unfold Lk; rw [if_neg (by exact om_eb2610ed he z z2), if_neg (by exact om_eb2610ed he z z2), rB]
  have hpos : (if n < 12 then n.toNat else 11) < 12 := by split <;> omega
  obtain ⟨e0, he0, q0, qa, qb⟩ := perm (if n < 12 then n.toNat else 11) (by exact om_e39ec7a0 hpos)
  rw [LkA hpos, k1] at q0
  have oth : ∀ e b, e < 15 → ¬ e = (if n < 12 then n.toNat else 11) → Lk R' A B e = some b → ∀ s, T15 I R b s → T15 I' R' b s := by
    intro e b he hne hb s t
    obtain ⟨e', he', q1, qc, qd⟩ := perm e he
    rw [q1] at hb
    refine hD.oth hW tA tB k2 k6 k7 r10 he' he0 ?_ hb q0.symm t
    by_cases y : n < 12
    · rw [if_pos y] at hne qa; have := qc y; have := qa y; omega
    · rw [if_neg y] at hne qb; have := qd y; have := qb y; omega
  have new : T15 I' R' h s := by
    have t : T15 I' R h s := s4.rw hgw huw k3 k4 k5 k8
    exact t.kp (fun _ => rfl) (fun j => r10 h j th) (fun _ _ _ => rfl)
  refine ⟨al, dr, nw, pa, A, B, ⟨(r5 x 2 (by exact om_ef61ce01 tx)).trans p1, (r5 x 3 (by exact om_ef61ce01 tx)).trans p2, p3, (r5 x 6 (by exact om_ef61ce01 tx)).trans p4, (r5 x 7 (by exact om_ef61ce01 tx)).trans p5, (r5 pa 1 (by exact om_2884494e tpa)).trans p6, (r5 pa 3 (by exact om_2884494e tpa)).trans p7⟩, by rw [e1]; exact s1, ⟨by rw [e2 al 0 (Or.inl tal)]; exact v0, fun k hk => by rw [e2 al (csl k) (Or.inl tal)]; exact v1 k hk, by rw [e2 al 3 (Or.inl tal)]; exact v2, by rw [e2 al 11 (Or.inl tal)]; exact v5, (v6.kp hW tal (e2 al 7 (Or.inl tal)) (fun a j ta => e2 a j (Or.inr ta))).cr hW tal (fun j => r5 al j (by exact om_d217ee96 tal)) rV⟩, ts.cr hW tal tdr (fun j => r5 al j (by exact om_d217ee96 tal)) (fun j => r5 dr j (by exact om_d217ee96 tdr)) rV, hs' nw p4 s4, ?_, by rw [e4 pa tpa]; exact s6, ?_, ?_, ?_⟩
  · unfold kn
    by_cases y : n < 12
    · rw [if_pos y]; exact n1 y
    · rw [if_neg y]; exact n2 y
  · intro i hi b hb
    unfold kn at hi
    by_cases y : n < 12
    · rw [if_pos y] at hi k1 oth
      by_cases z : (i : Int) < n
      · have t := oth i b (by exact om_132c83e6 nb.1.2 nb.1.1 s5 y z) (by exact om_210e4ede nb.1.2 nb.1.1 s5 y z) ((LkA (by exact om_9aebae31 nb.1.2 nb.1.1 s5 y z)).trans hb) _ (hA i z b (by rw [← k9 y]; exact hb))
        refine t.cg (fun c _ => ?_)
        unfold kg; rw [if_pos y, if_pos z, if_pos y]
      · obtain rfl : i = n.toNat := by exact om_1a45cec5 nb.1.2 nb.1.1 s5 hi y z
        rw [k1] at hb
        cases hb
        refine new.cg (fun c _ => ?_)
        unfold kg; rw [if_pos y, if_neg z]
    · rw [if_neg y] at hi k1 oth
      by_cases z : (i : Int) < 11
      · have t := oth i b (by exact om_5cf5d549 hi z) (by exact om_ea531e69 hi z) ((LkA (by exact om_3289f3da hi z)).trans hb) _ (hA (i + 1) (by exact om_1d722754 nb.1.2 nb.1.1 s5 hi y z) b (by rw [← (k10 y).1 i (by exact om_d6fe5539 hi z)]; exact hb))
        refine t.cg (fun c _ => ?_)
        unfold kg; rw [if_neg y, if_pos z, if_neg y]
      · obtain rfl : i = 11 := by exact om_c3d39fde hi z
        rw [k1] at hb
        cases hb
        refine new.cg (fun c _ => ?_)
        unfold kg; rw [if_neg y, if_neg z]
  · intro i hi b hb
    exact oth (12 + i) b (by exact om_140b876c nb.2.2 nb.2.1 s6 hi) (by exact om_fc2c1662 hpos) (LkB.trans hb) _ (hB i hi b (by rw [← rB]; exact hb))
  · refine ⟨fun e e' b he he' h1 h2 => ?_, fun e e' b b' f j hj he he' h1 h2 h3 h4 => ?_⟩
    · obtain ⟨i, hi, q1, qc, qd⟩ := perm e he
      obtain ⟨i', hi', q2, qe, qf⟩ := perm e' he'
      rw [q1] at h1
      rw [q2] at h2
      have := hD.1 i i' b hi hi' h1 h2
      by_cases y : n < 12
      · have := qc y; have := qe y; omega
      · have := qd y; have := qf y; omega
    · obtain ⟨i, hi, q1, qc, qd⟩ := perm e he
      obtain ⟨i', hi', q2, qe, qf⟩ := perm e' he'
      rw [q1] at h1
      rw [q2] at h2
      rw [r10 b j (Lk.ro hW tA tB hi h1)] at h3
      rw [r10 b' j (Lk.ro hW tA tB hi' h2)] at h4
      have := hD.2 i i' b b' f j hj hi hi' h1 h2 h3 h4
      by_cases y : n < 12
      · have := qc y; have := qe y; omega
      · have := qd y; have := qf y; omega
/-- what is now was changed, acts perhaps fewer -/
theorem CVw.bk (h : CVw I R x ha c E s n mk g q) (hW : Wf T cn K N I R d) (tx : T x = 1) {n' : Int} (e1 : I' x 5 = I x 5) (e2 : ∀ a j, T a = 2 ∨ rdc (T a) = true ∨ T a = 10 ∨ T a = 31 ∨ T a = 32 → I' a j = I a j) (hn : ∀ pa, R x 7 = some pa → (I pa 0).toInt = n → (I' pa 0).toInt = n') (hm : ∀ a, T a = 11 → I' a 2 = I a 2) (hle : n' ≤ n) (hs' : ∀ nw pa A B, R x 6 = some nw → R x 7 = some pa → R pa 1 = some A → R pa 3 = some B → T15 I R nw s → CVg I R A n g → CVg I R B mk q → T15 I' R nw s') : CVw I' R x ha c E s' n' mk g q := by
  have nb := h.nb hW tx
  obtain ⟨al, dr, nw, pa, A, B, hp, s1, ⟨v0, v1, v2, v5, v6⟩, ts, s4, s5, s6, hA, hB, hD⟩ := h
  obtain ⟨tal, tdr, tnw, tpa, tA, tB⟩ := hp.ro hW tx
  have hp' := hp
  obtain ⟨p1, p2, p3, p4, p5, p6, p7⟩ := hp
  have kpt : ∀ h, T h = 10 → ∀ s, T15 I R h s → T15 I' R h s := fun h th s t => t.kp (fun j => e2 h j (by exact om_1ea27953 th)) (fun _ => rfl) (fun f j hf => e2 f j (by
    rcases T15.ro hW th hf with tf | tf <;> omega))
  refine ⟨al, dr, nw, pa, A, B, hp', by rw [e1]; exact s1, ⟨by rw [e2 al 0 (by exact om_a2a0f402 tal)]; exact v0, fun k hk => by rw [e2 al (csl k) (by exact om_a2a0f402 tal)]; exact v1 k hk, by rw [e2 al 3 (by exact om_a2a0f402 tal)]; exact v2, by rw [e2 al 11 (by exact om_a2a0f402 tal)]; exact v5, v6.kp hW tal (e2 al 7 (by exact om_a2a0f402 tal)) (fun a j ta => e2 a j (Or.inr (Or.inl ta)))⟩, ts, hs' nw pa A B p4 p5 p6 p7 s4 hA hB, hn pa p5 s5, by rw [hm pa tpa]; exact s6, ?_, ?_, hD⟩
  · intro i hi b hb
    exact kpt b (Lk.ro (e := i) hW tA tB (by exact om_be675107 hle nb.1.2 nb.1.1 s5 hi) ((LkA (by exact om_d7a6c92e hle nb.1.2 nb.1.1 s5 hi)).trans hb)) _ (hA i (by exact om_4d1f453d hle s5 hi) b hb)
  · intro i hi b hb
    exact kpt b (Lk.ro (e := 12 + i) hW tA tB (by exact om_140b876c nb.2.2 nb.2.1 s6 hi) (LkB.trans hb)) _ (hB i hi b hb)
/-- a mark more -/
theorem CVw.mark (h : CVw I R x ha c E s n mk g q) (hW : Wf T cn K N I R d) (tx : T x = 1) (hk : mk ≤ 2) (e1 : I' x 5 = I x 5) (e2 : ∀ a j, T a = 2 ∨ rdc (T a) = true ∨ T a = 8 ∨ T a = 27 ∨ T a = 28 → I' a j = I a j) (hn : ∀ a, T a = 11 → I' a 0 = I a 0) (hm : ∀ pa, R x 7 = some pa → (I pa 2).toInt = mk → (I' pa 2).toInt = mk + 1) (hs' : ∀ nw pa A, R x 6 = some nw → R x 7 = some pa → R pa 3 = some A → MkC T I R I' A nw (I pa 2).toInt.toNat) : CVw I' R x ha c E s n (mk + 1) g (fun i c => if (i : Int) < mk then q i c else s c) := by
  have nb := h.nb hW tx
  obtain ⟨al, dr, nw, pa, A, B, hp, s1, ⟨v0, v1, v2, v5, v6⟩, ts, s4, s5, s6, hA, hB, hD⟩ := h
  obtain ⟨tal, tdr, tnw, tpa, tA, tB⟩ := hp.ro hW tx
  have hp' := hp
  obtain ⟨p1, p2, p3, p4, p5, p6, p7⟩ := hp
  obtain ⟨gw, hgw, -⟩ := rf8_3 hW tnw
  obtain ⟨uw, huw, -⟩ := rf8_4 hW tnw
  have hM := hs' nw pa B p4 p5 p7
  obtain ⟨hb0, e0, t0⟩ := rf34 hW tB (j := (I pa 2).toInt.toNat) (by exact om_dce9018b hk nb.2.1 s6)
  obtain ⟨-, f0, f1, f2, f3, f4, f5, f6⟩ := hM hb0 e0
  have oth : ∀ e b, e < 15 → ¬ e = 12 + (I pa 2).toInt.toNat → Lk R A B e = some b → ∀ s, T15 I R b s → T15 I' R b s := fun e b he hne hb s t => hD.oth (R' := R) hW tA tB f0 f4 f5 (fun _ _ _ => rfl) he (e0 := 12 + (I pa 2).toInt.toNat) (by exact om_ce4126b7 hk nb.2.1 s6) hne hb (LkB.trans e0) t
  refine ⟨al, dr, nw, pa, A, B, hp', by rw [e1]; exact s1, ⟨by rw [e2 al 0 (by exact om_60f33271 tal)]; exact v0, fun k hk => by rw [e2 al (csl k) (by exact om_60f33271 tal)]; exact v1 k hk, by rw [e2 al 3 (by exact om_60f33271 tal)]; exact v2, by rw [e2 al 11 (by exact om_60f33271 tal)]; exact v5, v6.kp hW tal (e2 al 7 (by exact om_60f33271 tal)) (fun a j ta => e2 a j (Or.inr (Or.inl ta)))⟩, ts, s4.kp (fun j => e2 nw j (by exact om_78d0de01 tnw)) (fun _ => rfl) (fun f j hf => e2 f j (by
    rcases T15.roN hW tnw hf with tf | tf <;> omega)), by rw [hn pa tpa]; exact s5, hm pa p5 s6, ?_, ?_, hD⟩
  · intro i hi b hb
    exact oth i b (by exact om_e5672013 nb.1.2 nb.1.1 s5 hi) (by exact om_d9158207 hk nb.1.2 nb.1.1 nb.2.1 s5 s6 hi) ((LkA (by exact om_a1d0d4f0 nb.1.2 nb.1.1 s5 hi)).trans hb) _ (hA i hi b hb)
  · intro i hi b hb
    by_cases z : (i : Int) < mk
    · refine (oth (12 + i) b (by exact om_b30733ee hk nb.2.1 s6 z) (by exact om_01c3fd3e hk nb.2.1 s6 z) (LkB.trans hb) _ (hB i z b hb)).cg (fun c _ => ?_)
      show (if (i : Int) < mk then q i c else s c) = q i c
      rw [if_pos z]
    · obtain rfl : i = (I pa 2).toInt.toNat := by exact om_514acbf1 hk nb.2.1 s6 hi z
      rw [e0] at hb; cases hb
      have t : T15 I' R hb0 s := s4.rw hgw huw f1 f2 f3 f6
      refine t.cg (fun c _ => ?_)
      show (if (((I pa 2).toInt.toNat : Nat) : Int) < mk then q _ c else s c) = s c
      rw [if_neg z]
theorem AlC.fre {al dr : Nat} (h : AlC I R al c E) (hX : AlX R al dr) (hW : Wf T cn K N I R d) (ta : T al = 2) (e7 : I' al 7 = I al 7) (fr : FrK R dr (fun _ => True) T I I') : AlC I' R al c E :=
  ⟨by rw [e7]; exact h.1, fun u j a hu hd ho => by
    rw [fr a j (by rw [Ob.ro hW ta hu ho]; exact obr_rdc u) (fun u' hu' _ ho' => hX u u' a hu hu' ho ho')]
    exact h.2 u j a hu hd ho⟩
/-- an ALP that was refused -/
theorem CVw.alpN (h : CVw I R x ha c E s n mk g q) (hW : Wf T cn K N I R d) (tx : T x = 1) (hO : ∀ dr, R x 3 = some dr → FrO 2 dr T I I') (hF : ∀ dr, R x 3 = some dr → FrK R dr (fun _ => True) T I I') (r2 : R' x 2 = R x 2 ∧ R' x 3 = R x 3) (e : (∀ a j, R7 (T a) → I' a j = I a j) ∧ I' x 5 = I x 5) (r6 : R' x 6 = R x 6) (r7 : R' x 7 = R x 7) (r5 : ∀ a j, T a = 2 ∨ T a = 8 ∨ T a = 10 ∨ T a = 11 ∨ T a = 19 ∨ T a = 6 ∨ T a = 21 ∨ T a = 22 ∨ T a = 23 ∨ T a = 33 ∨ T a = 34 → R' a j = R a j) : CVw I' R' x ha c E s n mk g q := by
  refine h.of hW tx e.2 (fun al j hal => ?_) (fun al hal v => ?_) e.1 r2.1 r2.2 r6 r7 r5
  · obtain ⟨al2, dr, nw, pa, A, B, ⟨p1, p2, p3, -⟩, -⟩ := h
    obtain rfl := Option.some.inj (p1.symm.trans hal)
    exact hO dr p2 _ j (hW.rs tx rfl rfl p1) p3
  · obtain ⟨al2, dr, nw, pa, A, B, ⟨p1, p2, p3, -⟩, -, -, ts, -⟩ := h
    obtain rfl := Option.some.inj (p1.symm.trans hal)
    exact v.fre ts.2.2 hW (hW.rs tx rfl rfl p1) (hO dr p2 _ 7 (hW.rs tx rfl rfl p1) p3) (hF dr p2)
/-- an ALP that was taken -/
theorem CVw.alpY {c' : Nat → Int} {E' : Nat → Nat → Int} (h : CVw I R x ha c E s n mk g q) (hW : Wf T cn K N I R d) (tx : T x = 1) (r2 : R' x 2 = R x 3 ∧ R' x 3 = R x 2) (r6 : R' x 6 = R x 6) (r7 : R' x 7 = R x 7) (r5 : ∀ a j, T a = 2 ∨ T a = 8 ∨ T a = 10 ∨ T a = 11 ∨ T a = 19 ∨ T a = 6 ∨ T a = 21 ∨ T a = 22 ∨ T a = 23 ∨ T a = 33 ∨ T a = 34 → R' a j = R a j) (f1 : (I' x 5).toInt = 1) (f2 : ∀ b, R' x 2 = some b → (I' b 0).toInt = c' 0 ∧ (∀ k, k < 7 → (I' b (csl k)).toInt = c' k) ∧ (I' b 3).toInt = c' 2 ∧ (I' b 11).toInt = c' 5) (f3 : ∀ dr, R x 3 = some dr → AlT R dr → AlC I' R dr c' E') (f4 : ∀ b, R' x 6 = some b → (I' b 0).toInt = 0) (f5 : ∀ b, R' x 6 = some b → (I' b 1).toInt = 0) (f6 : ∀ b, R' x 6 = some b → (I' b 2).toInt = 0) (f7 : ∀ b, R' x 7 = some b → (I' b 0).toInt = 0) (f8 : ∀ b, R' x 7 = some b → (I' b 2).toInt = 0) : CVw I' R' x 1 c' E' (fun _ => 0) 0 0 g q := by
  obtain ⟨al, dr, nw, pa, A, B, hp, -, -, ts, -, -, -, -, -, hD⟩ := h
  obtain ⟨tal, tdr, tnw, tpa, tA, tB⟩ := hp.ro hW tx
  obtain ⟨p1, p2, p3, p4, p5, p6, p7⟩ := hp
  have rA : ∀ i, R' A i = R A i := fun i => r5 A i (by exact om_1c206d20 tA)
  have rB : ∀ i, R' B i = R B i := fun i => r5 B i (by exact om_a12271cb tB)
  have rL : ∀ e, Lk R' A B e = Lk R A B e := fun e => by unfold Lk; rw [rA, rB]
  have rV : ∀ a j, Rr (T a) → R' a j = R a j := fun a j ta => r5 a j (by unfold Rr at ta; exact om_35642a7c ta)
  have n4 := r6.trans p4
  have n5 := r7.trans p5
  have n1 := r2.1.trans p2
  obtain ⟨g0, g1, g2, g5⟩ := f2 dr n1
  refine ⟨dr, al, nw, pa, A, B, ⟨n1, r2.2.trans p1, fun z => p3 z.symm, n4, n5, (r5 pa 1 (by exact om_8e3a5b25 tpa)).trans p6, (r5 pa 3 (by exact om_8e3a5b25 tpa)).trans p7⟩, f1, ⟨g0, g1, g2, g5, (f3 dr p2 ts.2.1).cr hW tdr (fun j => r5 dr j (by exact om_7ee707df tdr)) rV⟩, ts.sy.cr hW tdr tal (fun j => r5 dr j (by exact om_7ee707df tdr)) (fun j => r5 al j (by exact om_7ee707df tal)) rV, ⟨f4 nw n4, f6 nw n4, f5 nw n4, fun f t _ _ k _ hk => by have hk : (k : Int) < 0 := hk; omega⟩, f7 pa n5, f8 pa n5, fun i hi => by omega, fun i hi => by omega, ⟨fun e e' h he he' h1 h2 => ?_, fun e e' h h' f j hj he he' h1 h2 h3 h4 => ?_⟩⟩
  · rw [rL] at h1 h2; exact hD.1 e e' h he he' h1 h2
  · rw [rL] at h1 h2
    rw [r5 h j (by have := Lk.ro hW tA tB he h1; exact om_15e6f4de this)] at h3
    rw [r5 h' j (by have := Lk.ro hW tA tB he' h2; exact om_15e6f4de this)] at h4
    exact hD.2 e e' h h' f j hj he he' h1 h2 h3 h4
end CzVw
