/-! ===== level C: the reference's view ===== -/
/-- fifteen ints that tell a state -/
def S15 (f : Nat → Int32) (s : Nat → Int) : Prop := (∀ c, c < 3 → (f c).toInt = s c) ∧ ∀ k : Nat, k < 6 → (k : Int) < s 1 → (f (3 + k)).toInt = s (3 + k) ∧ (f (9 + k)).toInt = s (9 + k)
theorem S15.eq {f f' : Nat → Int32} {s : Nat → Int} (h : S15 f s) (e : ∀ c, c < 15 → f' c = f c) : S15 f' s := ⟨fun c hc => by rw [e c (by exact om_e72fde65 hc)]; exact h.1 c hc, fun k hk hs => by rw [e (3 + k) (by exact om_e4b73def hk), e (9 + k) (by exact om_8aa980e7 hk)]; exact h.2 k hk hs⟩
theorem S15.cg {f : Nat → Int32} {s s' : Nat → Int} (h : S15 f s) (e : ∀ c, c < 15 → s' c = s c) : S15 f s' := ⟨fun c hc => by rw [e c (by exact om_e72fde65 hc)]; exact h.1 c hc, fun k hk hs => by
  rw [e 1 (by exact om_d8393c6b)] at hs
  rw [e (3 + k) (by exact om_e4b73def hk), e (9 + k) (by exact om_8aa980e7 hk)]; exact h.2 k hk hs⟩
def MVa (I : cz_I) (R : cz_R) (m : Nat) (ha : Int) (c : Nat → Int) (E : Nat → Nat → Int) : Prop := (ha = 0 ∧ R m 3 = none ∧ ∀ i, c i = 0) ∨ (ha = 1 ∧ ∃ b, R m 3 = some b ∧ (I b 0).toInt = c 0 ∧ (∀ k, k < 7 → (I b k).toInt = c k) ∧ (I b 2).toInt = c 2 ∧ (I b 5).toInt = c 5 ∧ AlM I R b c E)
def MVr (I : cz_I) (t : Nat) (n : Int) (g : Nat → Nat → Int) : Prop := ∀ i : Nat, (i : Int) < n → S15 (fun c => I t (15 * i + c)) (g i)
def MVw (I : cz_I) (R : cz_R) (m : Nat) (ha : Int) (c : Nat → Int) (E : Nat → Nat → Int) (s : Nat → Int) (n mk : Int) (g q : Nat → Nat → Int) : Prop := ∃ w p k, R m 16 = some w ∧ R m 17 = some p ∧ R m 18 = some k ∧ MVa I R m ha c E ∧ S15 (I w) s ∧ (I m 19).toInt = n ∧ (I m 20).toInt = mk ∧ MVr I p n g ∧ MVr I k mk q
section CzVm
variable {T : Nat → Nat} {cn : Nat} {K N : Nat → Nat} {d d' : Int} {wi wr : List Nat} {I I' : cz_I} {R R' : cz_R} {x m : Nat} {ha n mk : Int} {c : Nat → Int} {E : Nat → Nat → Int} {s s' : Nat → Int} {g q : Nat → Nat → Int}
theorem MVa.kp (h : MVa I R m ha c E) (r3 : R' m 3 = R m 3) (e : ∀ b, R m 3 = some b → (∀ j, I' b j = I b j) ∧ (AlM I R b c E → AlM I' R' b c E)) : MVa I' R' m ha c E := by
  rcases h with ⟨h1, h2, h3⟩ | ⟨h1, b, h2, h3, h4, h5, h6, h7⟩
  · exact Or.inl ⟨h1, r3.trans h2, h3⟩
  · obtain ⟨e0, e5⟩ := e b h2
    exact Or.inr ⟨h1, b, r3.trans h2, by rw [e0]; exact h3, fun k hk => by rw [e0]; exact h4 k hk, by rw [e0]; exact h5, by rw [e0]; exact h6, e5 h7⟩
theorem MVw.nb (h : MVw I R m ha c E s n mk g q) (hW : Wf T cn K N I R d) (tm : T m = 15) : (0 ≤ n ∧ n ≤ 12) ∧ 0 ≤ mk ∧ mk ≤ 3 := by
  obtain ⟨w, p, k, -, -, -, -, -, h1, h2, -⟩ := h
  have a := iv15_19 hW tm (rfl : I m 19 = I m 19)
  have b := iv15_20 hW tm (rfl : I m 20 = I m 20)
  exact om_e37029c7 h1 h2 a.2 a.1 b.2 b.1
theorem MVw.h01 (h : MVw I R m ha c E s n mk g q) : ha = 0 ∨ ha = 1 := by
  obtain ⟨w, p, k, -, -, -, hav, -⟩ := h
  rcases hav with ⟨h1, -⟩ | ⟨h1, -⟩
  · exact Or.inl h1
  · exact Or.inr h1
/-- the roles of the reference's ALP, in one word -/
def R14 (r : Nat) : Prop := r = 14 ∨ rdm r = true
theorem MVa.kq (h : MVa I R m ha c E) (hW : Wf T cn K N I R d) (tm : T m = 15) (e : ∀ a j, R14 (T a) → I' a j = I a j) : MVa I' R m ha c E := h.kp rfl (fun b hb => by
  have tb : T b = 14 := hW.rsN tm rfl hb
  exact ⟨fun j => e b j (Or.inl tb), fun v => v.kp hW tb (e b 8 (Or.inl tb)) (fun a j ta => e a j (Or.inr ta))⟩)
theorem MVw.of (h : MVw I R m ha c E s n mk g q) (hW : Wf T cn K N I R d) (tm : T m = 15) (e1 : I' m 19 = I m 19) (e2 : I' m 20 = I m 20) (e3 : ∀ a j, T a = 77 ∨ T a = 78 ∨ T a = 79 → I' a j = I a j) (e4 : ∀ a j, R14 (T a) → I' a j = I a j) : MVw I' R m ha c E s n mk g q := by
  obtain ⟨w, p, k, p1, p2, p3, hav, hs, hn, hm, hp, hk⟩ := h
  have tw : T w = 77 := hW.rs tm rfl rfl p1
  have tp : T p = 78 := hW.rs tm rfl rfl p2
  have tk : T k = 79 := hW.rs tm rfl rfl p3
  exact ⟨w, p, k, p1, p2, p3, hav.kq hW tm e4, hs.eq (fun c _ => e3 w c (Or.inl tw)), by rw [e1]; exact hn, by rw [e2]; exact hm, fun i hi => (hp i hi).eq (fun c _ => e3 p _ (Or.inr (Or.inl tp))), fun i hi => (hk i hi).eq (fun c _ => e3 k _ (Or.inr (Or.inr tk)))⟩
theorem MVw.sm (h : MVw I R m ha c E s n mk g q) (hW : Wf T cn K N I R d) (tm : T m = 15) (hm : SmM T I I' m) (e4 : ∀ a j, R14 (T a) → I' a j = I a j) : MVw I' R m ha c E s n mk g q := h.of hW tm hm.1 hm.2.1 hm.2.2 e4
theorem MVw.keep (h : MVw I R m ha c E s n mk g q) (hW : Wf T cn K N I R d) (tm : T m = 15) (hk : ∀ w p, R m 16 = some w → R m 17 = some p → KeM I I' w p (I m 19).toInt) (e1 : (I' m 19).toInt = kn n) (e2 : I' m 20 = I m 20) (e4 : ∀ a j, R14 (T a) ∨ T a = 79 → I' a j = I a j) (hs' : ∀ w, R m 16 = some w → S15 (I w) s → S15 (I' w) s') : MVw I' R m ha c E s' (kn n) mk (kg n g s) q := by
  have nb := h.nb hW tm
  obtain ⟨w, p, k, p1, p2, p3, hav, hs, hn, hm, hp, hq⟩ := h
  have tk : T k = 79 := hW.rs tm rfl rfl p3
  have hK := hk w p p1 p2
  rw [hn] at hK
  refine ⟨w, p, k, p1, p2, p3, hav.kq hW tm (fun a j ta => e4 a j (Or.inl ta)), hs' w p1 hs, e1, by rw [e2]; exact hm, fun i hi => ?_, fun i hi => (hq i hi).eq (fun c _ => e4 k _ (Or.inr tk))⟩
  unfold kn at hi
  by_cases y : n < 12
  · rw [if_pos y] at hi
    by_cases z : (i : Int) < n
    · have t : S15 (fun c => I' p (15 * i + c)) (g i) := (hp i z).eq (fun c hc => by
        have u := (hK c hc).1 i (by rw [if_pos y]; exact z)
        rw [if_pos y] at u; exact u)
      refine t.cg (fun c _ => ?_)
      unfold kg; rw [if_pos y, if_pos z, if_pos y]
    · obtain rfl : i = n.toNat := by exact om_1a45cec5 nb.1.2 nb.1.1 hn hi y z
      have t : S15 (fun c => I' p (15 * n.toNat + c)) s := hs.eq (fun c hc => by
        have u := (hK c hc).2
        rw [if_pos y] at u; exact u)
      refine t.cg (fun c _ => ?_)
      unfold kg; rw [if_pos y, if_neg z]
  · rw [if_neg y] at hi
    by_cases z : (i : Int) < 11
    · have t : S15 (fun c => I' p (15 * i + c)) (g (i + 1)) := (hp (i + 1) (by exact om_1d722754 nb.1.2 nb.1.1 hn hi y z)).eq (fun c hc => by
        have u := (hK c hc).1 i (by rw [if_neg y]; exact z)
        rw [if_neg y] at u; exact u)
      refine t.cg (fun c _ => ?_)
      unfold kg; rw [if_neg y, if_pos z, if_neg y]
    · obtain rfl : i = 11 := by exact om_c3d39fde hi z
      have t : S15 (fun c => I' p (15 * 11 + c)) s := hs.eq (fun c hc => by
        have u := (hK c hc).2
        rw [if_neg y] at u; exact u)
      refine t.cg (fun c _ => ?_)
      unfold kg; rw [if_neg y, if_neg z]
theorem MVw.bk (h : MVw I R m ha c E s n mk g q) (hW : Wf T cn K N I R d) (tm : T m = 15) {n' : Int} (hle : n' ≤ n) (e1 : (I' m 19).toInt = n') (e2 : I' m 20 = I m 20) (e4 : ∀ a j, R14 (T a) ∨ T a = 78 ∨ T a = 79 → I' a j = I a j) (hs' : ∀ w p k, R m 16 = some w → R m 17 = some p → R m 18 = some k → S15 (I w) s → MVr I p n g → MVr I k mk q → S15 (I' w) s') : MVw I' R m ha c E s' n' mk g q := by
  obtain ⟨w, p, k, p1, p2, p3, hav, hs, hn, hm, hp, hq⟩ := h
  have tp : T p = 78 := hW.rs tm rfl rfl p2
  have tk : T k = 79 := hW.rs tm rfl rfl p3
  exact ⟨w, p, k, p1, p2, p3, hav.kq hW tm (fun a j ta => e4 a j (Or.inl ta)), hs' w p k p1 p2 p3 hs hp hq, e1, by rw [e2]; exact hm, fun i hi => (hp i (by exact om_3f2b0a5e hle e1 hn hi)).eq (fun c _ => e4 p _ (Or.inr (Or.inl tp))), fun i hi => (hq i hi).eq (fun c _ => e4 k _ (Or.inr (Or.inr tk)))⟩
theorem MVw.mark (h : MVw I R m ha c E s n mk g q) (hW : Wf T cn K N I R d) (tm : T m = 15) (e1 : I' m 19 = I m 19) (e2 : (I' m 20).toInt = mk + 1) (e4 : ∀ a j, R14 (T a) ∨ T a = 77 ∨ T a = 78 → I' a j = I a j) (hs' : ∀ w k, R m 16 = some w → R m 18 = some k → (∀ j : Nat, (j : Int) < 15 * (I m 20).toInt → I' k j = I k j) ∧ ∀ c : Nat, c < 15 → I' k (15 * (I m 20).toInt.toNat + c) = I w c) : MVw I' R m ha c E s n (mk + 1) g (fun i c => if (i : Int) < mk then q i c else s c) := by
  have nb := h.nb hW tm
  obtain ⟨w, p, k, p1, p2, p3, hav, hs, hn, hm, hp, hq⟩ := h
  have tw : T w = 77 := hW.rs tm rfl rfl p1
  have tp : T p = 78 := hW.rs tm rfl rfl p2
  obtain ⟨k1, k2⟩ := hs' w k p1 p3
  rw [hm] at k1 k2
  refine ⟨w, p, k, p1, p2, p3, hav.kq hW tm (fun a j ta => e4 a j (Or.inl ta)), hs.eq (fun c _ => e4 w _ (Or.inr (Or.inl tw))), by rw [e1]; exact hn, e2, fun i hi => (hp i hi).eq (fun c _ => e4 p _ (Or.inr (Or.inr tp))), fun i hi => ?_⟩
  by_cases z : (i : Int) < mk
  · have t : S15 (fun c => I' k (15 * i + c)) (q i) := (hq i z).eq (fun c hc => k1 _ (by exact om_db359dc2 hm z hc))
    refine t.cg (fun c _ => ?_)
    show (if (i : Int) < mk then q i c else s c) = q i c
    rw [if_pos z]
  · obtain rfl : i = mk.toNat := by exact om_35418019 nb.2.2 nb.2.1 hm hi z
    have t : S15 (fun c => I' k (15 * mk.toNat + c)) s := hs.eq (fun c hc => k2 c hc)
    refine t.cg (fun c _ => ?_)
    show (if ((mk.toNat : Nat) : Int) < mk then q _ c else s c) = s c
    rw [if_neg z]
theorem MVw.ha0 (h : MVw I R m ha c E s n mk g q) (hr : R m 3 = none) : ha = 0 := by
  obtain ⟨w, p, k, -, -, -, ha, -⟩ := h
  rcases ha with ⟨h1, -⟩ | ⟨h1, b, h2, -⟩
  · exact h1
  · rw [hr] at h2; cases h2
theorem MVw.ha1 (h : MVw I R m ha c E s n mk g q) (hr : ∃ b, R m 3 = some b) : ha = 1 ∧ ∃ b, R m 3 = some b ∧ (I b 0).toInt = c 0 ∧ (∀ k, k < 7 → (I b k).toInt = c k) ∧ (I b 2).toInt = c 2 ∧ (I b 5).toInt = c 5 ∧ AlM I R b c E := by
  obtain ⟨w, p, k, -, -, -, ha, -⟩ := h
  obtain ⟨b0, hr⟩ := hr
  rcases ha with ⟨h1, h2, -⟩ | ⟨h1, h2⟩
  · rw [hr] at h2; cases h2
  · exact ⟨h1, h2⟩
theorem kn_of {a b n : Int} (h1 : a < 12 → b = a + 1) (h2 : a ≥ 12 → b = 12) (e : a = n) : b = kn n := by
  subst e; unfold kn; split <;> omega
end CzVm
