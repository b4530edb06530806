section CzN5
variable {I J J2 I9 : cz_I} {r t ix : Nat} {b g f : Nat → Int} {l l' H n c3 D A x : Int} {e : Nat → Int} {v w o c y : Int32} {Z : cz_N}
theorem cnM_s {g : Nat → Int} {l l' : Int} (h0 : 0 ≤ l) (hl : l' = l + 1) : cnM g l'.toNat = cnM g l.toNat + g l.toNat := by rw [show l'.toNat = l.toNat + 1 by omega]; rfl
theorem if01 {p : Prop} [Decidable p] : (if p then (1 : Int) else 0) = 0 ∨ (if p then (1 : Int) else 0) = 1 := by
  by_cases h : p
  · exact Or.inr (if_pos h)
  · exact Or.inl (if_neg h)
theorem if01' {g : Nat → Int} (h : ∀ k, g k = 0 ∨ g k = 1) (k : Nat) : g k = 0 ∨ g k = 1 := h k
theorem RwS.no {g : Nat → Int} (h : RwD I J r t (cnM g l.toNat)) (h0 : 0 ≤ l) (hl : l' = l + 1) (hg : g l.toNat = 0) : RwD I J r t (cnM g l'.toNat) := h.cg (by rw [cnM_s h0 hl, hg]; omega)
theorem RwS.ye {g : Nat → Int} {v w x : Int32} (h : RwD I J r t (cnM g l.toNat)) (h0 : 0 ≤ l) (h8 : l ≤ 8) (hl : l' = l + 1) (gb : ∀ k, g k = 0 ∨ g k = 1) (hv : J r t = v) (hw : w = v + x) (e : J2 r t = w) (hx : x.toInt = g l.toNat) : RwD I J2 r t (cnM g l'.toNat) :=
  h.ad hv hw e hx (cnM_s h0 hl) (by have z := cnM_b (g := g) l.toNat (fun k _ => gb k); omega) (by have := gb l.toNat; omega)
/-! one turner's cheeses, one by one -/
theorem TS1 {n' : Int} (h : n = tqN b H e l.toNat) (h0 : 0 ≤ l) (hl : l' = l + 1) (hn : n' = n + tqG b H e l.toNat) : n' = tqN b H e l'.toNat := by
  rw [show l'.toNat = l.toNat + 1 by omega, tqN_s, ← h, hn]
theorem TS2n (h : B8 v (fun k => if (k : Int) < l ∧ g k = 1 then 1 else 0)) (h0 : 0 ≤ l) (hl : l' = l + 1) (hg : g l.toNat = 0) : B8 v (fun k => if (k : Int) < l' ∧ g k = 1 then 1 else 0) := h.cg (fun k hk => by
  by_cases z : k = l.toNat
  · subst z; rw [if_neg (fun w => by omega), if_neg (fun w => by omega)]
  · by_cases y : (k : Int) < l ∧ g k = 1
    · rw [if_pos y, if_pos ⟨by omega, y.2⟩]
    · rw [if_neg y, if_neg (fun w => y ⟨by omega, w.2⟩)])
theorem TS2y (h : B8 v (fun k => if (k : Int) < l ∧ g k = 1 then 1 else 0)) (h0 : 0 ≤ l) (h8 : l < 8) (hl : l' = l + 1) (hg : g l.toNat = 1) (hw : w = v ||| (o <<< (c &&& 31))) (ho : o.toInt = 1) (hc : c.toInt = l) : B8 w (fun k => if (k : Int) < l' ∧ g k = 1 then 1 else 0) := by
  rw [hw]
  refine (h.or (B8.sh (c := l.toNat) ho (by omega) (by omega))).cg (fun k hk => ?_)
  by_cases z : k = l.toNat
  · subst z
    rw [if_pos ⟨by omega, hg⟩]
    show 1 = if _ ∨ (if l.toNat = l.toNat then (1 : Int) else 0) = 1 then (1 : Int) else 0
    rw [if_pos (Or.inr (if_pos rfl))]
  · by_cases y : (k : Int) < l ∧ g k = 1
    · rw [if_pos ⟨by omega, y.2⟩]
      show 1 = if (if (k : Int) < l ∧ g k = 1 then (1 : Int) else 0) = 1 ∨ _ then (1 : Int) else 0
      rw [if_pos (Or.inl (if_pos y))]
    · rw [if_neg (fun w => y ⟨by omega, w.2⟩)]
      show 0 = if (if (k : Int) < l ∧ g k = 1 then (1 : Int) else 0) = 1 ∨ (if k = l.toNat then (1 : Int) else 0) = 1 then (1 : Int) else 0
      rw [if_neg y, if_neg z, if_neg (by decide)]
theorem TS3n (h : Nib w (fun k => if (k : Int) < c3 then (if (k : Int) < l then f k else b k) else -2)) (h0 : 0 ≤ l) (hl : l' = l + 1) (hg : f l.toNat = b l.toNat) : Nib w (fun k => if (k : Int) < c3 then (if (k : Int) < l' then f k else b k) else -2) := h.cg (fun k hk => by
  by_cases q : (k : Int) < c3
  · rw [if_pos q, if_pos q]
    by_cases z : k = l.toNat
    · subst z; rw [if_pos (by omega), if_neg (by omega)]; exact hg
    · by_cases y : (k : Int) < l
      · rw [if_pos y, if_pos (by omega)]
      · rw [if_neg y, if_neg (by omega)]
  · rw [if_neg q, if_neg q])
theorem TS3y {x y : Int32} {u : Int} (h : Nib w (fun k => if (k : Int) < c3 then (if (k : Int) < l then f k else b k) else -2)) (h0 : 0 ≤ l) (h8 : l < 8) (hc : l < c3) (hl : l' = l + 1) (hb : b l.toNat = -2) (hf : f l.toNat = u) (u0 : 0 ≤ u) (u4 : u ≤ 4) (hx : x.toInt = u + 1) (hy : y.toInt = 4 * l) : Nib (w ||| (x <<< (y &&& 31))) (fun k => if (k : Int) < c3 then (if (k : Int) < l' then f k else b k) else -2) := by
  refine (h.up (c := l.toNat) (t := u) (by omega) ?_ u0 u4 hx (by omega)).cg (fun k hk => ?_)
  · show (if ((l.toNat : Nat) : Int) < c3 then (if ((l.toNat : Nat) : Int) < l then f l.toNat else b l.toNat) else -2) = -2
    rw [if_pos (by omega), if_neg (by omega)]; exact hb
  · show (if (k : Int) < c3 then (if (k : Int) < l' then f k else b k) else -2) = if k = l.toNat then u else (if (k : Int) < c3 then (if (k : Int) < l then f k else b k) else -2)
    by_cases z : k = l.toNat
    · subst z; rw [if_pos rfl, if_pos (by omega), if_pos (by omega)]; exact hf
    · rw [if_neg z]
      by_cases q : (k : Int) < c3
      · rw [if_pos q, if_pos q]
        by_cases y : (k : Int) < l
        · rw [if_pos y, if_pos (by omega)]
        · rw [if_neg y, if_neg (by omega)]
      · rw [if_neg q, if_neg q]
theorem TSen (h : n = tqN b H e l.toNat) (h0 : 0 ≤ l) (hl : l ≤ c3) (hd : c3 ≤ l ∨ H ≤ n) : n = tqN b H e c3.toNat ∧ ∀ k : Nat, l ≤ (k : Int) → (k : Int) < c3 → tqG b H e k = 0 := by
  rcases hd with z | z
  · exact ⟨by rw [show c3.toNat = l.toNat by omega]; exact h, fun k h1 h2 => by omega⟩
  · refine ⟨?_, fun k h1 h2 => tqG_st (n := l.toNat) (by omega) (by omega)⟩
    rw [show c3.toNat = l.toNat + (c3.toNat - l.toNat) by omega, tqN_st (by omega)]; exact h
theorem TS2e (h : B8 v (fun k => if (k : Int) < l ∧ tqG b H e k = 1 then 1 else 0)) (hl : l ≤ c3) (q : ∀ k : Nat, l ≤ (k : Int) → (k : Int) < c3 → tqG b H e k = 0) : B8 v (fun k => if (k : Int) < c3 ∧ tqG b H e k = 1 then 1 else 0) := h.cg (fun k hk => by
  by_cases y : (k : Int) < l ∧ tqG b H e k = 1
  · rw [if_pos y, if_pos ⟨by omega, y.2⟩]
  · rw [if_neg y, if_neg (fun w => by
      by_cases z : (k : Int) < l
      · exact y ⟨z, w.2⟩
      · have := q k (by omega) w.1; omega)])
theorem TS3e {u : Int} (h : Nib w (fun k => if (k : Int) < c3 then (if (k : Int) < l then tqB u b H e k else b k) else -2)) (q : ∀ k : Nat, l ≤ (k : Int) → (k : Int) < c3 → tqG b H e k = 0) : Nib w (fun k => if (k : Int) < c3 then tqB u b H e k else -2) := h.cg (fun k hk => by
  by_cases z : (k : Int) < c3
  · rw [if_pos z, if_pos z]
    by_cases y : (k : Int) < l
    · rw [if_pos y]
    · rw [if_neg y]; unfold tqB; rw [q k (by omega) z, if_neg (by decide)]
  · rw [if_neg z, if_neg z])
theorem TS4e (hl : l ≤ c3) (h0 : 0 ≤ l) (q : ∀ k : Nat, l ≤ (k : Int) → (k : Int) < c3 → g k = 0) : cnM g c3.toNat = cnM g l.toNat := by
  have z : ∀ d : Nat, l + d ≤ c3 → cnM g (l.toNat + d) = cnM g l.toNat := fun d => by
    induction d with
    | zero => intro _; rfl
    | succ d ih => intro hd; rw [show l.toNat + (d + 1) = l.toNat + d + 1 by omega, cnM, ih (by omega), q _ (by omega) (by omega)]; omega
  rw [show c3.toNat = l.toNat + (c3.toNat - l.toNat) by omega]
  exact z _ (by omega)
theorem tqB_1 {u : Int} {k : Nat} (h : tqG b H e k = 1) : tqB u b H e k = u := if_pos h
theorem tqB_n {u : Int} {k : Nat} (h : tqG b H e k = 0) : tqB u b H e k = b k := if_neg (by omega)
end CzN5
