section CzN4
variable {T : Nat → Nat} {cn : Nat} {K N : Nat → Nat} {d d1 : Int} {I J J1 J2 I9 : cz_I} {R R' R1 R2 : cz_R} {n al sk r k i q ix V ob o m : Nat} {wi wr : List Nat} {Z : cz_N} {c : Nat → Int} {E : Nat → Nat → Int}
/-! an ALP's rows as the night reads them -/
theorem CVa.ct (h : CVa I R al c E) : (I al 0).toInt = c 0 ∧ (I al 1).toInt = c 1 ∧ (I al 5).toInt = c 3 ∧ (I al 9).toInt = c 4 ∧ (I al 11).toInt = c 5 ∧ (I al 7).toInt = c 9 :=
  ⟨h.1, h.2.1 1 (by omega), h.2.1 3 (by omega), h.2.1 4 (by omega), h.2.2.2.1, h.2.2.2.2.1⟩
theorem CVa.ca (h : CVa I R al c E) (hV : R al 12 = some V) (hk : (k : Int) < c 5) (h6 : c 5 ≤ 6) (ho : R V k = some ob) : (I ob 0).toInt = E (19 + k) 0 ∧ (I ob 1).toInt = E (19 + k) 1 ∧ (I ob 2).toInt = E (19 + k) 2 ∧ (I ob 3).toInt = E (19 + k) 3 := by
  have z : ∀ f : Nat, f < 4 → (I ob f).toInt = E (19 + k) f := fun f hf => h.2.2.2.2.2 (19 + k) f ob (by omega) (by unfold Db; rw [if_neg (by omega), if_neg (by omega), if_pos (by omega), if_pos (by omega)]; omega) (ObC hV (by omega) ho)
  exact ⟨z 0 (by omega), z 1 (by omega), z 2 (by omega), z 3 (by omega)⟩
theorem CVa.tu (h : CVa I R al c E) (hV : R al 10 = some V) (hk : (k : Int) < c 4) (h5 : c 4 ≤ 5) (ho : R V k = some ob) : (I ob 0).toInt = E (14 + k) 0 ∧ (I ob 1).toInt = E (14 + k) 1 ∧ (I ob 2).toInt = E (14 + k) 2 ∧ (I ob 3).toInt = E (14 + k) 3 ∧ (I ob 4).toInt = E (14 + k) 4 ∧ (I ob 5).toInt = E (14 + k) 5 := by
  have z : ∀ f : Nat, f < 6 → (I ob f).toInt = E (14 + k) f := fun f hf => h.2.2.2.2.2 (14 + k) f ob (by omega) (by unfold Db; rw [if_neg (by omega), if_pos (by omega), if_pos (by omega)]; omega) (ObT hV (by omega) ho)
  exact ⟨z 0 (by omega), z 1 (by omega), z 2 (by omega), z 3 (by omega), z 4 (by omega), z 5 (by omega)⟩
theorem CVa.hu (h : CVa I R al c E) (hr : R al 6 = some r) (hk : (k : Int) < c 3) : (I r k).toInt = E 35 k :=
  h.2.2.2.2.2 35 k r (by omega) (by unfold Db; rw [if_neg (by omega), if_neg (by omega), if_neg (by omega), if_neg (by omega), if_neg (by omega), if_neg (by omega), if_neg (by omega), if_pos rfl]; exact hk) (ObH hr)
theorem CVa.an (h : CVa I R al c E) (ho : R al 8 = some o) : (I o 0).toInt = E 29 0 :=
  h.2.2.2.2.2 29 0 o (by omega) (by unfold Db; rw [if_neg (by omega), if_neg (by omega), if_neg (by omega), if_neg (by omega), if_pos rfl]; omega) (by unfold Ob; rw [if_neg (by omega), if_neg (by omega), if_neg (by omega), if_neg (by omega), if_pos rfl]; exact ho)
theorem CVa.ar (h : CVa I R al c E) (ho : R al 8 = some o) (hr : R o 1 = some r) (hk : (k : Int) < E 29 0) : (I r k).toInt = E 34 k :=
  h.2.2.2.2.2 34 k r (by omega) (by unfold Db; rw [if_neg (by omega), if_neg (by omega), if_neg (by omega), if_neg (by omega), if_neg (by omega), if_neg (by omega), if_pos rfl]; exact hk) (by unfold Ob; rw [if_neg (by omega), if_neg (by omega), if_neg (by omega), if_neg (by omega), if_neg (by omega), if_neg (by omega), if_pos rfl, ho]; exact hr)
theorem CVa.pr (h : CVa I R al c E) (hr : R al 2 = some r) (hk : k < 5) (h0 : 1 ≤ c 0) : (I r k).toInt = E 36 k :=
  h.2.2.2.2.2 36 k r (by omega) (by unfold Db; rw [if_neg (by omega), if_neg (by omega), if_neg (by omega), if_neg (by omega), if_neg (by omega), if_neg (by omega), if_neg (by omega), if_neg (by omega), if_pos rfl, if_pos h0]; omega) (by unfold Ob; rw [if_neg (by omega), if_neg (by omega), if_neg (by omega), if_neg (by omega), if_neg (by omega), if_neg (by omega), if_neg (by omega), if_neg (by omega)]; exact hr)
theorem alZ_of {v x : Int} (h : CVa I R al (nzc Z) (nzT Z)) (ho : R al 8 = some o) (hr : R o 1 = some r) (hv : v = exI (fun k => if (I r k).toInt = x then 1 else 0) (I o 0).toInt.toNat) : v = alZ Z x := by
  rw [hv, h.an ho]
  exact exI_cg _ (fun k hk => by rw [h.ar ho hr (k := k) (by omega)])
theorem GdN.tu (h : GdN Z) {t : Nat} (ht : (t : Int) < nzc Z 4) : (0 ≤ nzT Z (14 + t) 0 ∧ nzT Z (14 + t) 0 ≤ 3) ∧ (0 ≤ nzT Z (14 + t) 1 ∧ nzT Z (14 + t) 2 ≤ 240) ∧ (1 ≤ nzT Z (14 + t) 3 ∧ nzT Z (14 + t) 3 ≤ 8) ∧ (1 ≤ nzT Z (14 + t) 4 ∧ nzT Z (14 + t) 4 ≤ 20) ∧ 0 ≤ nzT Z (14 + t) 5 ∧ nzT Z (14 + t) 5 ≤ 15 := h.2.2.2.2.2.1 t ht
theorem GdN.ca (h : GdN Z) {k : Nat} (hk : (k : Int) < nzc Z 5) : (0 ≤ nzT Z (19 + k) 0 ∧ nzT Z (19 + k) 0 ≤ 4) ∧ (0 ≤ nzT Z (19 + k) 1 ∧ nzT Z (19 + k) 1 ≤ 239) ∧ (1 ≤ nzT Z (19 + k) 2 ∧ nzT Z (19 + k) 2 ≤ 60) ∧ 0 ≤ nzT Z (19 + k) 3 ∧ nzT Z (19 + k) 3 ≤ 99 := h.2.2.2.2.2.2.1 k hk
theorem GdN.ch (h : GdN Z) {k : Nat} (hk : (k : Int) < nzc Z 3) : 0 ≤ nzT Z 35 k ∧ nzT Z 35 k < nzc Z 1 := h.2.2.2.2.2.2.2.1 k hk
theorem GdN.ac (h : GdN Z) : 0 ≤ nzT Z 29 0 ∧ nzT Z 29 0 ≤ 8 := h.2.2.2.2.2.2.2.2.1
theorem GdN.pr (h : GdN Z) {j : Nat} (hj : j < 5) : 0 ≤ nzT Z 36 j ∧ nzT Z 36 j ≤ 99 := h.2.2.2.2.2.2.2.2.2.1 j hj
theorem pw_mo {c : Int} (hc : 0 ≤ c) : ∀ d : Nat, pw c ≤ pw (c + d)
  | 0 => by rw [show c + ((0 : Nat) : Int) = c by omega]; exact Int.le_refl _
  | d + 1 => by
    have z := pw_mo hc d
    have y := pw_on (q := c + d) (by omega)
    have x := pw_pos (c + d)
    rw [show c + ((d + 1 : Nat) : Int) = c + d + 1 by omega, y]; omega
theorem bt_hi {a c : Int} {k : Nat} (h0 : 0 ≤ a) (h1 : a < pw c) (hc : 0 ≤ c) (hk : c ≤ (k : Int)) : bt a (k : Int) = 0 := by
  have z := pw_mo hc ((k : Int) - c).toNat
  rw [show c + (((k : Int) - c).toNat : Int) = k by omega] at z
  unfold bt; rw [Int.ediv_eq_zero_of_lt h0 (Int.lt_of_lt_of_le h1 z)]; rfl
theorem GdN.up (h : GdN Z) : 0 ≤ nzc Z 9 ∧ nzc Z 9 ≤ 255 := by
  obtain ⟨h1, h2⟩ := h.2.2.2.2.2.2.2.2.2.2.1
  have c3 := h.2.2.1
  have z := pw_mo c3.1 (8 - nzc Z 3).toNat
  rw [show nzc Z 3 + ((8 - nzc Z 3).toNat : Int) = 8 by omega, show pw 8 = 256 from by decide] at z
  exact ⟨h1, by omega⟩
theorem GdN.ub (h : GdN Z) : ∀ k : Nat, k < 8 → ¬ (k : Int) < nzc Z 3 → bt (nzc Z 9) (k : Int) = 0 := fun k _ hk => bt_hi h.2.2.2.2.2.2.2.2.2.2.1.1 h.2.2.2.2.2.2.2.2.2.2.1.2 h.2.2.1.1 (by omega)
theorem GdN.ms (h : GdN Z) : 0 ≤ nzM Z ∧ nzM Z ≤ 63 := h.2.2.2.2.2.2.2.2.2.2.2.1
theorem GdN.ws (h : GdN Z) : 0 ≤ nzW Z ∧ nzW Z ≤ 31 := h.2.2.2.2.2.2.2.2.2.2.2.2
theorem GdN.cs (h : GdN Z) : (0 ≤ nzc Z 0 ∧ nzc Z 0 ≤ 240) ∧ (0 ≤ nzc Z 1 ∧ nzc Z 1 ≤ 4) ∧ (0 ≤ nzc Z 3 ∧ nzc Z 3 ≤ 8) ∧ (0 ≤ nzc Z 4 ∧ nzc Z 4 ≤ 5) ∧ (0 ≤ nzc Z 5 ∧ nzc Z 5 ≤ 6) := ⟨h.1, h.2.1, h.2.2.1, h.2.2.2.1, h.2.2.2.2.1⟩
end CzN4
