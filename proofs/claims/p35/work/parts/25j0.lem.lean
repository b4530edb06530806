/-- no ALP yet -/
def Q00 : Nat → Int := fun _ => 0
theorem Tx.ec {I : cz_I} {R : cz_R} {a b : Nat} {gT : Nat → Int32} {n : Int} (hY : ∀ t, R a 0 = some t → ∀ k : Nat, k < 900 → I t k = gT k) (hU : ∀ r, R a 4 = some r → R r 0 = R a 0) (hb : R a 4 = some b) (h0 : 0 ≤ n) (h1 : n ≤ 900) : ∀ t, R b 0 = some t → Tx I t (gT, n) := by
  intro t ht
  rw [hU b hb] at ht
  exact ⟨h0, h1, hY t ht⟩
