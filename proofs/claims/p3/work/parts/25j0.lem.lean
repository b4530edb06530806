/-- no ALP yet -/
def Q00 : Nat → Int := fun _ => 0
theorem Tx.ec {T : Nat → Nat} {cn : Nat} {K N : Nat → Nat} {I : cz_I} {R : cz_R} {d : Int} {a b : Nat} {gT : Nat → Int32} {n : Int} (hY : ∀ t, R a 0 = some t → ∀ k : Nat, k < 900 → I t k = gT k) (hU : ∀ a b, T a = 17 → T b = 17 → a = b) (hW : Wf T cn K N I R d) (ta : T a = 1) (tb : T b = 7) (h0 : 0 ≤ n) (h1 : n ≤ 900) : ∀ t, R b 0 = some t → Tx I t (gT, n) := by
  intro t ht
  have tt : T t = 17 := hW.rs tb rfl rfl ht
  obtain ⟨u, hu, tu⟩ := rf1_0 hW ta
  obtain rfl := hU t u tt tu
  exact ⟨h0, h1, hY t hu⟩
