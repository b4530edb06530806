/-- no ALP yet -/
def Q00 : Nat → Int := fun _ => 0
theorem Tx.ec {I : cz_I} {R : cz_R} {a b : Nat} {gT : Nat → Int32} {n : Int} (hY : ∀ t, R a 0 = some t → ∀ k : Nat, k < 900 → I t k = gT k) (hU : ∀ r, R a 4 = some r → R r 0 = R a 0) (hb : R a 4 = some b) (h0 : 0 ≤ n) (h1 : n ≤ 900) : ∀ t, R b 0 = some t → Tx I t (gT, n) := by
  intro t ht
  rw [hU b hb] at ht
  exact ⟨h0, h1, hY t ht⟩
theorem AlC.z {I : cz_I} {R : cz_R} {al : Nat} (h7 : (I al 7).toInt = 0) (h8 : ∀ o, R al 8 = some o → (I o 0).toInt = 0) : AlC I R al Q00 E00 := by
  refine ⟨h7, fun u j a hu hd ho => ?_⟩
  have z : u = 29 := by
    simp only [Db, Q00, E00] at hd
    repeat' (first | exact om_f5567495 hu hd | split at hd)
  subst z
  have hd : (j : Int) < 1 := hd
  obtain rfl : j = 0 := by exact om_512deefc hd
  exact h8 a ho
theorem AlM.z {I : cz_I} {R : cz_R} {b : Nat} (h8 : (I b 8).toInt = 0) : AlM I R b Q00 E00 := by
  refine ⟨h8, fun u j a hu hd ho => ?_⟩
  exfalso
  simp only [Dbm, Db, Q00, E00] at hd
  repeat' (first | exact om_89de0e34 hu hd | split at hd)
/-- the counts that a text tells: minutes, huts, events, cheeses, turners, calls, slices; 9: who lies up, as bits -/
def cnt (B : cz_B) : Nat → Int
  | 0 => lsA0 B 901 0 Q00
  | 1 => lsA1 B 901 0 Q00
  | 2 => lsA2 B 901 0 Q00
  | 3 => lsA3 B 901 0 Q00
  | 4 => lsA4 B 901 0 Q00
  | 5 => lsA5 B 901 0 Q00
  | 6 => lsA6 B 901 0 Q00
  | 9 => lsA9 B 901 0 Q00
  | _ => 0
