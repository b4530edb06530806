/-! ===== roles: what lies at a place ===== -/
def rkL : List Nat := [99, 10, 0, 2, 9, 1, 4, 7, 3, 3, 3, 6, 8, 5, 11, 12, 11, 13, 14, 18, 14, 21, 17, 20, 14, 15, 15, 14, 14, 14, 14, 14, 14, 19, 19, 16, 16, 16, 14, 14, 14, 14, 14, 14, 14, 14, 14, 14, 14, 14, 14, 14, 14, 14, 14, 14, 14, 14, 14, 14, 14, 14, 16, 14, 14, 14, 14, 14, 14, 14, 14, 14, 14, 15, 14, 14, 13, 14, 14, 14, 14, 16, 16, 16, 16, 16, 16, 14, 14, 14, 14, 14, 14, 16, 15]
def rnL : List Nat := [0, 0, 0, 0, 0, 0, 0, 0, 0, 0, 0, 0, 0, 0, 0, 0, 0, 900, 5, 14, 8, 5, 6, 4, 8, 8, 5, 6, 6, 6, 6, 6, 6, 12, 3, 240, 240, 240, 240, 240, 240, 240, 240, 240, 240, 8, 8, 8, 8, 5, 5, 5, 5, 5, 14, 14, 14, 14, 8, 8, 4, 32, 8, 5, 5, 5, 5, 5, 5, 6, 6, 6, 6, 13, 13, 13, 900, 15, 180, 45, 15, 240, 960, 960, 240, 240, 960, 1920, 5, 8, 8, 8, 8, 1920, 1]
def rk (r : Nat) : Nat := rkL.getD r 99
def rn (r : Nat) : Nat := rnL.getD r 0
theorem beqF {a b : Nat} (h : a ≠ b) : Nat.beq a b = false := by
  cases hq : Nat.beq a b with
  | false => rfl
  | true => exact absurd (Nat.eq_of_beq_eq_true hq) h
abbrev ivF : Int × Int := (-2147483648, 2147483647)
def wiv (k : Nat) : Int × Int := cond (Nat.beq k 0) ivF (cond (Nat.beq k 1) (0, 6) (cond (Nat.beq k 2) (0, 65536) (0, 240)))
def riv (r j : Nat) : Int × Int := cond (Nat.beq r 1) (cond (Nat.beq j 1) (((0 : Int), (900 : Int))) (cond (Nat.beq j 5) (((0 : Int), (1 : Int))) (cond (Nat.beq j 9) (((0 : Int), (1 : Int))) (cond (Nat.beq j 11) (((0 : Int), (1 : Int))) (ivF))))) (cond (Nat.beq r 2) (cond (Nat.beq j 0) (((0 : Int), (240 : Int))) (cond (Nat.beq j 1) (((0 : Int), (4 : Int))) (cond (Nat.beq j 3) (((0 : Int), (14 : Int))) (cond (Nat.beq j 5) (((0 : Int), (8 : Int))) (cond (Nat.beq j 9) (((0 : Int), (5 : Int))) (cond (Nat.beq j 11) (((0 : Int), (6 : Int))) (cond (Nat.beq j 13) (((0 : Int), (4 : Int))) (ivF)))))))) (cond (Nat.beq r 3) (cond (Nat.beq j 2) (((0 : Int), (240 : Int))) (cond (Nat.beq j 3) (((0 : Int), (240 : Int))) (ivF))) (cond (Nat.beq r 6) (cond (Nat.beq j 0) (((0 : Int), (8 : Int))) (ivF)) (cond (Nat.beq r 7) (cond (Nat.beq j 1) (((0 : Int), (900 : Int))) (cond (Nat.beq j 2) (((0 : Int), (900 : Int))) (cond (Nat.beq j 3) (((0 : Int), (5 : Int))) (cond (Nat.beq j 4) (((0 : Int), (900 : Int))) (cond (Nat.beq j 7) (((0 : Int), (240 : Int))) (cond (Nat.beq j 8) (((0 : Int), (240 : Int))) (cond (Nat.beq j 9) (((0 : Int), (240 : Int))) (cond (Nat.beq j 11) (((0 : Int), (1 : Int))) (cond (Nat.beq j 12) (((0 : Int), (1 : Int))) (ivF)))))))))) (cond (Nat.beq r 8) (cond (Nat.beq j 1) (((0 : Int), (65536 : Int))) (cond (Nat.beq j 2) (((0 : Int), (6 : Int))) (ivF))) (cond (Nat.beq r 9) (cond (Nat.beq j 1) (((0 : Int), (65536 : Int))) (cond (Nat.beq j 2) (((0 : Int), (6 : Int))) (ivF))) (cond (Nat.beq r 10) (cond (Nat.beq j 1) (((0 : Int), (65536 : Int))) (cond (Nat.beq j 2) (((0 : Int), (6 : Int))) (ivF))) (cond (Nat.beq r 11) (cond (Nat.beq j 0) (((0 : Int), (12 : Int))) (cond (Nat.beq j 2) (((0 : Int), (3 : Int))) (ivF))) (cond (Nat.beq r 12) (cond (Nat.beq j 0) (((0 : Int), (240 : Int))) (cond (Nat.beq j 10) (((0 : Int), (240 : Int))) (ivF))) (cond (Nat.beq r 14) (cond (Nat.beq j 0) (((0 : Int), (240 : Int))) (cond (Nat.beq j 1) (((0 : Int), (4 : Int))) (cond (Nat.beq j 2) (((0 : Int), (14 : Int))) (cond (Nat.beq j 3) (((0 : Int), (8 : Int))) (cond (Nat.beq j 4) (((0 : Int), (5 : Int))) (cond (Nat.beq j 5) (((0 : Int), (6 : Int))) (cond (Nat.beq j 6) (((0 : Int), (4 : Int))) (cond (Nat.beq j 7) (((0 : Int), (13 : Int))) (cond (Nat.beq j 8) (((0 : Int), (8 : Int))) (cond (Nat.beq j 9) (((0 : Int), (1 : Int))) (ivF))))))))))) (cond (Nat.beq r 15) (cond (Nat.beq j 6) (((0 : Int), (900 : Int))) (cond (Nat.beq j 7) (((0 : Int), (900 : Int))) (cond (Nat.beq j 8) (((0 : Int), (900 : Int))) (cond (Nat.beq j 9) (((0 : Int), (5 : Int))) (cond (Nat.beq j 10) (((0 : Int), (900 : Int))) (cond (Nat.beq j 19) (((0 : Int), (12 : Int))) (cond (Nat.beq j 20) (((0 : Int), (3 : Int))) (ivF)))))))) (cond (Nat.beq r 16) (cond (Nat.beq j 0) (((0 : Int), (240 : Int))) (cond (Nat.beq j 1) (((0 : Int), (4 : Int))) (cond (Nat.beq j 2) (((0 : Int), (14 : Int))) (cond (Nat.beq j 3) (((0 : Int), (8 : Int))) (cond (Nat.beq j 4) (((0 : Int), (5 : Int))) (cond (Nat.beq j 5) (((0 : Int), (6 : Int))) (cond (Nat.beq j 6) (((0 : Int), (4 : Int))) (cond (Nat.beq j 7) (((0 : Int), (13 : Int))) (cond (Nat.beq j 8) (((0 : Int), (8 : Int))) (cond (Nat.beq j 9) (((0 : Int), (1 : Int))) (ivF))))))))))) (cond (Nat.beq r 17) ((((-128) : Int), (127 : Int))) (cond (Nat.beq r 24) (((0 : Int), (239 : Int))) (cond (Nat.beq r 27) (((0 : Int), (240 : Int))) (cond (Nat.beq r 28) (((0 : Int), (240 : Int))) (cond (Nat.beq r 29) (((0 : Int), (240 : Int))) (cond (Nat.beq r 30) (((0 : Int), (240 : Int))) (cond (Nat.beq r 31) (((0 : Int), (240 : Int))) (cond (Nat.beq r 32) (((0 : Int), (240 : Int))) (cond (Nat.beq r 35) (((0 : Int), (1 : Int))) (cond (Nat.beq r 36) (((0 : Int), (1 : Int))) (cond (Nat.beq r 37) (((0 : Int), (1 : Int))) (cond (Nat.beq r 43) (((0 : Int), (239 : Int))) (cond (Nat.beq r 55) ((((-2) : Int), (3 : Int))) (cond (Nat.beq r 56) (((0 : Int), (240 : Int))) (cond (Nat.beq r 57) (((0 : Int), (240 : Int))) (cond (Nat.beq r 58) (((0 : Int), (3 : Int))) (cond (Nat.beq r 59) (((0 : Int), (239 : Int))) (cond (Nat.beq r 60) (((0 : Int), (8 : Int))) (cond (Nat.beq r 61) (((0 : Int), (239 : Int))) (cond (Nat.beq r 62) (((0 : Int), (1 : Int))) (cond (Nat.beq r 76) ((((-128) : Int), (127 : Int))) (cond (Nat.beq r 77) (wiv (j % 15)) (cond (Nat.beq r 78) (wiv (j % 15)) (cond (Nat.beq r 79) (wiv (j % 15)) (cond (Nat.beq r 80) (wiv (j % 15)) (cond (Nat.beq r 81) (((0 : Int), (1 : Int))) (cond (Nat.beq r 82) (((0 : Int), (1 : Int))) (cond (Nat.beq r 83) (((0 : Int), (1 : Int))) (cond (Nat.beq r 84) (((0 : Int), (1 : Int))) (cond (Nat.beq r 85) (((0 : Int), (1 : Int))) (cond (Nat.beq r 86) (((0 : Int), (1 : Int))) (cond (Nat.beq r 93) (((0 : Int), (1 : Int))) (ivF)))))))))))))))))))))))))))))))))))))))))))))
def iok (r j : Nat) (x : Int32) : Prop := (riv r j).1 ≤ x.toInt ∧ x.toInt ≤ (riv r j).2
/-- the role of a reference: 0 nothing is known, 1000 and more: may be null -/
def rrf (r j : Nat) : Nat := cond (Nat.beq r 1) (cond (Nat.beq j 0) (17) (cond (Nat.beq j 2) (2) (cond (Nat.beq j 3) (2) (cond (Nat.beq j 4) (7) (cond (Nat.beq j 6) (8) (cond (Nat.beq j 7) (11) (cond (Nat.beq j 8) (12) (cond (Nat.beq j 10) (13) (cond (Nat.beq j 12) (9) (cond (Nat.beq j 13) (12) (cond (Nat.beq j 14) (13) (0)))))))))))) (cond (Nat.beq r 2) (cond (Nat.beq j 2) (18) (cond (Nat.beq j 4) (19) (cond (Nat.beq j 6) (20) (cond (Nat.beq j 8) (6) (cond (Nat.beq j 10) (21) (cond (Nat.beq j 12) (22) (cond (Nat.beq j 14) (23) (0)))))))) (cond (Nat.beq r 6) (cond (Nat.beq j 1) (24) (0)) (cond (Nat.beq r 7) (cond (Nat.beq j 0) (17) (cond (Nat.beq j 10) (2) (cond (Nat.beq j 13) (25) (cond (Nat.beq j 14) (26) (0))))) (cond (Nat.beq r 8) (cond (Nat.beq j 3) (27) (cond (Nat.beq j 4) (28) (0))) (cond (Nat.beq r 9) (cond (Nat.beq j 3) (29) (cond (Nat.beq j 4) (30) (0))) (cond (Nat.beq r 10) (cond (Nat.beq j 3) (31) (cond (Nat.beq j 4) (32) (0))) (cond (Nat.beq r 11) (cond (Nat.beq j 1) (33) (cond (Nat.beq j 3) (34) (0))) (cond (Nat.beq r 12) (cond (Nat.beq j 2) (35) (cond (Nat.beq j 3) (36) (cond (Nat.beq j 4) (37) (cond (Nat.beq j 5) (38) (cond (Nat.beq j 6) (39) (cond (Nat.beq j 7) (40) (cond (Nat.beq j 8) (41) (cond (Nat.beq j 9) (42) (cond (Nat.beq j 11) (43) (0)))))))))) (cond (Nat.beq r 13) (cond (Nat.beq j 0) (2) (cond (Nat.beq j 1) (12) (cond (Nat.beq j 3) (44) (cond (Nat.beq j 4) (45) (cond (Nat.beq j 5) (46) (cond (Nat.beq j 6) (47) (cond (Nat.beq j 7) (48) (cond (Nat.beq j 8) (49) (cond (Nat.beq j 9) (50) (cond (Nat.beq j 10) (51) (cond (Nat.beq j 11) (52) (0)))))))))))) (cond (Nat.beq r 14) (cond (Nat.beq j 10) (53) (cond (Nat.beq j 11) (54) (cond (Nat.beq j 12) (55) (cond (Nat.beq j 13) (56) (cond (Nat.beq j 14) (57) (cond (Nat.beq j 15) (58) (cond (Nat.beq j 16) (59) (cond (Nat.beq j 17) (60) (cond (Nat.beq j 18) (61) (cond (Nat.beq j 19) (62) (cond (Nat.beq j 20) (63) (cond (Nat.beq j 21) (64) (cond (Nat.beq j 22) (65) (cond (Nat.beq j 23) (66) (cond (Nat.beq j 24) (67) (cond (Nat.beq j 25) (68) (cond (Nat.beq j 26) (69) (cond (Nat.beq j 27) (70) (cond (Nat.beq j 28) (71) (cond (Nat.beq j 29) (72) (cond (Nat.beq j 30) (73) (cond (Nat.beq j 31) (74) (cond (Nat.beq j 32) (75) (0)))))))))))))))))))))))) (cond (Nat.beq r 15) (cond (Nat.beq j 3) (1014) (cond (Nat.beq j 4) (1014) (cond (Nat.beq j 5) (76) (cond (Nat.beq j 16) (77) (cond (Nat.beq j 17) (78) (cond (Nat.beq j 18) (79) (cond (Nat.beq j 21) (81) (cond (Nat.beq j 22) (82) (cond (Nat.beq j 23) (83) (cond (Nat.beq j 24) (84) (cond (Nat.beq j 25) (85) (cond (Nat.beq j 26) (86) (cond (Nat.beq j 27) (87) (cond (Nat.beq j 28) (88) (cond (Nat.beq j 29) (89) (cond (Nat.beq j 30) (90) (cond (Nat.beq j 31) (91) (cond (Nat.beq j 32) (92) (cond (Nat.beq j 33) (93) (cond (Nat.beq j 35) (80) (0))))))))))))))))))))) (cond (Nat.beq r 19) (cond (Nat.ble (j + 1) 14) 3 1003) (cond (Nat.beq r 21) (cond (Nat.ble (j + 1) 5) 4 1004) (cond (Nat.beq r 22) (cond (Nat.ble (j + 1) 6) 5 1005) (cond (Nat.beq r 23) (cond (Nat.ble (j + 1) 4) 6 1006) (cond (Nat.beq r 33) (cond (Nat.ble (j + 1) 12) 10 1010) (cond (Nat.beq r 34) (cond (Nat.ble (j + 1) 3) 10 1010) (0))))))))))))))))))
def okR (T : Nat → Nat) (q : Nat) (x : Option Nat) : Prop := q = 0 ∨ (1000 ≤ q ∧ x = none) ∨ (0 < q ∧ ∃ b, x = some b ∧ T b = cond (Nat.ble 1000 q) (q - 1000) q)
theorem okR_nn {T : Nat → Nat} {q : Nat} {x : Option Nat} (h : okR T q x) (h0 : Nat.ble 1 q = true) (h1 : Nat.ble 1000 q = false) : ∃ b, x = some b ∧ T b = q := by
  have h2 := Nat.le_of_ble_eq_true h0
  have h3 : ¬ 1000 ≤ q := fun z => by rw [Nat.ble_eq.mpr z] at h1; cases h1
  rcases h with h | h | ⟨-, b, h4, h5⟩
  · omega
  · exact absurd h.1 h3
  · rw [h1] at h5; exact ⟨b, h4, h5⟩
theorem okR_e (q : Nat) : cond (Nat.ble 1000 (q + 1000)) (q + 1000 - 1000) (q + 1000) = q := by
  have h : Nat.ble 1000 (q + 1000) = true := Nat.ble_eq.mpr (Nat.le_add_left 1000 q)
  rw [h, cond_true, Nat.add_sub_cancel]
theorem okR_nu {T : Nat → Nat} {q : Nat} {x : Option Nat} (h : okR T (q + 1000) x) : x = none ∨ ∃ b, x = some b ∧ T b = q := by
  rcases h with h | h | ⟨-, b, h4, h5⟩
  · exact om_ece1e9d1 h
  · exact Or.inl h.2
  · exact Or.inr ⟨b, h4, h5.trans (okR_e q)⟩
theorem okR_in {T : Nat → Nat} {q b : Nat} (h0 : Nat.ble 1 q = true) (h1 : Nat.ble 1000 q = false) (t : T b = q) : okR T q (some b) := Or.inr (Or.inr ⟨Nat.le_of_ble_eq_true h0, b, rfl, by rw [h1]; exact t⟩)
theorem okR_inN {T : Nat → Nat} {q b : Nat} (t : T b = q) : okR T (q + 1000) (some b) := Or.inr (Or.inr ⟨by exact om_23e5f84c t, b, rfl, t.trans (okR_e q).symm⟩)
def mef (r j : Nat) : Bool := cond (Nat.beq r 54) false (cond (Nat.beq r 55) false (cond (Nat.beq r 14) (!(Nat.beq j 0 || Nat.beq j 2 || Nat.beq j 3 || Nat.beq j 4 || Nat.beq j 7)) true))
def mefR (r j : Nat) : Bool := cond (Nat.beq r 14) (!(Nat.beq j 11 || Nat.beq j 12)) (cond (Nat.beq r 15) (!(Nat.beq j 3 || Nat.beq j 4)) true)
/-- what the reference's events, names and rows keep to -/
def Me (T : Nat → Nat) (I : cz_I) (R : cz_R) (d : Int) : Prop :=
  (∀ a, T a = 14 → ∀ k1 k2, R a 11 = some k1 → R a 12 = some k2 → ∀ i : Nat, (i : Int) < (I a 2).toInt → ((I k1 i).toInt = 2 ∨ (I k1 i).toInt = 3) → 0 ≤ (I k2 i).toInt) ∧
  (∀ m, T m = 15 → ∀ a, R m 4 = some a → (I a 7).toInt = (I a 3).toInt + (I a 4).toInt + d) ∧
  (∀ m, T m = 15 → ∀ a, R m 3 = some a → 1 ≤ (I a 0).toInt) ∧
  (∀ a b, T a = 14 → T b = 14 → R a 11 = R b 11 → a = b) ∧ (∀ a b, T a = 14 → T b = 14 → R a 12 = R b 12 → a = b) ∧ ∀ a b, T a = 15 → T b = 15 → a = b
def Wf (T : Nat → Nat) (cn : Nat) (K N : Nat → Nat) (I : cz_I) (R : cz_R) (d : Int) : Prop :=
  (∀ a, T a ≠ 0 → a < cn ∧ K a = rk (T a) ∧ N a = rn (T a)) ∧ (∀ a j, iok (T a) j (I a j)) ∧ (∀ a j, okR T (rrf (T a) j) (R a j)) ∧ Me T I R d
theorem uI_at {I : cz_I} {a j : Nat} {x : Int32} : cz_uI I a j x a j = x := by simp [cz_uI, upd]
theorem uI_ne {I : cz_I} {a j b i : Nat} {x : Int32} (h : ¬ (b = a ∧ i = j)) : cz_uI I a j x b i = I b i := by
  unfold cz_uI
  by_cases hb : b = a
  · subst hb
    have hi : ¬ i = j := fun q => h ⟨rfl, q⟩
    simp [upd, hi]
  · simp [hb]
theorem uR_at {R : cz_R} {a j : Nat} {x : Option Nat} : cz_uR R a j x a j = x := by simp [cz_uR, va_up]
theorem uR_ne {R : cz_R} {a j b i : Nat} {x : Option Nat} (h : ¬ (b = a ∧ i = j)) : cz_uR R a j x b i = R b i := by
  unfold cz_uR
  by_cases hb : b = a
  · subst hb
    have hi : ¬ i = j := fun q => h ⟨rfl, q⟩
    simp [va_up, hi]
  · simp [hb]
section CzWf
variable {T : Nat → Nat} {cn : Nat} {K N : Nat → Nat} {I I' I0 : cz_I} {R R' R0 : cz_R} {d : Int} {a b j r : Nat} {x v : Int32}
theorem Wf.kd (h : Wf T cn K N I R d) (t : T a = r) (h0 : Nat.beq r 0 = false) : K a = rk r := by
  have h1 : T a ≠ 0 := by rw [t]; intro z; rw [z] at h0; cases h0
  rw [(h.1 a h1).2.1, t]
theorem Wf.ln (h : Wf T cn K N I R d) (t : T a = r) (h0 : Nat.beq r 0 = false) : N a = rn r := by
  have h1 : T a ≠ 0 := by rw [t]; intro z; rw [z] at h0; cases h0
  rw [(h.1 a h1).2.2, t]
theorem Wf.iv (h : Wf T cn K N I R d) (t : T a = r) (c : I a j = v) : iok r j v := by
  have q := h.2.1 a j
  rw [t, c] at q; exact q
theorem Wf.rf (h : Wf T cn K N I R d) (t : T a = r) : okR T (rrf r j) (R a j) := by
  have q := h.2.2.1 a j
  rw [t] at q; exact q
theorem Wf.rs (h : Wf T cn K N I R d) (t : T a = r) (h0 : Nat.ble 1 (rrf r j) = true) (h1 : Nat.ble 1000 (rrf r j) = false) (hb : R a j = some b) : T b = rrf r j := by
  obtain ⟨c, h2, h3⟩ := okR_nn (h.rf (j := j) t) h0 h1
  rw [hb] at h2; cases h2; exact h3
theorem Wf.rsN {q : Nat} (h : Wf T cn K N I R d) (t : T a = r) (h0 : rrf r j = q + 1000) (hb : R a j = some b) : T b = q := by
  have h1 := h.rf (j := j) t
  rw [h0] at h1
  rcases okR_nu h1 with h2 | ⟨c, h2, h3⟩
  · rw [hb] at h2; cases h2
  · rw [hb] at h2; cases h2; exact h3
theorem iok_put (h : ∀ b i, iok (T b) i (I b i)) (hx : iok (T a) j x) : ∀ b i, iok (T b) i (cz_uI I a j x b i) := by
  intro b i
  by_cases hb : b = a ∧ i = j
  · obtain ⟨rfl, rfl⟩ := hb
    rw [uI_at]; exact hx
  · rw [uI_ne hb]; exact h b i
theorem Wf.putI (h : Wf T cn K N I R d) (t : T a = r) (hx : iok r j x) (mf : mef r j = true) : Wf T cn K N (cz_uI I a j x) R d := by
  have hW := h
  obtain ⟨h1, h2, h3, e1, e2, e7, e3⟩ := h
  have hne : ∀ b i, mef (T b) i = false → cz_uI I a j x b i = I b i := by
    intro b i hb
    apply uI_ne
    rintro ⟨rfl, rfl⟩
    rw [t, mf] at hb; cases hb
  refine ⟨h1, iok_put h2 (by rw [t]; exact hx), h3, ?_, ?_, ?_, e3⟩
  · intro b tb k1 k2 r1 r2 i hi hk
    have t1 : T k1 = 54 := hW.rs tb rfl rfl r1
    have t2 : T k2 = 55 := hW.rs tb rfl rfl r2
    rw [hne b 2 (by rw [tb]; rfl)] at hi
    rw [hne k1 i (by rw [t1]; rfl)] at hk
    rw [hne k2 i (by rw [t2]; rfl)]
    exact e1 b tb k1 k2 r1 r2 i hi hk
  · intro m tm b rb
    have tb : T b = 14 := hW.rsN tm rfl rb
    rw [hne b 7 (by rw [tb]; rfl), hne b 3 (by rw [tb]; rfl), hne b 4 (by rw [tb]; rfl)]
    exact e2 m tm b rb
  · intro m tm b rb
    have tb : T b = 14 := hW.rsN tm rfl rb
    rw [hne b 0 (by rw [tb]; rfl)]
    exact e7 m tm b rb
theorem Wf.putR {y : Option Nat} (h : Wf T cn K N I R d) (t : T a = r) (hx : okR T (rrf r j) y) (mf : mefR r j = true) : Wf T cn K N I (cz_uR R a j y) d := by
  obtain ⟨h1, h2, h3, e1, e2, e7, e3, e4, e5⟩ := h
  have hne : ∀ b i, mefR (T b) i = false → cz_uR R a j y b i = R b i := by
    intro b i hb
    apply uR_ne
    rintro ⟨rfl, rfl⟩
    rw [t, mf] at hb; cases hb
  refine ⟨h1, h2, ?_, ?_, ?_, ?_, ?_, ?_, e5⟩
  · intro b i
    by_cases hb : b = a ∧ i = j
    · obtain ⟨rfl, rfl⟩ := hb
      rw [uR_at, t]; exact hx
    · rw [uR_ne hb]; exact h3 b i
  · intro b tb k1 k2 r1 r2
    rw [hne b 11 (by rw [tb]; rfl)] at r1
    rw [hne b 12 (by rw [tb]; rfl)] at r2
    exact e1 b tb k1 k2 r1 r2
  · intro m tm b rb
    rw [hne m 4 (by rw [tm]; rfl)] at rb
    exact e2 m tm b rb
  · intro m tm b rb
    rw [hne m 3 (by rw [tm]; rfl)] at rb
    exact e7 m tm b rb
  · intro p q tp tq hpq
    rw [hne p 11 (by rw [tp]; rfl), hne q 11 (by rw [tq]; rfl)] at hpq
    exact e3 p q tp tq hpq
  · intro p q tp tq hpq
    rw [hne p 12 (by rw [tp]; rfl), hne q 12 (by rw [tq]; rfl)] at hpq
    exact e4 p q tp tq hpq
/-- the reference's special cells -/
theorem Wf.putK {i : Nat} {m : Nat} (h : Wf T cn K N I R d) (tm : T m = 14) (rm : R m 11 = some a) (hi : (I m 2).toInt ≤ (i : Int)) : Wf T cn K N (cz_uI I a i x) R d := by
  have hW := h
  have ta : T a = 54 := hW.rs tm rfl rfl rm
  obtain ⟨h1, h2, h3, e1, e2, e7, e3, e4, e5⟩ := h
  have hne : ∀ b i', T b = 14 ∨ T b = 55 → cz_uI I a i x b i' = I b i' := by
    intro b i' hb
    apply uI_ne
    rintro ⟨rfl, -⟩
    rcases hb with hb | hb <;> (rw [ta] at hb; cases hb)
  refine ⟨h1, iok_put h2 (by rw [ta]; exact ⟨x.le_toInt, Int.le_of_lt_add_one x.toInt_lt⟩), h3, ?_, ?_, ?_, e3, e4, e5⟩
  · intro b tb k1 k2 r1 r2 i' hi' hk
    have t2 : T k2 = 55 := hW.rs tb rfl rfl r2
    rw [hne b 2 (Or.inl tb)] at hi'
    rw [hne k2 i' (Or.inr t2)]
    by_cases hz : k1 = a ∧ i' = i
    · obtain ⟨rfl, rfl⟩ := hz
      have := e3 b m tb tm (r1.trans rm.symm)
      subst this
      exact om_3bb334d2 hi' hi
    · rw [uI_ne hz] at hk
      exact e1 b tb k1 k2 r1 r2 i' hi' hk
  · intro m' tm' b rb
    have tb : T b = 14 := hW.rsN tm' rfl rb
    rw [hne b 7 (Or.inl tb), hne b 3 (Or.inl tb), hne b 4 (Or.inl tb)]
    exact e2 m' tm' b rb
  · intro m' tm' b rb
    have tb : T b = 14 := hW.rsN tm' rfl rb
    rw [hne b 0 (Or.inl tb)]
    exact e7 m' tm' b rb
theorem Wf.putH {i : Nat} {m : Nat} (h : Wf T cn K N I R d) (tm : T m = 14) (rm : R m 12 = some a) (hi : (I m 2).toInt ≤ (i : Int)) (hx : -2 ≤ x.toInt ∧ x.toInt ≤ 3) : Wf T cn K N (cz_uI I a i x) R d := by
  have hW := h
  have ta : T a = 55 := hW.rs tm rfl rfl rm
  obtain ⟨h1, h2, h3, e1, e2, e7, e3, e4, e5⟩ := h
  have hne : ∀ b i', T b = 14 ∨ T b = 54 → cz_uI I a i x b i' = I b i' := by
    intro b i' hb
    apply uI_ne
    rintro ⟨rfl, -⟩
    rcases hb with hb | hb <;> (rw [ta] at hb; cases hb)
  refine ⟨h1, iok_put h2 (by rw [ta]; exact hx), h3, ?_, ?_, ?_, e3, e4, e5⟩
  · intro b tb k1 k2 r1 r2 i' hi' hk
    have t1 : T k1 = 54 := hW.rs tb rfl rfl r1
    rw [hne b 2 (Or.inl tb)] at hi'
    rw [hne k1 i' (Or.inr t1)] at hk
    by_cases hz : k2 = a ∧ i' = i
    · obtain ⟨rfl, rfl⟩ := hz
      have := e4 b m tb tm (r2.trans rm.symm)
      subst this
      exact om_3bb334d2 hi' hi
    · rw [uI_ne hz]
      exact e1 b tb k1 k2 r1 r2 i' hi' hk
  · intro m' tm' b rb
    have tb : T b = 14 := hW.rsN tm' rfl rb
    rw [hne b 7 (Or.inl tb), hne b 3 (Or.inl tb), hne b 4 (Or.inl tb)]
    exact e2 m' tm' b rb
  · intro m' tm' b rb
    have tb : T b = 14 := hW.rsN tm' rfl rb
    rw [hne b 0 (Or.inl tb)]
    exact e7 m' tm' b rb
/-- one event more -/
theorem Wf.putE {k1 k2 i : Nat} (h : Wf T cn K N I R d) (ta : T a = 14) (r1 : R a 11 = some k1) (r2 : R a 12 = some k2) (hi : (I a 2).toInt = (i : Int)) (hx : x.toInt = (I a 2).toInt + 1) (h14 : x.toInt ≤ 14) (hk : ((I k1 i).toInt = 2 ∨ (I k1 i).toInt = 3) → 0 ≤ (I k2 i).toInt) : Wf T cn K N (cz_uI I a 2 x) R d := by
  have hW := h
  have t1 : T k1 = 54 := hW.rs ta rfl rfl r1
  have t2 : T k2 = 55 := hW.rs ta rfl rfl r2
  obtain ⟨h1, h2, h3, e1, e2, e7, e3⟩ := h
  have hnn : ∀ b i', T b ≠ 14 → cz_uI I a 2 x b i' = I b i' := by
    intro b i' hb
    apply uI_ne
    rintro ⟨rfl, -⟩
    exact hb ta
  refine ⟨h1, iok_put h2 (by rw [ta]; exact ⟨by show (0 : Int) ≤ _; exact om_96789d6c hi hx h14, by show _ ≤ (14 : Int); exact om_cdb08cb3 h14⟩), h3, ?_, ?_, ?_, e3⟩
  · intro b tb q1 q2 s1 s2 i' hi' hk'
    have u1 : T q1 = 54 := hW.rs tb rfl rfl s1
    have u2 : T q2 = 55 := hW.rs tb rfl rfl s2
    rw [hnn q1 i' (by rw [u1]; decide)] at hk'
    rw [hnn q2 i' (by rw [u2]; decide)]
    by_cases hb : b = a
    · subst hb
      rw [uI_at] at hi'
      rw [r1] at s1; cases s1
      rw [r2] at s2; cases s2
      by_cases hz : i' = i
      · subst hz; exact hk hk'
      · exact e1 b tb _ _ r1 r2 i' (by exact om_6323e0d7 hi hx hi' hz) hk'
    · rw [uI_ne (fun z => hb z.1)] at hi'
      exact e1 b tb _ _ s1 s2 i' hi' hk'
  · intro m tm b rb
    have tb : T b = 14 := hW.rsN tm rfl rb
    rw [uI_ne (by exact om_0e1c76d2), uI_ne (by exact om_45a1f3cf), uI_ne (by exact om_6667771b)]
    exact e2 m tm b rb
  · intro m tm b rb
    rw [uI_ne (by exact om_8c6de044)]
    exact e7 m tm b rb
/-- a name more, a cheese more, a turner more -/
theorem Wf.putN {m : Nat} {d' : Int} (h : Wf T cn K N I R d) (tm : T m = 15) (rm : R m 4 = some a) (hj : j = 7 ∨ j = 3 ∨ j = 4) (hx : x.toInt = (I a j).toInt + 1) (hd : d' = if j = 7 then d + 1 else d - 1) (hi : iok 14 j x) : Wf T cn K N (cz_uI I a j x) R d' := by
  have hW := h
  have ta : T a = 14 := hW.rsN tm rfl rm
  obtain ⟨h1, h2, h3, e1, e2, e7, e3, e4, e5⟩ := h
  have hnn : ∀ b i', T b ≠ 14 → cz_uI I a j x b i' = I b i' := by
    intro b i' hb
    apply uI_ne
    rintro ⟨rfl, -⟩
    exact hb ta
  refine ⟨h1, iok_put h2 (by rw [ta]; exact hi), h3, ?_, ?_, ?_, e3, e4, e5⟩
  · intro b tb q1 q2 s1 s2 i' hi' hk'
    have u1 : T q1 = 54 := hW.rs tb rfl rfl s1
    have u2 : T q2 = 55 := hW.rs tb rfl rfl s2
    rw [hnn q1 i' (by rw [u1]; decide)] at hk'
    rw [hnn q2 i' (by rw [u2]; decide)]
    rw [uI_ne (by exact om_e47bfd79 hj hk')] at hi'
    exact e1 b tb _ _ s1 s2 i' hi' hk'
  · intro m' tm' b rb
    obtain rfl := e5 m' m tm' tm
    rw [rm] at rb; cases rb
    have q := e2 m' tm a rm
    rcases hj with rfl | rfl | rfl
    · rw [uI_at, uI_ne (by exact om_8513e348), uI_ne (by exact om_d5a25e55)]
      simp at hd; exact om_3d768101 q hx hd
    · rw [uI_at, uI_ne (by exact om_552d3727), uI_ne (by exact om_308363ac)]
      simp at hd; exact om_079fa7f8 q hx hd
    · rw [uI_at, uI_ne (by exact om_fd18fcc6), uI_ne (by exact om_8c587dbe)]
      simp at hd; exact om_78335eec q hx hd
  · intro m' tm' b rb
    rw [uI_ne (by exact om_cf0260f2 hj)]
    exact e7 m' tm' b rb
/-- the minutes of an alp that is read -/
theorem Wf.putM (h : Wf T cn K N I R d) (ta : T a = 14) (hx : 1 ≤ x.toInt ∧ x.toInt ≤ 240) : Wf T cn K N (cz_uI I a 0 x) R d := by
  have hW := h
  obtain ⟨h1, h2, h3, e1, e2, e7, e3⟩ := h
  have hnn : ∀ b i', T b ≠ 14 → cz_uI I a 0 x b i' = I b i' := by
    intro b i' hb
    apply uI_ne
    rintro ⟨rfl, -⟩
    exact hb ta
  refine ⟨h1, iok_put h2 (by rw [ta]; exact ⟨by show (0 : Int) ≤ _; exact om_2d78c5a4 hx.2 hx.1, by show _ ≤ (240 : Int); exact om_8f2e0b08 hx.2 hx.1⟩), h3, ?_, ?_, ?_, e3⟩
  · intro b tb q1 q2 s1 s2 i' hi' hk'
    have u1 : T q1 = 54 := hW.rs tb rfl rfl s1
    have u2 : T q2 = 55 := hW.rs tb rfl rfl s2
    rw [hnn q1 i' (by rw [u1]; decide)] at hk'
    rw [hnn q2 i' (by rw [u2]; decide)]
    rw [uI_ne (by exact om_23840bd1)] at hi'
    exact e1 b tb _ _ s1 s2 i' hi' hk'
  · intro m tm b rb
    rw [uI_ne (by exact om_32b3f5e1), uI_ne (by exact om_614fe09b), uI_ne (by exact om_b44691f1)]
    exact e2 m tm b rb
  · intro m tm b rb
    by_cases hb : b = a
    · subst hb; rw [uI_at]; exact hx.1
    · rw [uI_ne (fun z => hb z.1)]
      exact e7 m tm b rb
theorem Wf.putA (h : Wf T cn K N I R d) (ta : T a = 15) (tb : T b = 14) (hx : 1 ≤ (I b 0).toInt) : Wf T cn K N I (cz_uR R a 3 (some b)) d := by
  obtain ⟨h1, h2, h3, e1, e2, e7, e3, e4, e5⟩ := h
  refine ⟨h1, h2, ?_, ?_, ?_, ?_, ?_, ?_, e5⟩
  · intro c i
    by_cases hb : c = a ∧ i = 3
    · obtain ⟨rfl, rfl⟩ := hb
      rw [uR_at, ta]; exact okR_inN tb
    · rw [uR_ne hb]; exact h3 c i
  · intro c tc k1 k2 r1 r2
    rw [uR_ne (by omega)] at r1 r2
    exact e1 c tc k1 k2 r1 r2
  · intro m tm c rb
    rw [uR_ne (by exact om_261d88d2)] at rb
    exact e2 m tm c rb
  · intro m tm c rb
    by_cases hm : m = a
    · subst hm
      rw [uR_at] at rb; cases rb; exact hx
    · rw [uR_ne (fun z => hm z.1)] at rb
      exact e7 m tm c rb
  · intro p q tp tq hpq
    rw [uR_ne (by exact om_ff1ae048), uR_ne (by exact om_ff1ae048)] at hpq
    exact e3 p q tp tq hpq
  · intro p q tp tq hpq
    rw [uR_ne (by exact om_76731164), uR_ne (by exact om_76731164)] at hpq
    exact e4 p q tp tq hpq
/-! ===== what a body has done so far ===== -/
/-- codes of what may be written: role * 64 + slot, slot 63: all -/
def wm (l : List Nat) (r j : Nat) : Bool := l.contains (r * 64 + 63) || (Nat.ble j 62 && l.contains (r * 64 + j))
def St (T : Nat → Nat) (cn : Nat) (K N : Nat → Nat) (d : Int) (wi wr : List Nat) (I0 : cz_I) (R0 : cz_R) (I : cz_I) (R : cz_R) : Prop :=
  Wf T cn K N I R d ∧ (∀ a j, wm wi (T a) j = false → I a j = I0 a j) ∧ ∀ a j, wm wr (T a) j = false → R a j = R0 a j
variable {wi wr wi' wr' : List Nat} {d' : Int}
theorem St.rf0 (h : Wf T cn K N I R d) : St T cn K N d wi wr I R I R := ⟨h, fun _ _ _ => rfl, fun _ _ _ => rfl⟩
theorem St.cell (h : St T cn K N d wi wr I0 R0 I R) (t : T a = r) (hw : wm wi r j = false) : I a j = I0 a j := h.2.1 a j (by rw [t]; exact hw)
theorem St.rcell (h : St T cn K N d wi wr I0 R0 I R) (t : T a = r) (hw : wm wr r j = false) : R a j = R0 a j := h.2.2 a j (by rw [t]; exact hw)
theorem St.wrote (h : St T cn K N d wi wr I0 R0 I R) (t : T a = r) (hw : wm wi r j = true) (hW : Wf T cn K N (cz_uI I a j x) R d') : St T cn K N d' wi wr I0 R0 (cz_uI I a j x) R := by
  refine ⟨hW, fun b i hb => ?_, h.2.2⟩
  rw [uI_ne]
  · exact h.2.1 b i hb
  · rintro ⟨rfl, rfl⟩
    rw [t, hw] at hb; cases hb
theorem St.putI (h : St T cn K N d wi wr I0 R0 I R) (t : T a = r) (hx : iok r j x) (mf : mef r j = true) (hw : wm wi r j = true) : St T cn K N d wi wr I0 R0 (cz_uI I a j x) R := h.wrote t hw (h.1.putI t hx mf)
theorem St.putR {y : Option Nat} (h : St T cn K N d wi wr I0 R0 I R) (t : T a = r) (hx : okR T (rrf r j) y) (mf : mefR r j = true) (hw : wm wr r j = true) : St T cn K N d wi wr I0 R0 I (cz_uR R a j y) := by
  refine ⟨h.1.putR t hx mf, h.2.1, fun b i hb => ?_⟩
  rw [uR_ne]
  · exact h.2.2 b i hb
  · rintro ⟨rfl, rfl⟩
    rw [t, hw] at hb; cases hb
theorem wm_sub {l l' : List Nat} {r j : Nat} (h : l'.all (fun c => l.contains c) = true) (hw : wm l r j = false) : wm l' r j = false := by
  have h2 : ∀ c, l.contains c = false → l'.contains c = false := by
    intro c hc
    cases hq : l'.contains c with
    | false => rfl
    | true =>
      have := List.all_eq_true.mp h c (by simpa using hq)
      rw [hc] at this; cases this
  simp only [wm, Bool.or_eq_false_iff, Bool.and_eq_false_iff] at hw ⊢
  exact ⟨h2 _ hw.1, hw.2.imp id (h2 _)⟩
theorem wm_no {l : List Nat} {r j : Nat} (h : l.all (fun c => !(Nat.beq (c / 64) r)) = true) : wm l r j = false := by
  have h2 : ∀ c, c / 64 = r → l.contains c = false := by
    intro c hc
    cases hq : l.contains c with
    | false => rfl
    | true =>
      have := List.all_eq_true.mp h c (by simpa using hq)
      rw [hc] at this
      simp [Nat.beq_refl] at this
  simp only [wm, Bool.or_eq_false_iff, Bool.and_eq_false_iff]
  refine ⟨h2 _ (by exact om_fd773394), ?_⟩
  by_cases hj : j ≤ 62
  · exact Or.inr (h2 _ (by exact om_abfb88c9 hj))
  · left
    cases hb : Nat.ble j 62 with
    | false => rfl
    | true => exact absurd (Nat.le_of_ble_eq_true hb) hj
theorem St.tr (h : St T cn K N d wi wr I0 R0 I R) (h' : St T cn K N d' wi' wr' I R I' R') (hi : wi'.all (fun c => wi.contains c) = true) (hr : wr'.all (fun c => wr.contains c) = true) : St T cn K N d' wi wr I0 R0 I' R' :=
  ⟨h'.1, fun a j hw => (h'.2.1 a j (wm_sub hi hw)).trans (h.2.1 a j hw), fun a j hw => (h'.2.2 a j (wm_sub hr hw)).trans (h.2.2 a j hw)⟩
end CzWf
theorem kR1 {T : Nat → Nat} {cn : Nat} {K N : Nat → Nat} {I : cz_I} {R : cz_R} {d : Int} {a : Nat} (h : Wf T cn K N I R d) (t : T a = 1) : K a = 10 := h.kd t rfl
theorem iv1_1 {T : Nat → Nat} {cn : Nat} {K N : Nat → Nat} {I : cz_I} {R : cz_R} {d : Int} {a : Nat} (h : Wf T cn K N I R d) (t : T a = 1) {v : Int32} (c : I a 1 = v) : 0 ≤ v.toInt ∧ v.toInt ≤ 900 := h.iv t c
theorem iv1_5 {T : Nat → Nat} {cn : Nat} {K N : Nat → Nat} {I : cz_I} {R : cz_R} {d : Int} {a : Nat} (h : Wf T cn K N I R d) (t : T a = 1) {v : Int32} (c : I a 5 = v) : 0 ≤ v.toInt ∧ v.toInt ≤ 1 := h.iv t c
theorem iv1_9 {T : Nat → Nat} {cn : Nat} {K N : Nat → Nat} {I : cz_I} {R : cz_R} {d : Int} {a : Nat} (h : Wf T cn K N I R d) (t : T a = 1) {v : Int32} (c : I a 9 = v) : 0 ≤ v.toInt ∧ v.toInt ≤ 1 := h.iv t c
theorem iv1_11 {T : Nat → Nat} {cn : Nat} {K N : Nat → Nat} {I : cz_I} {R : cz_R} {d : Int} {a : Nat} (h : Wf T cn K N I R d) (t : T a = 1) {v : Int32} (c : I a 11 = v) : 0 ≤ v.toInt ∧ v.toInt ≤ 1 := h.iv t c
theorem rf1_0 {T : Nat → Nat} {cn : Nat} {K N : Nat → Nat} {I : cz_I} {R : cz_R} {d : Int} {a : Nat} (h : Wf T cn K N I R d) (t : T a = 1) : ∃ b, R a 0 = some b ∧ T b = 17 := okR_nn (h.rf (j := 0) t) rfl rfl
theorem rf1_2 {T : Nat → Nat} {cn : Nat} {K N : Nat → Nat} {I : cz_I} {R : cz_R} {d : Int} {a : Nat} (h : Wf T cn K N I R d) (t : T a = 1) : ∃ b, R a 2 = some b ∧ T b = 2 := okR_nn (h.rf (j := 2) t) rfl rfl
theorem rf1_3 {T : Nat → Nat} {cn : Nat} {K N : Nat → Nat} {I : cz_I} {R : cz_R} {d : Int} {a : Nat} (h : Wf T cn K N I R d) (t : T a = 1) : ∃ b, R a 3 = some b ∧ T b = 2 := okR_nn (h.rf (j := 3) t) rfl rfl
theorem rf1_4 {T : Nat → Nat} {cn : Nat} {K N : Nat → Nat} {I : cz_I} {R : cz_R} {d : Int} {a : Nat} (h : Wf T cn K N I R d) (t : T a = 1) : ∃ b, R a 4 = some b ∧ T b = 7 := okR_nn (h.rf (j := 4) t) rfl rfl
theorem rf1_6 {T : Nat → Nat} {cn : Nat} {K N : Nat → Nat} {I : cz_I} {R : cz_R} {d : Int} {a : Nat} (h : Wf T cn K N I R d) (t : T a = 1) : ∃ b, R a 6 = some b ∧ T b = 8 := okR_nn (h.rf (j := 6) t) rfl rfl
theorem rf1_7 {T : Nat → Nat} {cn : Nat} {K N : Nat → Nat} {I : cz_I} {R : cz_R} {d : Int} {a : Nat} (h : Wf T cn K N I R d) (t : T a = 1) : ∃ b, R a 7 = some b ∧ T b = 11 := okR_nn (h.rf (j := 7) t) rfl rfl
theorem rf1_8 {T : Nat → Nat} {cn : Nat} {K N : Nat → Nat} {I : cz_I} {R : cz_R} {d : Int} {a : Nat} (h : Wf T cn K N I R d) (t : T a = 1) : ∃ b, R a 8 = some b ∧ T b = 12 := okR_nn (h.rf (j := 8) t) rfl rfl
theorem rf1_10 {T : Nat → Nat} {cn : Nat} {K N : Nat → Nat} {I : cz_I} {R : cz_R} {d : Int} {a : Nat} (h : Wf T cn K N I R d) (t : T a = 1) : ∃ b, R a 10 = some b ∧ T b = 13 := okR_nn (h.rf (j := 10) t) rfl rfl
theorem rf1_12 {T : Nat → Nat} {cn : Nat} {K N : Nat → Nat} {I : cz_I} {R : cz_R} {d : Int} {a : Nat} (h : Wf T cn K N I R d) (t : T a = 1) : ∃ b, R a 12 = some b ∧ T b = 9 := okR_nn (h.rf (j := 12) t) rfl rfl
theorem rf1_13 {T : Nat → Nat} {cn : Nat} {K N : Nat → Nat} {I : cz_I} {R : cz_R} {d : Int} {a : Nat} (h : Wf T cn K N I R d) (t : T a = 1) : ∃ b, R a 13 = some b ∧ T b = 12 := okR_nn (h.rf (j := 13) t) rfl rfl
theorem rf1_14 {T : Nat → Nat} {cn : Nat} {K N : Nat → Nat} {I : cz_I} {R : cz_R} {d : Int} {a : Nat} (h : Wf T cn K N I R d) (t : T a = 1) : ∃ b, R a 14 = some b ∧ T b = 13 := okR_nn (h.rf (j := 14) t) rfl rfl
theorem kR2 {T : Nat → Nat} {cn : Nat} {K N : Nat → Nat} {I : cz_I} {R : cz_R} {d : Int} {a : Nat} (h : Wf T cn K N I R d) (t : T a = 2) : K a = 0 := h.kd t rfl
theorem iv2_0 {T : Nat → Nat} {cn : Nat} {K N : Nat → Nat} {I : cz_I} {R : cz_R} {d : Int} {a : Nat} (h : Wf T cn K N I R d) (t : T a = 2) {v : Int32} (c : I a 0 = v) : 0 ≤ v.toInt ∧ v.toInt ≤ 240 := h.iv t c
theorem iv2_1 {T : Nat → Nat} {cn : Nat} {K N : Nat → Nat} {I : cz_I} {R : cz_R} {d : Int} {a : Nat} (h : Wf T cn K N I R d) (t : T a = 2) {v : Int32} (c : I a 1 = v) : 0 ≤ v.toInt ∧ v.toInt ≤ 4 := h.iv t c
theorem iv2_3 {T : Nat → Nat} {cn : Nat} {K N : Nat → Nat} {I : cz_I} {R : cz_R} {d : Int} {a : Nat} (h : Wf T cn K N I R d) (t : T a = 2) {v : Int32} (c : I a 3 = v) : 0 ≤ v.toInt ∧ v.toInt ≤ 14 := h.iv t c
theorem iv2_5 {T : Nat → Nat} {cn : Nat} {K N : Nat → Nat} {I : cz_I} {R : cz_R} {d : Int} {a : Nat} (h : Wf T cn K N I R d) (t : T a = 2) {v : Int32} (c : I a 5 = v) : 0 ≤ v.toInt ∧ v.toInt ≤ 8 := h.iv t c
theorem iv2_9 {T : Nat → Nat} {cn : Nat} {K N : Nat → Nat} {I : cz_I} {R : cz_R} {d : Int} {a : Nat} (h : Wf T cn K N I R d) (t : T a = 2) {v : Int32} (c : I a 9 = v) : 0 ≤ v.toInt ∧ v.toInt ≤ 5 := h.iv t c
theorem iv2_11 {T : Nat → Nat} {cn : Nat} {K N : Nat → Nat} {I : cz_I} {R : cz_R} {d : Int} {a : Nat} (h : Wf T cn K N I R d) (t : T a = 2) {v : Int32} (c : I a 11 = v) : 0 ≤ v.toInt ∧ v.toInt ≤ 6 := h.iv t c
theorem iv2_13 {T : Nat → Nat} {cn : Nat} {K N : Nat → Nat} {I : cz_I} {R : cz_R} {d : Int} {a : Nat} (h : Wf T cn K N I R d) (t : T a = 2) {v : Int32} (c : I a 13 = v) : 0 ≤ v.toInt ∧ v.toInt ≤ 4 := h.iv t c
theorem rf2_2 {T : Nat → Nat} {cn : Nat} {K N : Nat → Nat} {I : cz_I} {R : cz_R} {d : Int} {a : Nat} (h : Wf T cn K N I R d) (t : T a = 2) : ∃ b, R a 2 = some b ∧ T b = 18 := okR_nn (h.rf (j := 2) t) rfl rfl
theorem rf2_4 {T : Nat → Nat} {cn : Nat} {K N : Nat → Nat} {I : cz_I} {R : cz_R} {d : Int} {a : Nat} (h : Wf T cn K N I R d) (t : T a = 2) : ∃ b, R a 4 = some b ∧ T b = 19 := okR_nn (h.rf (j := 4) t) rfl rfl
theorem rf2_6 {T : Nat → Nat} {cn : Nat} {K N : Nat → Nat} {I : cz_I} {R : cz_R} {d : Int} {a : Nat} (h : Wf T cn K N I R d) (t : T a = 2) : ∃ b, R a 6 = some b ∧ T b = 20 := okR_nn (h.rf (j := 6) t) rfl rfl
theorem rf2_8 {T : Nat → Nat} {cn : Nat} {K N : Nat → Nat} {I : cz_I} {R : cz_R} {d : Int} {a : Nat} (h : Wf T cn K N I R d) (t : T a = 2) : ∃ b, R a 8 = some b ∧ T b = 6 := okR_nn (h.rf (j := 8) t) rfl rfl
theorem rf2_10 {T : Nat → Nat} {cn : Nat} {K N : Nat → Nat} {I : cz_I} {R : cz_R} {d : Int} {a : Nat} (h : Wf T cn K N I R d) (t : T a = 2) : ∃ b, R a 10 = some b ∧ T b = 21 := okR_nn (h.rf (j := 10) t) rfl rfl
theorem rf2_12 {T : Nat → Nat} {cn : Nat} {K N : Nat → Nat} {I : cz_I} {R : cz_R} {d : Int} {a : Nat} (h : Wf T cn K N I R d) (t : T a = 2) : ∃ b, R a 12 = some b ∧ T b = 22 := okR_nn (h.rf (j := 12) t) rfl rfl
theorem rf2_14 {T : Nat → Nat} {cn : Nat} {K N : Nat → Nat} {I : cz_I} {R : cz_R} {d : Int} {a : Nat} (h : Wf T cn K N I R d) (t : T a = 2) : ∃ b, R a 14 = some b ∧ T b = 23 := okR_nn (h.rf (j := 14) t) rfl rfl
theorem kR3 {T : Nat → Nat} {cn : Nat} {K N : Nat → Nat} {I : cz_I} {R : cz_R} {d : Int} {a : Nat} (h : Wf T cn K N I R d) (t : T a = 3) : K a = 2 := h.kd t rfl
theorem iv3_2 {T : Nat → Nat} {cn : Nat} {K N : Nat → Nat} {I : cz_I} {R : cz_R} {d : Int} {a : Nat} (h : Wf T cn K N I R d) (t : T a = 3) {v : Int32} (c : I a 2 = v) : 0 ≤ v.toInt ∧ v.toInt ≤ 240 := h.iv t c
theorem iv3_3 {T : Nat → Nat} {cn : Nat} {K N : Nat → Nat} {I : cz_I} {R : cz_R} {d : Int} {a : Nat} (h : Wf T cn K N I R d) (t : T a = 3) {v : Int32} (c : I a 3 = v) : 0 ≤ v.toInt ∧ v.toInt ≤ 240 := h.iv t c
theorem kR4 {T : Nat → Nat} {cn : Nat} {K N : Nat → Nat} {I : cz_I} {R : cz_R} {d : Int} {a : Nat} (h : Wf T cn K N I R d) (t : T a = 4) : K a = 9 := h.kd t rfl
theorem kR5 {T : Nat → Nat} {cn : Nat} {K N : Nat → Nat} {I : cz_I} {R : cz_R} {d : Int} {a : Nat} (h : Wf T cn K N I R d) (t : T a = 5) : K a = 1 := h.kd t rfl
theorem kR6 {T : Nat → Nat} {cn : Nat} {K N : Nat → Nat} {I : cz_I} {R : cz_R} {d : Int} {a : Nat} (h : Wf T cn K N I R d) (t : T a = 6) : K a = 4 := h.kd t rfl
theorem iv6_0 {T : Nat → Nat} {cn : Nat} {K N : Nat → Nat} {I : cz_I} {R : cz_R} {d : Int} {a : Nat} (h : Wf T cn K N I R d) (t : T a = 6) {v : Int32} (c : I a 0 = v) : 0 ≤ v.toInt ∧ v.toInt ≤ 8 := h.iv t c
theorem rf6_1 {T : Nat → Nat} {cn : Nat} {K N : Nat → Nat} {I : cz_I} {R : cz_R} {d : Int} {a : Nat} (h : Wf T cn K N I R d) (t : T a = 6) : ∃ b, R a 1 = some b ∧ T b = 24 := okR_nn (h.rf (j := 1) t) rfl rfl
theorem kR7 {T : Nat → Nat} {cn : Nat} {K N : Nat → Nat} {I : cz_I} {R : cz_R} {d : Int} {a : Nat} (h : Wf T cn K N I R d) (t : T a = 7) : K a = 7 := h.kd t rfl
theorem iv7_1 {T : Nat → Nat} {cn : Nat} {K N : Nat → Nat} {I : cz_I} {R : cz_R} {d : Int} {a : Nat} (h : Wf T cn K N I R d) (t : T a = 7) {v : Int32} (c : I a 1 = v) : 0 ≤ v.toInt ∧ v.toInt ≤ 900 := h.iv t c
theorem iv7_2 {T : Nat → Nat} {cn : Nat} {K N : Nat → Nat} {I : cz_I} {R : cz_R} {d : Int} {a : Nat} (h : Wf T cn K N I R d) (t : T a = 7) {v : Int32} (c : I a 2 = v) : 0 ≤ v.toInt ∧ v.toInt ≤ 900 := h.iv t c
theorem iv7_3 {T : Nat → Nat} {cn : Nat} {K N : Nat → Nat} {I : cz_I} {R : cz_R} {d : Int} {a : Nat} (h : Wf T cn K N I R d) (t : T a = 7) {v : Int32} (c : I a 3 = v) : 0 ≤ v.toInt ∧ v.toInt ≤ 5 := h.iv t c
theorem iv7_4 {T : Nat → Nat} {cn : Nat} {K N : Nat → Nat} {I : cz_I} {R : cz_R} {d : Int} {a : Nat} (h : Wf T cn K N I R d) (t : T a = 7) {v : Int32} (c : I a 4 = v) : 0 ≤ v.toInt ∧ v.toInt ≤ 900 := h.iv t c
theorem iv7_7 {T : Nat → Nat} {cn : Nat} {K N : Nat → Nat} {I : cz_I} {R : cz_R} {d : Int} {a : Nat} (h : Wf T cn K N I R d) (t : T a = 7) {v : Int32} (c : I a 7 = v) : 0 ≤ v.toInt ∧ v.toInt ≤ 240 := h.iv t c
theorem iv7_8 {T : Nat → Nat} {cn : Nat} {K N : Nat → Nat} {I : cz_I} {R : cz_R} {d : Int} {a : Nat} (h : Wf T cn K N I R d) (t : T a = 7) {v : Int32} (c : I a 8 = v) : 0 ≤ v.toInt ∧ v.toInt ≤ 240 := h.iv t c
theorem iv7_9 {T : Nat → Nat} {cn : Nat} {K N : Nat → Nat} {I : cz_I} {R : cz_R} {d : Int} {a : Nat} (h : Wf T cn K N I R d) (t : T a = 7) {v : Int32} (c : I a 9 = v) : 0 ≤ v.toInt ∧ v.toInt ≤ 240 := h.iv t c
theorem iv7_11 {T : Nat → Nat} {cn : Nat} {K N : Nat → Nat} {I : cz_I} {R : cz_R} {d : Int} {a : Nat} (h : Wf T cn K N I R d) (t : T a = 7) {v : Int32} (c : I a 11 = v) : 0 ≤ v.toInt ∧ v.toInt ≤ 1 := h.iv t c
theorem iv7_12 {T : Nat → Nat} {cn : Nat} {K N : Nat → Nat} {I : cz_I} {R : cz_R} {d : Int} {a : Nat} (h : Wf T cn K N I R d) (t : T a = 7) {v : Int32} (c : I a 12 = v) : 0 ≤ v.toInt ∧ v.toInt ≤ 1 := h.iv t c
theorem rf7_0 {T : Nat → Nat} {cn : Nat} {K N : Nat → Nat} {I : cz_I} {R : cz_R} {d : Int} {a : Nat} (h : Wf T cn K N I R d) (t : T a = 7) : ∃ b, R a 0 = some b ∧ T b = 17 := okR_nn (h.rf (j := 0) t) rfl rfl
theorem rf7_10 {T : Nat → Nat} {cn : Nat} {K N : Nat → Nat} {I : cz_I} {R : cz_R} {d : Int} {a : Nat} (h : Wf T cn K N I R d) (t : T a = 7) : ∃ b, R a 10 = some b ∧ T b = 2 := okR_nn (h.rf (j := 10) t) rfl rfl
theorem rf7_13 {T : Nat → Nat} {cn : Nat} {K N : Nat → Nat} {I : cz_I} {R : cz_R} {d : Int} {a : Nat} (h : Wf T cn K N I R d) (t : T a = 7) : ∃ b, R a 13 = some b ∧ T b = 25 := okR_nn (h.rf (j := 13) t) rfl rfl
theorem rf7_14 {T : Nat → Nat} {cn : Nat} {K N : Nat → Nat} {I : cz_I} {R : cz_R} {d : Int} {a : Nat} (h : Wf T cn K N I R d) (t : T a = 7) : ∃ b, R a 14 = some b ∧ T b = 26 := okR_nn (h.rf (j := 14) t) rfl rfl
theorem kR8 {T : Nat → Nat} {cn : Nat} {K N : Nat → Nat} {I : cz_I} {R : cz_R} {d : Int} {a : Nat} (h : Wf T cn K N I R d) (t : T a = 8) : K a = 3 := h.kd t rfl
theorem iv8_1 {T : Nat → Nat} {cn : Nat} {K N : Nat → Nat} {I : cz_I} {R : cz_R} {d : Int} {a : Nat} (h : Wf T cn K N I R d) (t : T a = 8) {v : Int32} (c : I a 1 = v) : 0 ≤ v.toInt ∧ v.toInt ≤ 65536 := h.iv t c
theorem iv8_2 {T : Nat → Nat} {cn : Nat} {K N : Nat → Nat} {I : cz_I} {R : cz_R} {d : Int} {a : Nat} (h : Wf T cn K N I R d) (t : T a = 8) {v : Int32} (c : I a 2 = v) : 0 ≤ v.toInt ∧ v.toInt ≤ 6 := h.iv t c
theorem rf8_3 {T : Nat → Nat} {cn : Nat} {K N : Nat → Nat} {I : cz_I} {R : cz_R} {d : Int} {a : Nat} (h : Wf T cn K N I R d) (t : T a = 8) : ∃ b, R a 3 = some b ∧ T b = 27 := okR_nn (h.rf (j := 3) t) rfl rfl
theorem rf8_4 {T : Nat → Nat} {cn : Nat} {K N : Nat → Nat} {I : cz_I} {R : cz_R} {d : Int} {a : Nat} (h : Wf T cn K N I R d) (t : T a = 8) : ∃ b, R a 4 = some b ∧ T b = 28 := okR_nn (h.rf (j := 4) t) rfl rfl
theorem kR9 {T : Nat → Nat} {cn : Nat} {K N : Nat → Nat} {I : cz_I} {R : cz_R} {d : Int} {a : Nat} (h : Wf T cn K N I R d) (t : T a = 9) : K a = 3 := h.kd t rfl
theorem iv9_1 {T : Nat → Nat} {cn : Nat} {K N : Nat → Nat} {I : cz_I} {R : cz_R} {d : Int} {a : Nat} (h : Wf T cn K N I R d) (t : T a = 9) {v : Int32} (c : I a 1 = v) : 0 ≤ v.toInt ∧ v.toInt ≤ 65536 := h.iv t c
theorem iv9_2 {T : Nat → Nat} {cn : Nat} {K N : Nat → Nat} {I : cz_I} {R : cz_R} {d : Int} {a : Nat} (h : Wf T cn K N I R d) (t : T a = 9) {v : Int32} (c : I a 2 = v) : 0 ≤ v.toInt ∧ v.toInt ≤ 6 := h.iv t c
theorem rf9_3 {T : Nat → Nat} {cn : Nat} {K N : Nat → Nat} {I : cz_I} {R : cz_R} {d : Int} {a : Nat} (h : Wf T cn K N I R d) (t : T a = 9) : ∃ b, R a 3 = some b ∧ T b = 29 := okR_nn (h.rf (j := 3) t) rfl rfl
theorem rf9_4 {T : Nat → Nat} {cn : Nat} {K N : Nat → Nat} {I : cz_I} {R : cz_R} {d : Int} {a : Nat} (h : Wf T cn K N I R d) (t : T a = 9) : ∃ b, R a 4 = some b ∧ T b = 30 := okR_nn (h.rf (j := 4) t) rfl rfl
theorem kR10 {T : Nat → Nat} {cn : Nat} {K N : Nat → Nat} {I : cz_I} {R : cz_R} {d : Int} {a : Nat} (h : Wf T cn K N I R d) (t : T a = 10) : K a = 3 := h.kd t rfl
theorem iv10_1 {T : Nat → Nat} {cn : Nat} {K N : Nat → Nat} {I : cz_I} {R : cz_R} {d : Int} {a : Nat} (h : Wf T cn K N I R d) (t : T a = 10) {v : Int32} (c : I a 1 = v) : 0 ≤ v.toInt ∧ v.toInt ≤ 65536 := h.iv t c
theorem iv10_2 {T : Nat → Nat} {cn : Nat} {K N : Nat → Nat} {I : cz_I} {R : cz_R} {d : Int} {a : Nat} (h : Wf T cn K N I R d) (t : T a = 10) {v : Int32} (c : I a 2 = v) : 0 ≤ v.toInt ∧ v.toInt ≤ 6 := h.iv t c
theorem rf10_3 {T : Nat → Nat} {cn : Nat} {K N : Nat → Nat} {I : cz_I} {R : cz_R} {d : Int} {a : Nat} (h : Wf T cn K N I R d) (t : T a = 10) : ∃ b, R a 3 = some b ∧ T b = 31 := okR_nn (h.rf (j := 3) t) rfl rfl
theorem rf10_4 {T : Nat → Nat} {cn : Nat} {K N : Nat → Nat} {I : cz_I} {R : cz_R} {d : Int} {a : Nat} (h : Wf T cn K N I R d) (t : T a = 10) : ∃ b, R a 4 = some b ∧ T b = 32 := okR_nn (h.rf (j := 4) t) rfl rfl
theorem kR11 {T : Nat → Nat} {cn : Nat} {K N : Nat → Nat} {I : cz_I} {R : cz_R} {d : Int} {a : Nat} (h : Wf T cn K N I R d) (t : T a = 11) : K a = 6 := h.kd t rfl
theorem iv11_0 {T : Nat → Nat} {cn : Nat} {K N : Nat → Nat} {I : cz_I} {R : cz_R} {d : Int} {a : Nat} (h : Wf T cn K N I R d) (t : T a = 11) {v : Int32} (c : I a 0 = v) : 0 ≤ v.toInt ∧ v.toInt ≤ 12 := h.iv t c
theorem iv11_2 {T : Nat → Nat} {cn : Nat} {K N : Nat → Nat} {I : cz_I} {R : cz_R} {d : Int} {a : Nat} (h : Wf T cn K N I R d) (t : T a = 11) {v : Int32} (c : I a 2 = v) : 0 ≤ v.toInt ∧ v.toInt ≤ 3 := h.iv t c
theorem rf11_1 {T : Nat → Nat} {cn : Nat} {K N : Nat → Nat} {I : cz_I} {R : cz_R} {d : Int} {a : Nat} (h : Wf T cn K N I R d) (t : T a = 11) : ∃ b, R a 1 = some b ∧ T b = 33 := okR_nn (h.rf (j := 1) t) rfl rfl
theorem rf11_3 {T : Nat → Nat} {cn : Nat} {K N : Nat → Nat} {I : cz_I} {R : cz_R} {d : Int} {a : Nat} (h : Wf T cn K N I R d) (t : T a = 11) : ∃ b, R a 3 = some b ∧ T b = 34 := okR_nn (h.rf (j := 3) t) rfl rfl
theorem kR12 {T : Nat → Nat} {cn : Nat} {K N : Nat → Nat} {I : cz_I} {R : cz_R} {d : Int} {a : Nat} (h : Wf T cn K N I R d) (t : T a = 12) : K a = 8 := h.kd t rfl
theorem iv12_0 {T : Nat → Nat} {cn : Nat} {K N : Nat → Nat} {I : cz_I} {R : cz_R} {d : Int} {a : Nat} (h : Wf T cn K N I R d) (t : T a = 12) {v : Int32} (c : I a 0 = v) : 0 ≤ v.toInt ∧ v.toInt ≤ 240 := h.iv t c
theorem iv12_10 {T : Nat → Nat} {cn : Nat} {K N : Nat → Nat} {I : cz_I} {R : cz_R} {d : Int} {a : Nat} (h : Wf T cn K N I R d) (t : T a = 12) {v : Int32} (c : I a 10 = v) : 0 ≤ v.toInt ∧ v.toInt ≤ 240 := h.iv t c
theorem rf12_2 {T : Nat → Nat} {cn : Nat} {K N : Nat → Nat} {I : cz_I} {R : cz_R} {d : Int} {a : Nat} (h : Wf T cn K N I R d) (t : T a = 12) : ∃ b, R a 2 = some b ∧ T b = 35 := okR_nn (h.rf (j := 2) t) rfl rfl
theorem rf12_3 {T : Nat → Nat} {cn : Nat} {K N : Nat → Nat} {I : cz_I} {R : cz_R} {d : Int} {a : Nat} (h : Wf T cn K N I R d) (t : T a = 12) : ∃ b, R a 3 = some b ∧ T b = 36 := okR_nn (h.rf (j := 3) t) rfl rfl
theorem rf12_4 {T : Nat → Nat} {cn : Nat} {K N : Nat → Nat} {I : cz_I} {R : cz_R} {d : Int} {a : Nat} (h : Wf T cn K N I R d) (t : T a = 12) : ∃ b, R a 4 = some b ∧ T b = 37 := okR_nn (h.rf (j := 4) t) rfl rfl
theorem rf12_5 {T : Nat → Nat} {cn : Nat} {K N : Nat → Nat} {I : cz_I} {R : cz_R} {d : Int} {a : Nat} (h : Wf T cn K N I R d) (t : T a = 12) : ∃ b, R a 5 = some b ∧ T b = 38 := okR_nn (h.rf (j := 5) t) rfl rfl
theorem rf12_6 {T : Nat → Nat} {cn : Nat} {K N : Nat → Nat} {I : cz_I} {R : cz_R} {d : Int} {a : Nat} (h : Wf T cn K N I R d) (t : T a = 12) : ∃ b, R a 6 = some b ∧ T b = 39 := okR_nn (h.rf (j := 6) t) rfl rfl
theorem rf12_7 {T : Nat → Nat} {cn : Nat} {K N : Nat → Nat} {I : cz_I} {R : cz_R} {d : Int} {a : Nat} (h : Wf T cn K N I R d) (t : T a = 12) : ∃ b, R a 7 = some b ∧ T b = 40 := okR_nn (h.rf (j := 7) t) rfl rfl
theorem rf12_8 {T : Nat → Nat} {cn : Nat} {K N : Nat → Nat} {I : cz_I} {R : cz_R} {d : Int} {a : Nat} (h : Wf T cn K N I R d) (t : T a = 12) : ∃ b, R a 8 = some b ∧ T b = 41 := okR_nn (h.rf (j := 8) t) rfl rfl
theorem rf12_9 {T : Nat → Nat} {cn : Nat} {K N : Nat → Nat} {I : cz_I} {R : cz_R} {d : Int} {a : Nat} (h : Wf T cn K N I R d) (t : T a = 12) : ∃ b, R a 9 = some b ∧ T b = 42 := okR_nn (h.rf (j := 9) t) rfl rfl
theorem rf12_11 {T : Nat → Nat} {cn : Nat} {K N : Nat → Nat} {I : cz_I} {R : cz_R} {d : Int} {a : Nat} (h : Wf T cn K N I R d) (t : T a = 12) : ∃ b, R a 11 = some b ∧ T b = 43 := okR_nn (h.rf (j := 11) t) rfl rfl
theorem kR13 {T : Nat → Nat} {cn : Nat} {K N : Nat → Nat} {I : cz_I} {R : cz_R} {d : Int} {a : Nat} (h : Wf T cn K N I R d) (t : T a = 13) : K a = 5 := h.kd t rfl
theorem rf13_0 {T : Nat → Nat} {cn : Nat} {K N : Nat → Nat} {I : cz_I} {R : cz_R} {d : Int} {a : Nat} (h : Wf T cn K N I R d) (t : T a = 13) : ∃ b, R a 0 = some b ∧ T b = 2 := okR_nn (h.rf (j := 0) t) rfl rfl
theorem rf13_1 {T : Nat → Nat} {cn : Nat} {K N : Nat → Nat} {I : cz_I} {R : cz_R} {d : Int} {a : Nat} (h : Wf T cn K N I R d) (t : T a = 13) : ∃ b, R a 1 = some b ∧ T b = 12 := okR_nn (h.rf (j := 1) t) rfl rfl
theorem rf13_3 {T : Nat → Nat} {cn : Nat} {K N : Nat → Nat} {I : cz_I} {R : cz_R} {d : Int} {a : Nat} (h : Wf T cn K N I R d) (t : T a = 13) : ∃ b, R a 3 = some b ∧ T b = 44 := okR_nn (h.rf (j := 3) t) rfl rfl
theorem rf13_4 {T : Nat → Nat} {cn : Nat} {K N : Nat → Nat} {I : cz_I} {R : cz_R} {d : Int} {a : Nat} (h : Wf T cn K N I R d) (t : T a = 13) : ∃ b, R a 4 = some b ∧ T b = 45 := okR_nn (h.rf (j := 4) t) rfl rfl
theorem rf13_5 {T : Nat → Nat} {cn : Nat} {K N : Nat → Nat} {I : cz_I} {R : cz_R} {d : Int} {a : Nat} (h : Wf T cn K N I R d) (t : T a = 13) : ∃ b, R a 5 = some b ∧ T b = 46 := okR_nn (h.rf (j := 5) t) rfl rfl
theorem rf13_6 {T : Nat → Nat} {cn : Nat} {K N : Nat → Nat} {I : cz_I} {R : cz_R} {d : Int} {a : Nat} (h : Wf T cn K N I R d) (t : T a = 13) : ∃ b, R a 6 = some b ∧ T b = 47 := okR_nn (h.rf (j := 6) t) rfl rfl
theorem rf13_7 {T : Nat → Nat} {cn : Nat} {K N : Nat → Nat} {I : cz_I} {R : cz_R} {d : Int} {a : Nat} (h : Wf T cn K N I R d) (t : T a = 13) : ∃ b, R a 7 = some b ∧ T b = 48 := okR_nn (h.rf (j := 7) t) rfl rfl
theorem rf13_8 {T : Nat → Nat} {cn : Nat} {K N : Nat → Nat} {I : cz_I} {R : cz_R} {d : Int} {a : Nat} (h : Wf T cn K N I R d) (t : T a = 13) : ∃ b, R a 8 = some b ∧ T b = 49 := okR_nn (h.rf (j := 8) t) rfl rfl
theorem rf13_9 {T : Nat → Nat} {cn : Nat} {K N : Nat → Nat} {I : cz_I} {R : cz_R} {d : Int} {a : Nat} (h : Wf T cn K N I R d) (t : T a = 13) : ∃ b, R a 9 = some b ∧ T b = 50 := okR_nn (h.rf (j := 9) t) rfl rfl
theorem rf13_10 {T : Nat → Nat} {cn : Nat} {K N : Nat → Nat} {I : cz_I} {R : cz_R} {d : Int} {a : Nat} (h : Wf T cn K N I R d) (t : T a = 13) : ∃ b, R a 10 = some b ∧ T b = 51 := okR_nn (h.rf (j := 10) t) rfl rfl
theorem rf13_11 {T : Nat → Nat} {cn : Nat} {K N : Nat → Nat} {I : cz_I} {R : cz_R} {d : Int} {a : Nat} (h : Wf T cn K N I R d) (t : T a = 13) : ∃ b, R a 11 = some b ∧ T b = 52 := okR_nn (h.rf (j := 11) t) rfl rfl
theorem kR14 {T : Nat → Nat} {cn : Nat} {K N : Nat → Nat} {I : cz_I} {R : cz_R} {d : Int} {a : Nat} (h : Wf T cn K N I R d) (t : T a = 14) : K a = 11 := h.kd t rfl
theorem iv14_0 {T : Nat → Nat} {cn : Nat} {K N : Nat → Nat} {I : cz_I} {R : cz_R} {d : Int} {a : Nat} (h : Wf T cn K N I R d) (t : T a = 14) {v : Int32} (c : I a 0 = v) : 0 ≤ v.toInt ∧ v.toInt ≤ 240 := h.iv t c
theorem iv14_1 {T : Nat → Nat} {cn : Nat} {K N : Nat → Nat} {I : cz_I} {R : cz_R} {d : Int} {a : Nat} (h : Wf T cn K N I R d) (t : T a = 14) {v : Int32} (c : I a 1 = v) : 0 ≤ v.toInt ∧ v.toInt ≤ 4 := h.iv t c
theorem iv14_2 {T : Nat → Nat} {cn : Nat} {K N : Nat → Nat} {I : cz_I} {R : cz_R} {d : Int} {a : Nat} (h : Wf T cn K N I R d) (t : T a = 14) {v : Int32} (c : I a 2 = v) : 0 ≤ v.toInt ∧ v.toInt ≤ 14 := h.iv t c
theorem iv14_3 {T : Nat → Nat} {cn : Nat} {K N : Nat → Nat} {I : cz_I} {R : cz_R} {d : Int} {a : Nat} (h : Wf T cn K N I R d) (t : T a = 14) {v : Int32} (c : I a 3 = v) : 0 ≤ v.toInt ∧ v.toInt ≤ 8 := h.iv t c
theorem iv14_4 {T : Nat → Nat} {cn : Nat} {K N : Nat → Nat} {I : cz_I} {R : cz_R} {d : Int} {a : Nat} (h : Wf T cn K N I R d) (t : T a = 14) {v : Int32} (c : I a 4 = v) : 0 ≤ v.toInt ∧ v.toInt ≤ 5 := h.iv t c
theorem iv14_5 {T : Nat → Nat} {cn : Nat} {K N : Nat → Nat} {I : cz_I} {R : cz_R} {d : Int} {a : Nat} (h : Wf T cn K N I R d) (t : T a = 14) {v : Int32} (c : I a 5 = v) : 0 ≤ v.toInt ∧ v.toInt ≤ 6 := h.iv t c
theorem iv14_6 {T : Nat → Nat} {cn : Nat} {K N : Nat → Nat} {I : cz_I} {R : cz_R} {d : Int} {a : Nat} (h : Wf T cn K N I R d) (t : T a = 14) {v : Int32} (c : I a 6 = v) : 0 ≤ v.toInt ∧ v.toInt ≤ 4 := h.iv t c
theorem iv14_7 {T : Nat → Nat} {cn : Nat} {K N : Nat → Nat} {I : cz_I} {R : cz_R} {d : Int} {a : Nat} (h : Wf T cn K N I R d) (t : T a = 14) {v : Int32} (c : I a 7 = v) : 0 ≤ v.toInt ∧ v.toInt ≤ 13 := h.iv t c
theorem iv14_8 {T : Nat → Nat} {cn : Nat} {K N : Nat → Nat} {I : cz_I} {R : cz_R} {d : Int} {a : Nat} (h : Wf T cn K N I R d) (t : T a = 14) {v : Int32} (c : I a 8 = v) : 0 ≤ v.toInt ∧ v.toInt ≤ 8 := h.iv t c
theorem iv14_9 {T : Nat → Nat} {cn : Nat} {K N : Nat → Nat} {I : cz_I} {R : cz_R} {d : Int} {a : Nat} (h : Wf T cn K N I R d) (t : T a = 14) {v : Int32} (c : I a 9 = v) : 0 ≤ v.toInt ∧ v.toInt ≤ 1 := h.iv t c
theorem rf14_10 {T : Nat → Nat} {cn : Nat} {K N : Nat → Nat} {I : cz_I} {R : cz_R} {d : Int} {a : Nat} (h : Wf T cn K N I R d) (t : T a = 14) : ∃ b, R a 10 = some b ∧ T b = 53 := okR_nn (h.rf (j := 10) t) rfl rfl
theorem rf14_11 {T : Nat → Nat} {cn : Nat} {K N : Nat → Nat} {I : cz_I} {R : cz_R} {d : Int} {a : Nat} (h : Wf T cn K N I R d) (t : T a = 14) : ∃ b, R a 11 = some b ∧ T b = 54 := okR_nn (h.rf (j := 11) t) rfl rfl
theorem rf14_12 {T : Nat → Nat} {cn : Nat} {K N : Nat → Nat} {I : cz_I} {R : cz_R} {d : Int} {a : Nat} (h : Wf T cn K N I R d) (t : T a = 14) : ∃ b, R a 12 = some b ∧ T b = 55 := okR_nn (h.rf (j := 12) t) rfl rfl
theorem rf14_13 {T : Nat → Nat} {cn : Nat} {K N : Nat → Nat} {I : cz_I} {R : cz_R} {d : Int} {a : Nat} (h : Wf T cn K N I R d) (t : T a = 14) : ∃ b, R a 13 = some b ∧ T b = 56 := okR_nn (h.rf (j := 13) t) rfl rfl
theorem rf14_14 {T : Nat → Nat} {cn : Nat} {K N : Nat → Nat} {I : cz_I} {R : cz_R} {d : Int} {a : Nat} (h : Wf T cn K N I R d) (t : T a = 14) : ∃ b, R a 14 = some b ∧ T b = 57 := okR_nn (h.rf (j := 14) t) rfl rfl
theorem rf14_15 {T : Nat → Nat} {cn : Nat} {K N : Nat → Nat} {I : cz_I} {R : cz_R} {d : Int} {a : Nat} (h : Wf T cn K N I R d) (t : T a = 14) : ∃ b, R a 15 = some b ∧ T b = 58 := okR_nn (h.rf (j := 15) t) rfl rfl
theorem rf14_16 {T : Nat → Nat} {cn : Nat} {K N : Nat → Nat} {I : cz_I} {R : cz_R} {d : Int} {a : Nat} (h : Wf T cn K N I R d) (t : T a = 14) : ∃ b, R a 16 = some b ∧ T b = 59 := okR_nn (h.rf (j := 16) t) rfl rfl
theorem rf14_17 {T : Nat → Nat} {cn : Nat} {K N : Nat → Nat} {I : cz_I} {R : cz_R} {d : Int} {a : Nat} (h : Wf T cn K N I R d) (t : T a = 14) : ∃ b, R a 17 = some b ∧ T b = 60 := okR_nn (h.rf (j := 17) t) rfl rfl
theorem rf14_18 {T : Nat → Nat} {cn : Nat} {K N : Nat → Nat} {I : cz_I} {R : cz_R} {d : Int} {a : Nat} (h : Wf T cn K N I R d) (t : T a = 14) : ∃ b, R a 18 = some b ∧ T b = 61 := okR_nn (h.rf (j := 18) t) rfl rfl
theorem rf14_19 {T : Nat → Nat} {cn : Nat} {K N : Nat → Nat} {I : cz_I} {R : cz_R} {d : Int} {a : Nat} (h : Wf T cn K N I R d) (t : T a = 14) : ∃ b, R a 19 = some b ∧ T b = 62 := okR_nn (h.rf (j := 19) t) rfl rfl
theorem rf14_20 {T : Nat → Nat} {cn : Nat} {K N : Nat → Nat} {I : cz_I} {R : cz_R} {d : Int} {a : Nat} (h : Wf T cn K N I R d) (t : T a = 14) : ∃ b, R a 20 = some b ∧ T b = 63 := okR_nn (h.rf (j := 20) t) rfl rfl
theorem rf14_21 {T : Nat → Nat} {cn : Nat} {K N : Nat → Nat} {I : cz_I} {R : cz_R} {d : Int} {a : Nat} (h : Wf T cn K N I R d) (t : T a = 14) : ∃ b, R a 21 = some b ∧ T b = 64 := okR_nn (h.rf (j := 21) t) rfl rfl
theorem rf14_22 {T : Nat → Nat} {cn : Nat} {K N : Nat → Nat} {I : cz_I} {R : cz_R} {d : Int} {a : Nat} (h : Wf T cn K N I R d) (t : T a = 14) : ∃ b, R a 22 = some b ∧ T b = 65 := okR_nn (h.rf (j := 22) t) rfl rfl
theorem rf14_23 {T : Nat → Nat} {cn : Nat} {K N : Nat → Nat} {I : cz_I} {R : cz_R} {d : Int} {a : Nat} (h : Wf T cn K N I R d) (t : T a = 14) : ∃ b, R a 23 = some b ∧ T b = 66 := okR_nn (h.rf (j := 23) t) rfl rfl
theorem rf14_24 {T : Nat → Nat} {cn : Nat} {K N : Nat → Nat} {I : cz_I} {R : cz_R} {d : Int} {a : Nat} (h : Wf T cn K N I R d) (t : T a = 14) : ∃ b, R a 24 = some b ∧ T b = 67 := okR_nn (h.rf (j := 24) t) rfl rfl
theorem rf14_25 {T : Nat → Nat} {cn : Nat} {K N : Nat → Nat} {I : cz_I} {R : cz_R} {d : Int} {a : Nat} (h : Wf T cn K N I R d) (t : T a = 14) : ∃ b, R a 25 = some b ∧ T b = 68 := okR_nn (h.rf (j := 25) t) rfl rfl
theorem rf14_26 {T : Nat → Nat} {cn : Nat} {K N : Nat → Nat} {I : cz_I} {R : cz_R} {d : Int} {a : Nat} (h : Wf T cn K N I R d) (t : T a = 14) : ∃ b, R a 26 = some b ∧ T b = 69 := okR_nn (h.rf (j := 26) t) rfl rfl
theorem rf14_27 {T : Nat → Nat} {cn : Nat} {K N : Nat → Nat} {I : cz_I} {R : cz_R} {d : Int} {a : Nat} (h : Wf T cn K N I R d) (t : T a = 14) : ∃ b, R a 27 = some b ∧ T b = 70 := okR_nn (h.rf (j := 27) t) rfl rfl
theorem rf14_28 {T : Nat → Nat} {cn : Nat} {K N : Nat → Nat} {I : cz_I} {R : cz_R} {d : Int} {a : Nat} (h : Wf T cn K N I R d) (t : T a = 14) : ∃ b, R a 28 = some b ∧ T b = 71 := okR_nn (h.rf (j := 28) t) rfl rfl
theorem rf14_29 {T : Nat → Nat} {cn : Nat} {K N : Nat → Nat} {I : cz_I} {R : cz_R} {d : Int} {a : Nat} (h : Wf T cn K N I R d) (t : T a = 14) : ∃ b, R a 29 = some b ∧ T b = 72 := okR_nn (h.rf (j := 29) t) rfl rfl
theorem rf14_30 {T : Nat → Nat} {cn : Nat} {K N : Nat → Nat} {I : cz_I} {R : cz_R} {d : Int} {a : Nat} (h : Wf T cn K N I R d) (t : T a = 14) : ∃ b, R a 30 = some b ∧ T b = 73 := okR_nn (h.rf (j := 30) t) rfl rfl
theorem rf14_31 {T : Nat → Nat} {cn : Nat} {K N : Nat → Nat} {I : cz_I} {R : cz_R} {d : Int} {a : Nat} (h : Wf T cn K N I R d) (t : T a = 14) : ∃ b, R a 31 = some b ∧ T b = 74 := okR_nn (h.rf (j := 31) t) rfl rfl
theorem rf14_32 {T : Nat → Nat} {cn : Nat} {K N : Nat → Nat} {I : cz_I} {R : cz_R} {d : Int} {a : Nat} (h : Wf T cn K N I R d) (t : T a = 14) : ∃ b, R a 32 = some b ∧ T b = 75 := okR_nn (h.rf (j := 32) t) rfl rfl
theorem kR15 {T : Nat → Nat} {cn : Nat} {K N : Nat → Nat} {I : cz_I} {R : cz_R} {d : Int} {a : Nat} (h : Wf T cn K N I R d) (t : T a = 15) : K a = 12 := h.kd t rfl
theorem iv15_6 {T : Nat → Nat} {cn : Nat} {K N : Nat → Nat} {I : cz_I} {R : cz_R} {d : Int} {a : Nat} (h : Wf T cn K N I R d) (t : T a = 15) {v : Int32} (c : I a 6 = v) : 0 ≤ v.toInt ∧ v.toInt ≤ 900 := h.iv t c
theorem iv15_7 {T : Nat → Nat} {cn : Nat} {K N : Nat → Nat} {I : cz_I} {R : cz_R} {d : Int} {a : Nat} (h : Wf T cn K N I R d) (t : T a = 15) {v : Int32} (c : I a 7 = v) : 0 ≤ v.toInt ∧ v.toInt ≤ 900 := h.iv t c
theorem iv15_8 {T : Nat → Nat} {cn : Nat} {K N : Nat → Nat} {I : cz_I} {R : cz_R} {d : Int} {a : Nat} (h : Wf T cn K N I R d) (t : T a = 15) {v : Int32} (c : I a 8 = v) : 0 ≤ v.toInt ∧ v.toInt ≤ 900 := h.iv t c
theorem iv15_9 {T : Nat → Nat} {cn : Nat} {K N : Nat → Nat} {I : cz_I} {R : cz_R} {d : Int} {a : Nat} (h : Wf T cn K N I R d) (t : T a = 15) {v : Int32} (c : I a 9 = v) : 0 ≤ v.toInt ∧ v.toInt ≤ 5 := h.iv t c
theorem iv15_10 {T : Nat → Nat} {cn : Nat} {K N : Nat → Nat} {I : cz_I} {R : cz_R} {d : Int} {a : Nat} (h : Wf T cn K N I R d) (t : T a = 15) {v : Int32} (c : I a 10 = v) : 0 ≤ v.toInt ∧ v.toInt ≤ 900 := h.iv t c
theorem iv15_19 {T : Nat → Nat} {cn : Nat} {K N : Nat → Nat} {I : cz_I} {R : cz_R} {d : Int} {a : Nat} (h : Wf T cn K N I R d) (t : T a = 15) {v : Int32} (c : I a 19 = v) : 0 ≤ v.toInt ∧ v.toInt ≤ 12 := h.iv t c
theorem iv15_20 {T : Nat → Nat} {cn : Nat} {K N : Nat → Nat} {I : cz_I} {R : cz_R} {d : Int} {a : Nat} (h : Wf T cn K N I R d) (t : T a = 15) {v : Int32} (c : I a 20 = v) : 0 ≤ v.toInt ∧ v.toInt ≤ 3 := h.iv t c
theorem rf15_3 {T : Nat → Nat} {cn : Nat} {K N : Nat → Nat} {I : cz_I} {R : cz_R} {d : Int} {a : Nat} (h : Wf T cn K N I R d) (t : T a = 15) : R a 3 = none ∨ ∃ b, R a 3 = some b ∧ T b = 14 := okR_nu (h.rf (j := 3) t)
theorem rf15_5 {T : Nat → Nat} {cn : Nat} {K N : Nat → Nat} {I : cz_I} {R : cz_R} {d : Int} {a : Nat} (h : Wf T cn K N I R d) (t : T a = 15) : ∃ b, R a 5 = some b ∧ T b = 76 := okR_nn (h.rf (j := 5) t) rfl rfl
theorem rf15_16 {T : Nat → Nat} {cn : Nat} {K N : Nat → Nat} {I : cz_I} {R : cz_R} {d : Int} {a : Nat} (h : Wf T cn K N I R d) (t : T a = 15) : ∃ b, R a 16 = some b ∧ T b = 77 := okR_nn (h.rf (j := 16) t) rfl rfl
theorem rf15_17 {T : Nat → Nat} {cn : Nat} {K N : Nat → Nat} {I : cz_I} {R : cz_R} {d : Int} {a : Nat} (h : Wf T cn K N I R d) (t : T a = 15) : ∃ b, R a 17 = some b ∧ T b = 78 := okR_nn (h.rf (j := 17) t) rfl rfl
theorem rf15_18 {T : Nat → Nat} {cn : Nat} {K N : Nat → Nat} {I : cz_I} {R : cz_R} {d : Int} {a : Nat} (h : Wf T cn K N I R d) (t : T a = 15) : ∃ b, R a 18 = some b ∧ T b = 79 := okR_nn (h.rf (j := 18) t) rfl rfl
theorem rf15_21 {T : Nat → Nat} {cn : Nat} {K N : Nat → Nat} {I : cz_I} {R : cz_R} {d : Int} {a : Nat} (h : Wf T cn K N I R d) (t : T a = 15) : ∃ b, R a 21 = some b ∧ T b = 81 := okR_nn (h.rf (j := 21) t) rfl rfl
theorem rf15_22 {T : Nat → Nat} {cn : Nat} {K N : Nat → Nat} {I : cz_I} {R : cz_R} {d : Int} {a : Nat} (h : Wf T cn K N I R d) (t : T a = 15) : ∃ b, R a 22 = some b ∧ T b = 82 := okR_nn (h.rf (j := 22) t) rfl rfl
theorem rf15_23 {T : Nat → Nat} {cn : Nat} {K N : Nat → Nat} {I : cz_I} {R : cz_R} {d : Int} {a : Nat} (h : Wf T cn K N I R d) (t : T a = 15) : ∃ b, R a 23 = some b ∧ T b = 83 := okR_nn (h.rf (j := 23) t) rfl rfl
theorem rf15_24 {T : Nat → Nat} {cn : Nat} {K N : Nat → Nat} {I : cz_I} {R : cz_R} {d : Int} {a : Nat} (h : Wf T cn K N I R d) (t : T a = 15) : ∃ b, R a 24 = some b ∧ T b = 84 := okR_nn (h.rf (j := 24) t) rfl rfl
theorem rf15_25 {T : Nat → Nat} {cn : Nat} {K N : Nat → Nat} {I : cz_I} {R : cz_R} {d : Int} {a : Nat} (h : Wf T cn K N I R d) (t : T a = 15) : ∃ b, R a 25 = some b ∧ T b = 85 := okR_nn (h.rf (j := 25) t) rfl rfl
theorem rf15_26 {T : Nat → Nat} {cn : Nat} {K N : Nat → Nat} {I : cz_I} {R : cz_R} {d : Int} {a : Nat} (h : Wf T cn K N I R d) (t : T a = 15) : ∃ b, R a 26 = some b ∧ T b = 86 := okR_nn (h.rf (j := 26) t) rfl rfl
theorem rf15_27 {T : Nat → Nat} {cn : Nat} {K N : Nat → Nat} {I : cz_I} {R : cz_R} {d : Int} {a : Nat} (h : Wf T cn K N I R d) (t : T a = 15) : ∃ b, R a 27 = some b ∧ T b = 87 := okR_nn (h.rf (j := 27) t) rfl rfl
theorem rf15_28 {T : Nat → Nat} {cn : Nat} {K N : Nat → Nat} {I : cz_I} {R : cz_R} {d : Int} {a : Nat} (h : Wf T cn K N I R d) (t : T a = 15) : ∃ b, R a 28 = some b ∧ T b = 88 := okR_nn (h.rf (j := 28) t) rfl rfl
theorem rf15_29 {T : Nat → Nat} {cn : Nat} {K N : Nat → Nat} {I : cz_I} {R : cz_R} {d : Int} {a : Nat} (h : Wf T cn K N I R d) (t : T a = 15) : ∃ b, R a 29 = some b ∧ T b = 89 := okR_nn (h.rf (j := 29) t) rfl rfl
theorem rf15_30 {T : Nat → Nat} {cn : Nat} {K N : Nat → Nat} {I : cz_I} {R : cz_R} {d : Int} {a : Nat} (h : Wf T cn K N I R d) (t : T a = 15) : ∃ b, R a 30 = some b ∧ T b = 90 := okR_nn (h.rf (j := 30) t) rfl rfl
theorem rf15_31 {T : Nat → Nat} {cn : Nat} {K N : Nat → Nat} {I : cz_I} {R : cz_R} {d : Int} {a : Nat} (h : Wf T cn K N I R d) (t : T a = 15) : ∃ b, R a 31 = some b ∧ T b = 91 := okR_nn (h.rf (j := 31) t) rfl rfl
theorem rf15_32 {T : Nat → Nat} {cn : Nat} {K N : Nat → Nat} {I : cz_I} {R : cz_R} {d : Int} {a : Nat} (h : Wf T cn K N I R d) (t : T a = 15) : ∃ b, R a 32 = some b ∧ T b = 92 := okR_nn (h.rf (j := 32) t) rfl rfl
theorem rf15_33 {T : Nat → Nat} {cn : Nat} {K N : Nat → Nat} {I : cz_I} {R : cz_R} {d : Int} {a : Nat} (h : Wf T cn K N I R d) (t : T a = 15) : ∃ b, R a 33 = some b ∧ T b = 93 := okR_nn (h.rf (j := 33) t) rfl rfl
theorem rf15_35 {T : Nat → Nat} {cn : Nat} {K N : Nat → Nat} {I : cz_I} {R : cz_R} {d : Int} {a : Nat} (h : Wf T cn K N I R d) (t : T a = 15) : ∃ b, R a 35 = some b ∧ T b = 80 := okR_nn (h.rf (j := 35) t) rfl rfl
theorem kR17 {T : Nat → Nat} {cn : Nat} {K N : Nat → Nat} {I : cz_I} {R : cz_R} {d : Int} {a : Nat} (h : Wf T cn K N I R d) (t : T a = 17) : K a = 13 := h.kd t rfl
theorem nR17 {T : Nat → Nat} {cn : Nat} {K N : Nat → Nat} {I : cz_I} {R : cz_R} {d : Int} {a : Nat} (h : Wf T cn K N I R d) (t : T a = 17) : N a = 900 := h.ln t rfl
theorem iv17 {T : Nat → Nat} {cn : Nat} {K N : Nat → Nat} {I : cz_I} {R : cz_R} {d : Int} {a : Nat} (h : Wf T cn K N I R d) (t : T a = 17) {j : Nat} {v : Int32} (c : I a j = v) : (-128) ≤ v.toInt ∧ v.toInt ≤ 127 := h.iv t c
theorem kR18 {T : Nat → Nat} {cn : Nat} {K N : Nat → Nat} {I : cz_I} {R : cz_R} {d : Int} {a : Nat} (h : Wf T cn K N I R d) (t : T a = 18) : K a = 14 := h.kd t rfl
theorem nR18 {T : Nat → Nat} {cn : Nat} {K N : Nat → Nat} {I : cz_I} {R : cz_R} {d : Int} {a : Nat} (h : Wf T cn K N I R d) (t : T a = 18) : N a = 5 := h.ln t rfl
theorem kR19 {T : Nat → Nat} {cn : Nat} {K N : Nat → Nat} {I : cz_I} {R : cz_R} {d : Int} {a : Nat} (h : Wf T cn K N I R d) (t : T a = 19) : K a = 18 := h.kd t rfl
theorem nR19 {T : Nat → Nat} {cn : Nat} {K N : Nat → Nat} {I : cz_I} {R : cz_R} {d : Int} {a : Nat} (h : Wf T cn K N I R d) (t : T a = 19) : N a = 14 := h.ln t rfl
theorem re19 {j : Nat} (hj : j < 14) : rrf 19 j = 3 := by
  show cond (Nat.ble (j + 1) 14) 3 1003 = 3
  rw [Nat.ble_eq.mpr (show j + 1 ≤ 14 from hj)]; rfl
theorem rf19 {T : Nat → Nat} {cn : Nat} {K N : Nat → Nat} {I : cz_I} {R : cz_R} {d : Int} {a : Nat} (h : Wf T cn K N I R d) (t : T a = 19) {j : Nat} (hj : j < 14) : ∃ b, R a j = some b ∧ T b = 3 := by
  have q := h.rf (j := j) t
  rw [re19 hj] at q
  exact okR_nn q rfl rfl
theorem kR20 {T : Nat → Nat} {cn : Nat} {K N : Nat → Nat} {I : cz_I} {R : cz_R} {d : Int} {a : Nat} (h : Wf T cn K N I R d) (t : T a = 20) : K a = 14 := h.kd t rfl
theorem nR20 {T : Nat → Nat} {cn : Nat} {K N : Nat → Nat} {I : cz_I} {R : cz_R} {d : Int} {a : Nat} (h : Wf T cn K N I R d) (t : T a = 20) : N a = 8 := h.ln t rfl
theorem kR21 {T : Nat → Nat} {cn : Nat} {K N : Nat → Nat} {I : cz_I} {R : cz_R} {d : Int} {a : Nat} (h : Wf T cn K N I R d) (t : T a = 21) : K a = 21 := h.kd t rfl
theorem nR21 {T : Nat → Nat} {cn : Nat} {K N : Nat → Nat} {I : cz_I} {R : cz_R} {d : Int} {a : Nat} (h : Wf T cn K N I R d) (t : T a = 21) : N a = 5 := h.ln t rfl
theorem re21 {j : Nat} (hj : j < 5) : rrf 21 j = 4 := by
  show cond (Nat.ble (j + 1) 5) 4 1004 = 4
  rw [Nat.ble_eq.mpr (show j + 1 ≤ 5 from hj)]; rfl
theorem rf21 {T : Nat → Nat} {cn : Nat} {K N : Nat → Nat} {I : cz_I} {R : cz_R} {d : Int} {a : Nat} (h : Wf T cn K N I R d) (t : T a = 21) {j : Nat} (hj : j < 5) : ∃ b, R a j = some b ∧ T b = 4 := by
  have q := h.rf (j := j) t
  rw [re21 hj] at q
  exact okR_nn q rfl rfl
theorem kR22 {T : Nat → Nat} {cn : Nat} {K N : Nat → Nat} {I : cz_I} {R : cz_R} {d : Int} {a : Nat} (h : Wf T cn K N I R d) (t : T a = 22) : K a = 17 := h.kd t rfl
theorem nR22 {T : Nat → Nat} {cn : Nat} {K N : Nat → Nat} {I : cz_I} {R : cz_R} {d : Int} {a : Nat} (h : Wf T cn K N I R d) (t : T a = 22) : N a = 6 := h.ln t rfl
theorem re22 {j : Nat} (hj : j < 6) : rrf 22 j = 5 := by
  show cond (Nat.ble (j + 1) 6) 5 1005 = 5
  rw [Nat.ble_eq.mpr (show j + 1 ≤ 6 from hj)]; rfl
theorem rf22 {T : Nat → Nat} {cn : Nat} {K N : Nat → Nat} {I : cz_I} {R : cz_R} {d : Int} {a : Nat} (h : Wf T cn K N I R d) (t : T a = 22) {j : Nat} (hj : j < 6) : ∃ b, R a j = some b ∧ T b = 5 := by
  have q := h.rf (j := j) t
  rw [re22 hj] at q
  exact okR_nn q rfl rfl
theorem kR23 {T : Nat → Nat} {cn : Nat} {K N : Nat → Nat} {I : cz_I} {R : cz_R} {d : Int} {a : Nat} (h : Wf T cn K N I R d) (t : T a = 23) : K a = 20 := h.kd t rfl
theorem nR23 {T : Nat → Nat} {cn : Nat} {K N : Nat → Nat} {I : cz_I} {R : cz_R} {d : Int} {a : Nat} (h : Wf T cn K N I R d) (t : T a = 23) : N a = 4 := h.ln t rfl
theorem re23 {j : Nat} (hj : j < 4) : rrf 23 j = 6 := by
  show cond (Nat.ble (j + 1) 4) 6 1006 = 6
  rw [Nat.ble_eq.mpr (show j + 1 ≤ 4 from hj)]; rfl
theorem rf23 {T : Nat → Nat} {cn : Nat} {K N : Nat → Nat} {I : cz_I} {R : cz_R} {d : Int} {a : Nat} (h : Wf T cn K N I R d) (t : T a = 23) {j : Nat} (hj : j < 4) : ∃ b, R a j = some b ∧ T b = 6 := by
  have q := h.rf (j := j) t
  rw [re23 hj] at q
  exact okR_nn q rfl rfl
theorem kR24 {T : Nat → Nat} {cn : Nat} {K N : Nat → Nat} {I : cz_I} {R : cz_R} {d : Int} {a : Nat} (h : Wf T cn K N I R d) (t : T a = 24) : K a = 14 := h.kd t rfl
theorem nR24 {T : Nat → Nat} {cn : Nat} {K N : Nat → Nat} {I : cz_I} {R : cz_R} {d : Int} {a : Nat} (h : Wf T cn K N I R d) (t : T a = 24) : N a = 8 := h.ln t rfl
theorem iv24 {T : Nat → Nat} {cn : Nat} {K N : Nat → Nat} {I : cz_I} {R : cz_R} {d : Int} {a : Nat} (h : Wf T cn K N I R d) (t : T a = 24) {j : Nat} {v : Int32} (c : I a j = v) : 0 ≤ v.toInt ∧ v.toInt ≤ 239 := h.iv t c
theorem kR25 {T : Nat → Nat} {cn : Nat} {K N : Nat → Nat} {I : cz_I} {R : cz_R} {d : Int} {a : Nat} (h : Wf T cn K N I R d) (t : T a = 25) : K a = 15 := h.kd t rfl
theorem nR25 {T : Nat → Nat} {cn : Nat} {K N : Nat → Nat} {I : cz_I} {R : cz_R} {d : Int} {a : Nat} (h : Wf T cn K N I R d) (t : T a = 25) : N a = 8 := h.ln t rfl
theorem kR26 {T : Nat → Nat} {cn : Nat} {K N : Nat → Nat} {I : cz_I} {R : cz_R} {d : Int} {a : Nat} (h : Wf T cn K N I R d) (t : T a = 26) : K a = 15 := h.kd t rfl
theorem nR26 {T : Nat → Nat} {cn : Nat} {K N : Nat → Nat} {I : cz_I} {R : cz_R} {d : Int} {a : Nat} (h : Wf T cn K N I R d) (t : T a = 26) : N a = 5 := h.ln t rfl
theorem kR27 {T : Nat → Nat} {cn : Nat} {K N : Nat → Nat} {I : cz_I} {R : cz_R} {d : Int} {a : Nat} (h : Wf T cn K N I R d) (t : T a = 27) : K a = 14 := h.kd t rfl
theorem nR27 {T : Nat → Nat} {cn : Nat} {K N : Nat → Nat} {I : cz_I} {R : cz_R} {d : Int} {a : Nat} (h : Wf T cn K N I R d) (t : T a = 27) : N a = 6 := h.ln t rfl
theorem iv27 {T : Nat → Nat} {cn : Nat} {K N : Nat → Nat} {I : cz_I} {R : cz_R} {d : Int} {a : Nat} (h : Wf T cn K N I R d) (t : T a = 27) {j : Nat} {v : Int32} (c : I a j = v) : 0 ≤ v.toInt ∧ v.toInt ≤ 240 := h.iv t c
theorem kR28 {T : Nat → Nat} {cn : Nat} {K N : Nat → Nat} {I : cz_I} {R : cz_R} {d : Int} {a : Nat} (h : Wf T cn K N I R d) (t : T a = 28) : K a = 14 := h.kd t rfl
theorem nR28 {T : Nat → Nat} {cn : Nat} {K N : Nat → Nat} {I : cz_I} {R : cz_R} {d : Int} {a : Nat} (h : Wf T cn K N I R d) (t : T a = 28) : N a = 6 := h.ln t rfl
theorem iv28 {T : Nat → Nat} {cn : Nat} {K N : Nat → Nat} {I : cz_I} {R : cz_R} {d : Int} {a : Nat} (h : Wf T cn K N I R d) (t : T a = 28) {j : Nat} {v : Int32} (c : I a j = v) : 0 ≤ v.toInt ∧ v.toInt ≤ 240 := h.iv t c
theorem kR29 {T : Nat → Nat} {cn : Nat} {K N : Nat → Nat} {I : cz_I} {R : cz_R} {d : Int} {a : Nat} (h : Wf T cn K N I R d) (t : T a = 29) : K a = 14 := h.kd t rfl
theorem nR29 {T : Nat → Nat} {cn : Nat} {K N : Nat → Nat} {I : cz_I} {R : cz_R} {d : Int} {a : Nat} (h : Wf T cn K N I R d) (t : T a = 29) : N a = 6 := h.ln t rfl
theorem iv29 {T : Nat → Nat} {cn : Nat} {K N : Nat → Nat} {I : cz_I} {R : cz_R} {d : Int} {a : Nat} (h : Wf T cn K N I R d) (t : T a = 29) {j : Nat} {v : Int32} (c : I a j = v) : 0 ≤ v.toInt ∧ v.toInt ≤ 240 := h.iv t c
theorem kR30 {T : Nat → Nat} {cn : Nat} {K N : Nat → Nat} {I : cz_I} {R : cz_R} {d : Int} {a : Nat} (h : Wf T cn K N I R d) (t : T a = 30) : K a = 14 := h.kd t rfl
theorem nR30 {T : Nat → Nat} {cn : Nat} {K N : Nat → Nat} {I : cz_I} {R : cz_R} {d : Int} {a : Nat} (h : Wf T cn K N I R d) (t : T a = 30) : N a = 6 := h.ln t rfl
theorem iv30 {T : Nat → Nat} {cn : Nat} {K N : Nat → Nat} {I : cz_I} {R : cz_R} {d : Int} {a : Nat} (h : Wf T cn K N I R d) (t : T a = 30) {j : Nat} {v : Int32} (c : I a j = v) : 0 ≤ v.toInt ∧ v.toInt ≤ 240 := h.iv t c
theorem kR31 {T : Nat → Nat} {cn : Nat} {K N : Nat → Nat} {I : cz_I} {R : cz_R} {d : Int} {a : Nat} (h : Wf T cn K N I R d) (t : T a = 31) : K a = 14 := h.kd t rfl
theorem nR31 {T : Nat → Nat} {cn : Nat} {K N : Nat → Nat} {I : cz_I} {R : cz_R} {d : Int} {a : Nat} (h : Wf T cn K N I R d) (t : T a = 31) : N a = 6 := h.ln t rfl
theorem iv31 {T : Nat → Nat} {cn : Nat} {K N : Nat → Nat} {I : cz_I} {R : cz_R} {d : Int} {a : Nat} (h : Wf T cn K N I R d) (t : T a = 31) {j : Nat} {v : Int32} (c : I a j = v) : 0 ≤ v.toInt ∧ v.toInt ≤ 240 := h.iv t c
theorem kR32 {T : Nat → Nat} {cn : Nat} {K N : Nat → Nat} {I : cz_I} {R : cz_R} {d : Int} {a : Nat} (h : Wf T cn K N I R d) (t : T a = 32) : K a = 14 := h.kd t rfl
theorem nR32 {T : Nat → Nat} {cn : Nat} {K N : Nat → Nat} {I : cz_I} {R : cz_R} {d : Int} {a : Nat} (h : Wf T cn K N I R d) (t : T a = 32) : N a = 6 := h.ln t rfl
theorem iv32 {T : Nat → Nat} {cn : Nat} {K N : Nat → Nat} {I : cz_I} {R : cz_R} {d : Int} {a : Nat} (h : Wf T cn K N I R d) (t : T a = 32) {j : Nat} {v : Int32} (c : I a j = v) : 0 ≤ v.toInt ∧ v.toInt ≤ 240 := h.iv t c
theorem kR33 {T : Nat → Nat} {cn : Nat} {K N : Nat → Nat} {I : cz_I} {R : cz_R} {d : Int} {a : Nat} (h : Wf T cn K N I R d) (t : T a = 33) : K a = 19 := h.kd t rfl
theorem nR33 {T : Nat → Nat} {cn : Nat} {K N : Nat → Nat} {I : cz_I} {R : cz_R} {d : Int} {a : Nat} (h : Wf T cn K N I R d) (t : T a = 33) : N a = 12 := h.ln t rfl
theorem re33 {j : Nat} (hj : j < 12) : rrf 33 j = 10 := by
  show cond (Nat.ble (j + 1) 12) 10 1010 = 10
  rw [Nat.ble_eq.mpr (show j + 1 ≤ 12 from hj)]; rfl
theorem ro33 {j : Nat} (hj : ¬ j < 12) : rrf 33 j = 10 + 1000 := by
  show cond (Nat.ble (j + 1) 12) 10 1010 = 1010
  have e : Nat.ble (j + 1) 12 = false := by
    cases hb : Nat.ble (j + 1) 12 with
    | false => rfl
    | true => exact absurd (Nat.le_of_ble_eq_true hb) hj
  rw [e]; rfl
theorem rf33 {T : Nat → Nat} {cn : Nat} {K N : Nat → Nat} {I : cz_I} {R : cz_R} {d : Int} {a : Nat} (h : Wf T cn K N I R d) (t : T a = 33) {j : Nat} (hj : j < 12) : ∃ b, R a j = some b ∧ T b = 10 := by
  have q := h.rf (j := j) t
  rw [re33 hj] at q
  exact okR_nn q rfl rfl
theorem kR34 {T : Nat → Nat} {cn : Nat} {K N : Nat → Nat} {I : cz_I} {R : cz_R} {d : Int} {a : Nat} (h : Wf T cn K N I R d) (t : T a = 34) : K a = 19 := h.kd t rfl
theorem nR34 {T : Nat → Nat} {cn : Nat} {K N : Nat → Nat} {I : cz_I} {R : cz_R} {d : Int} {a : Nat} (h : Wf T cn K N I R d) (t : T a = 34) : N a = 3 := h.ln t rfl
theorem re34 {j : Nat} (hj : j < 3) : rrf 34 j = 10 := by
  show cond (Nat.ble (j + 1) 3) 10 1010 = 10
  rw [Nat.ble_eq.mpr (show j + 1 ≤ 3 from hj)]; rfl
theorem rf34 {T : Nat → Nat} {cn : Nat} {K N : Nat → Nat} {I : cz_I} {R : cz_R} {d : Int} {a : Nat} (h : Wf T cn K N I R d) (t : T a = 34) {j : Nat} (hj : j < 3) : ∃ b, R a j = some b ∧ T b = 10 := by
  have q := h.rf (j := j) t
  rw [re34 hj] at q
  exact okR_nn q rfl rfl
theorem kR35 {T : Nat → Nat} {cn : Nat} {K N : Nat → Nat} {I : cz_I} {R : cz_R} {d : Int} {a : Nat} (h : Wf T cn K N I R d) (t : T a = 35) : K a = 16 := h.kd t rfl
theorem nR35 {T : Nat → Nat} {cn : Nat} {K N : Nat → Nat} {I : cz_I} {R : cz_R} {d : Int} {a : Nat} (h : Wf T cn K N I R d) (t : T a = 35) : N a = 240 := h.ln t rfl
theorem iv35 {T : Nat → Nat} {cn : Nat} {K N : Nat → Nat} {I : cz_I} {R : cz_R} {d : Int} {a : Nat} (h : Wf T cn K N I R d) (t : T a = 35) {j : Nat} {v : Int32} (c : I a j = v) : 0 ≤ v.toInt ∧ v.toInt ≤ 1 := h.iv t c
theorem kR36 {T : Nat → Nat} {cn : Nat} {K N : Nat → Nat} {I : cz_I} {R : cz_R} {d : Int} {a : Nat} (h : Wf T cn K N I R d) (t : T a = 36) : K a = 16 := h.kd t rfl
theorem nR36 {T : Nat → Nat} {cn : Nat} {K N : Nat → Nat} {I : cz_I} {R : cz_R} {d : Int} {a : Nat} (h : Wf T cn K N I R d) (t : T a = 36) : N a = 240 := h.ln t rfl
theorem iv36 {T : Nat → Nat} {cn : Nat} {K N : Nat → Nat} {I : cz_I} {R : cz_R} {d : Int} {a : Nat} (h : Wf T cn K N I R d) (t : T a = 36) {j : Nat} {v : Int32} (c : I a j = v) : 0 ≤ v.toInt ∧ v.toInt ≤ 1 := h.iv t c
theorem kR37 {T : Nat → Nat} {cn : Nat} {K N : Nat → Nat} {I : cz_I} {R : cz_R} {d : Int} {a : Nat} (h : Wf T cn K N I R d) (t : T a = 37) : K a = 16 := h.kd t rfl
theorem nR37 {T : Nat → Nat} {cn : Nat} {K N : Nat → Nat} {I : cz_I} {R : cz_R} {d : Int} {a : Nat} (h : Wf T cn K N I R d) (t : T a = 37) : N a = 240 := h.ln t rfl
theorem iv37 {T : Nat → Nat} {cn : Nat} {K N : Nat → Nat} {I : cz_I} {R : cz_R} {d : Int} {a : Nat} (h : Wf T cn K N I R d) (t : T a = 37) {j : Nat} {v : Int32} (c : I a j = v) : 0 ≤ v.toInt ∧ v.toInt ≤ 1 := h.iv t c
theorem kR38 {T : Nat → Nat} {cn : Nat} {K N : Nat → Nat} {I : cz_I} {R : cz_R} {d : Int} {a : Nat} (h : Wf T cn K N I R d) (t : T a = 38) : K a = 14 := h.kd t rfl
theorem nR38 {T : Nat → Nat} {cn : Nat} {K N : Nat → Nat} {I : cz_I} {R : cz_R} {d : Int} {a : Nat} (h : Wf T cn K N I R d) (t : T a = 38) : N a = 240 := h.ln t rfl
theorem kR39 {T : Nat → Nat} {cn : Nat} {K N : Nat → Nat} {I : cz_I} {R : cz_R} {d : Int} {a : Nat} (h : Wf T cn K N I R d) (t : T a = 39) : K a = 14 := h.kd t rfl
theorem nR39 {T : Nat → Nat} {cn : Nat} {K N : Nat → Nat} {I : cz_I} {R : cz_R} {d : Int} {a : Nat} (h : Wf T cn K N I R d) (t : T a = 39) : N a = 240 := h.ln t rfl
theorem kR40 {T : Nat → Nat} {cn : Nat} {K N : Nat → Nat} {I : cz_I} {R : cz_R} {d : Int} {a : Nat} (h : Wf T cn K N I R d) (t : T a = 40) : K a = 14 := h.kd t rfl
theorem nR40 {T : Nat → Nat} {cn : Nat} {K N : Nat → Nat} {I : cz_I} {R : cz_R} {d : Int} {a : Nat} (h : Wf T cn K N I R d) (t : T a = 40) : N a = 240 := h.ln t rfl
theorem kR41 {T : Nat → Nat} {cn : Nat} {K N : Nat → Nat} {I : cz_I} {R : cz_R} {d : Int} {a : Nat} (h : Wf T cn K N I R d) (t : T a = 41) : K a = 14 := h.kd t rfl
theorem nR41 {T : Nat → Nat} {cn : Nat} {K N : Nat → Nat} {I : cz_I} {R : cz_R} {d : Int} {a : Nat} (h : Wf T cn K N I R d) (t : T a = 41) : N a = 240 := h.ln t rfl
theorem kR42 {T : Nat → Nat} {cn : Nat} {K N : Nat → Nat} {I : cz_I} {R : cz_R} {d : Int} {a : Nat} (h : Wf T cn K N I R d) (t : T a = 42) : K a = 14 := h.kd t rfl
theorem nR42 {T : Nat → Nat} {cn : Nat} {K N : Nat → Nat} {I : cz_I} {R : cz_R} {d : Int} {a : Nat} (h : Wf T cn K N I R d) (t : T a = 42) : N a = 240 := h.ln t rfl
theorem kR43 {T : Nat → Nat} {cn : Nat} {K N : Nat → Nat} {I : cz_I} {R : cz_R} {d : Int} {a : Nat} (h : Wf T cn K N I R d) (t : T a = 43) : K a = 14 := h.kd t rfl
theorem nR43 {T : Nat → Nat} {cn : Nat} {K N : Nat → Nat} {I : cz_I} {R : cz_R} {d : Int} {a : Nat} (h : Wf T cn K N I R d) (t : T a = 43) : N a = 240 := h.ln t rfl
theorem iv43 {T : Nat → Nat} {cn : Nat} {K N : Nat → Nat} {I : cz_I} {R : cz_R} {d : Int} {a : Nat} (h : Wf T cn K N I R d) (t : T a = 43) {j : Nat} {v : Int32} (c : I a j = v) : 0 ≤ v.toInt ∧ v.toInt ≤ 239 := h.iv t c
theorem kR44 {T : Nat → Nat} {cn : Nat} {K N : Nat → Nat} {I : cz_I} {R : cz_R} {d : Int} {a : Nat} (h : Wf T cn K N I R d) (t : T a = 44) : K a = 14 := h.kd t rfl
theorem nR44 {T : Nat → Nat} {cn : Nat} {K N : Nat → Nat} {I : cz_I} {R : cz_R} {d : Int} {a : Nat} (h : Wf T cn K N I R d) (t : T a = 44) : N a = 240 := h.ln t rfl
theorem kR45 {T : Nat → Nat} {cn : Nat} {K N : Nat → Nat} {I : cz_I} {R : cz_R} {d : Int} {a : Nat} (h : Wf T cn K N I R d) (t : T a = 45) : K a = 14 := h.kd t rfl
theorem nR45 {T : Nat → Nat} {cn : Nat} {K N : Nat → Nat} {I : cz_I} {R : cz_R} {d : Int} {a : Nat} (h : Wf T cn K N I R d) (t : T a = 45) : N a = 8 := h.ln t rfl
theorem kR46 {T : Nat → Nat} {cn : Nat} {K N : Nat → Nat} {I : cz_I} {R : cz_R} {d : Int} {a : Nat} (h : Wf T cn K N I R d) (t : T a = 46) : K a = 14 := h.kd t rfl
theorem nR46 {T : Nat → Nat} {cn : Nat} {K N : Nat → Nat} {I : cz_I} {R : cz_R} {d : Int} {a : Nat} (h : Wf T cn K N I R d) (t : T a = 46) : N a = 8 := h.ln t rfl
theorem kR47 {T : Nat → Nat} {cn : Nat} {K N : Nat → Nat} {I : cz_I} {R : cz_R} {d : Int} {a : Nat} (h : Wf T cn K N I R d) (t : T a = 47) : K a = 14 := h.kd t rfl
theorem nR47 {T : Nat → Nat} {cn : Nat} {K N : Nat → Nat} {I : cz_I} {R : cz_R} {d : Int} {a : Nat} (h : Wf T cn K N I R d) (t : T a = 47) : N a = 8 := h.ln t rfl
theorem kR48 {T : Nat → Nat} {cn : Nat} {K N : Nat → Nat} {I : cz_I} {R : cz_R} {d : Int} {a : Nat} (h : Wf T cn K N I R d) (t : T a = 48) : K a = 14 := h.kd t rfl
theorem nR48 {T : Nat → Nat} {cn : Nat} {K N : Nat → Nat} {I : cz_I} {R : cz_R} {d : Int} {a : Nat} (h : Wf T cn K N I R d) (t : T a = 48) : N a = 8 := h.ln t rfl
theorem kR49 {T : Nat → Nat} {cn : Nat} {K N : Nat → Nat} {I : cz_I} {R : cz_R} {d : Int} {a : Nat} (h : Wf T cn K N I R d) (t : T a = 49) : K a = 14 := h.kd t rfl
theorem nR49 {T : Nat → Nat} {cn : Nat} {K N : Nat → Nat} {I : cz_I} {R : cz_R} {d : Int} {a : Nat} (h : Wf T cn K N I R d) (t : T a = 49) : N a = 5 := h.ln t rfl
theorem kR50 {T : Nat → Nat} {cn : Nat} {K N : Nat → Nat} {I : cz_I} {R : cz_R} {d : Int} {a : Nat} (h : Wf T cn K N I R d) (t : T a = 50) : K a = 14 := h.kd t rfl
theorem nR50 {T : Nat → Nat} {cn : Nat} {K N : Nat → Nat} {I : cz_I} {R : cz_R} {d : Int} {a : Nat} (h : Wf T cn K N I R d) (t : T a = 50) : N a = 5 := h.ln t rfl
theorem kR51 {T : Nat → Nat} {cn : Nat} {K N : Nat → Nat} {I : cz_I} {R : cz_R} {d : Int} {a : Nat} (h : Wf T cn K N I R d) (t : T a = 51) : K a = 14 := h.kd t rfl
theorem nR51 {T : Nat → Nat} {cn : Nat} {K N : Nat → Nat} {I : cz_I} {R : cz_R} {d : Int} {a : Nat} (h : Wf T cn K N I R d) (t : T a = 51) : N a = 5 := h.ln t rfl
theorem kR52 {T : Nat → Nat} {cn : Nat} {K N : Nat → Nat} {I : cz_I} {R : cz_R} {d : Int} {a : Nat} (h : Wf T cn K N I R d) (t : T a = 52) : K a = 14 := h.kd t rfl
theorem nR52 {T : Nat → Nat} {cn : Nat} {K N : Nat → Nat} {I : cz_I} {R : cz_R} {d : Int} {a : Nat} (h : Wf T cn K N I R d) (t : T a = 52) : N a = 5 := h.ln t rfl
theorem kR53 {T : Nat → Nat} {cn : Nat} {K N : Nat → Nat} {I : cz_I} {R : cz_R} {d : Int} {a : Nat} (h : Wf T cn K N I R d) (t : T a = 53) : K a = 14 := h.kd t rfl
theorem nR53 {T : Nat → Nat} {cn : Nat} {K N : Nat → Nat} {I : cz_I} {R : cz_R} {d : Int} {a : Nat} (h : Wf T cn K N I R d) (t : T a = 53) : N a = 5 := h.ln t rfl
theorem kR54 {T : Nat → Nat} {cn : Nat} {K N : Nat → Nat} {I : cz_I} {R : cz_R} {d : Int} {a : Nat} (h : Wf T cn K N I R d) (t : T a = 54) : K a = 14 := h.kd t rfl
theorem nR54 {T : Nat → Nat} {cn : Nat} {K N : Nat → Nat} {I : cz_I} {R : cz_R} {d : Int} {a : Nat} (h : Wf T cn K N I R d) (t : T a = 54) : N a = 14 := h.ln t rfl
theorem kR55 {T : Nat → Nat} {cn : Nat} {K N : Nat → Nat} {I : cz_I} {R : cz_R} {d : Int} {a : Nat} (h : Wf T cn K N I R d) (t : T a = 55) : K a = 14 := h.kd t rfl
theorem nR55 {T : Nat → Nat} {cn : Nat} {K N : Nat → Nat} {I : cz_I} {R : cz_R} {d : Int} {a : Nat} (h : Wf T cn K N I R d) (t : T a = 55) : N a = 14 := h.ln t rfl
theorem iv55 {T : Nat → Nat} {cn : Nat} {K N : Nat → Nat} {I : cz_I} {R : cz_R} {d : Int} {a : Nat} (h : Wf T cn K N I R d) (t : T a = 55) {j : Nat} {v : Int32} (c : I a j = v) : (-2) ≤ v.toInt ∧ v.toInt ≤ 3 := h.iv t c
theorem kR56 {T : Nat → Nat} {cn : Nat} {K N : Nat → Nat} {I : cz_I} {R : cz_R} {d : Int} {a : Nat} (h : Wf T cn K N I R d) (t : T a = 56) : K a = 14 := h.kd t rfl
theorem nR56 {T : Nat → Nat} {cn : Nat} {K N : Nat → Nat} {I : cz_I} {R : cz_R} {d : Int} {a : Nat} (h : Wf T cn K N I R d) (t : T a = 56) : N a = 14 := h.ln t rfl
theorem iv56 {T : Nat → Nat} {cn : Nat} {K N : Nat → Nat} {I : cz_I} {R : cz_R} {d : Int} {a : Nat} (h : Wf T cn K N I R d) (t : T a = 56) {j : Nat} {v : Int32} (c : I a j = v) : 0 ≤ v.toInt ∧ v.toInt ≤ 240 := h.iv t c
theorem kR57 {T : Nat → Nat} {cn : Nat} {K N : Nat → Nat} {I : cz_I} {R : cz_R} {d : Int} {a : Nat} (h : Wf T cn K N I R d) (t : T a = 57) : K a = 14 := h.kd t rfl
theorem nR57 {T : Nat → Nat} {cn : Nat} {K N : Nat → Nat} {I : cz_I} {R : cz_R} {d : Int} {a : Nat} (h : Wf T cn K N I R d) (t : T a = 57) : N a = 14 := h.ln t rfl
theorem iv57 {T : Nat → Nat} {cn : Nat} {K N : Nat → Nat} {I : cz_I} {R : cz_R} {d : Int} {a : Nat} (h : Wf T cn K N I R d) (t : T a = 57) {j : Nat} {v : Int32} (c : I a j = v) : 0 ≤ v.toInt ∧ v.toInt ≤ 240 := h.iv t c
theorem kR58 {T : Nat → Nat} {cn : Nat} {K N : Nat → Nat} {I : cz_I} {R : cz_R} {d : Int} {a : Nat} (h : Wf T cn K N I R d) (t : T a = 58) : K a = 14 := h.kd t rfl
theorem nR58 {T : Nat → Nat} {cn : Nat} {K N : Nat → Nat} {I : cz_I} {R : cz_R} {d : Int} {a : Nat} (h : Wf T cn K N I R d) (t : T a = 58) : N a = 8 := h.ln t rfl
theorem iv58 {T : Nat → Nat} {cn : Nat} {K N : Nat → Nat} {I : cz_I} {R : cz_R} {d : Int} {a : Nat} (h : Wf T cn K N I R d) (t : T a = 58) {j : Nat} {v : Int32} (c : I a j = v) : 0 ≤ v.toInt ∧ v.toInt ≤ 3 := h.iv t c
theorem kR59 {T : Nat → Nat} {cn : Nat} {K N : Nat → Nat} {I : cz_I} {R : cz_R} {d : Int} {a : Nat} (h : Wf T cn K N I R d) (t : T a = 59) : K a = 14 := h.kd t rfl
theorem nR59 {T : Nat → Nat} {cn : Nat} {K N : Nat → Nat} {I : cz_I} {R : cz_R} {d : Int} {a : Nat} (h : Wf T cn K N I R d) (t : T a = 59) : N a = 8 := h.ln t rfl
theorem iv59 {T : Nat → Nat} {cn : Nat} {K N : Nat → Nat} {I : cz_I} {R : cz_R} {d : Int} {a : Nat} (h : Wf T cn K N I R d) (t : T a = 59) {j : Nat} {v : Int32} (c : I a j = v) : 0 ≤ v.toInt ∧ v.toInt ≤ 239 := h.iv t c
theorem kR60 {T : Nat → Nat} {cn : Nat} {K N : Nat → Nat} {I : cz_I} {R : cz_R} {d : Int} {a : Nat} (h : Wf T cn K N I R d) (t : T a = 60) : K a = 14 := h.kd t rfl
theorem nR60 {T : Nat → Nat} {cn : Nat} {K N : Nat → Nat} {I : cz_I} {R : cz_R} {d : Int} {a : Nat} (h : Wf T cn K N I R d) (t : T a = 60) : N a = 4 := h.ln t rfl
theorem iv60 {T : Nat → Nat} {cn : Nat} {K N : Nat → Nat} {I : cz_I} {R : cz_R} {d : Int} {a : Nat} (h : Wf T cn K N I R d) (t : T a = 60) {j : Nat} {v : Int32} (c : I a j = v) : 0 ≤ v.toInt ∧ v.toInt ≤ 8 := h.iv t c
theorem kR61 {T : Nat → Nat} {cn : Nat} {K N : Nat → Nat} {I : cz_I} {R : cz_R} {d : Int} {a : Nat} (h : Wf T cn K N I R d) (t : T a = 61) : K a = 14 := h.kd t rfl
theorem nR61 {T : Nat → Nat} {cn : Nat} {K N : Nat → Nat} {I : cz_I} {R : cz_R} {d : Int} {a : Nat} (h : Wf T cn K N I R d) (t : T a = 61) : N a = 32 := h.ln t rfl
theorem iv61 {T : Nat → Nat} {cn : Nat} {K N : Nat → Nat} {I : cz_I} {R : cz_R} {d : Int} {a : Nat} (h : Wf T cn K N I R d) (t : T a = 61) {j : Nat} {v : Int32} (c : I a j = v) : 0 ≤ v.toInt ∧ v.toInt ≤ 239 := h.iv t c
theorem kR62 {T : Nat → Nat} {cn : Nat} {K N : Nat → Nat} {I : cz_I} {R : cz_R} {d : Int} {a : Nat} (h : Wf T cn K N I R d) (t : T a = 62) : K a = 16 := h.kd t rfl
theorem nR62 {T : Nat → Nat} {cn : Nat} {K N : Nat → Nat} {I : cz_I} {R : cz_R} {d : Int} {a : Nat} (h : Wf T cn K N I R d) (t : T a = 62) : N a = 8 := h.ln t rfl
theorem iv62 {T : Nat → Nat} {cn : Nat} {K N : Nat → Nat} {I : cz_I} {R : cz_R} {d : Int} {a : Nat} (h : Wf T cn K N I R d) (t : T a = 62) {j : Nat} {v : Int32} (c : I a j = v) : 0 ≤ v.toInt ∧ v.toInt ≤ 1 := h.iv t c
theorem kR63 {T : Nat → Nat} {cn : Nat} {K N : Nat → Nat} {I : cz_I} {R : cz_R} {d : Int} {a : Nat} (h : Wf T cn K N I R d) (t : T a = 63) : K a = 14 := h.kd t rfl
theorem nR63 {T : Nat → Nat} {cn : Nat} {K N : Nat → Nat} {I : cz_I} {R : cz_R} {d : Int} {a : Nat} (h : Wf T cn K N I R d) (t : T a = 63) : N a = 5 := h.ln t rfl
theorem kR64 {T : Nat → Nat} {cn : Nat} {K N : Nat → Nat} {I : cz_I} {R : cz_R} {d : Int} {a : Nat} (h : Wf T cn K N I R d) (t : T a = 64) : K a = 14 := h.kd t rfl
theorem nR64 {T : Nat → Nat} {cn : Nat} {K N : Nat → Nat} {I : cz_I} {R : cz_R} {d : Int} {a : Nat} (h : Wf T cn K N I R d) (t : T a = 64) : N a = 5 := h.ln t rfl
theorem kR65 {T : Nat → Nat} {cn : Nat} {K N : Nat → Nat} {I : cz_I} {R : cz_R} {d : Int} {a : Nat} (h : Wf T cn K N I R d) (t : T a = 65) : K a = 14 := h.kd t rfl
theorem nR65 {T : Nat → Nat} {cn : Nat} {K N : Nat → Nat} {I : cz_I} {R : cz_R} {d : Int} {a : Nat} (h : Wf T cn K N I R d) (t : T a = 65) : N a = 5 := h.ln t rfl
theorem kR66 {T : Nat → Nat} {cn : Nat} {K N : Nat → Nat} {I : cz_I} {R : cz_R} {d : Int} {a : Nat} (h : Wf T cn K N I R d) (t : T a = 66) : K a = 14 := h.kd t rfl
theorem nR66 {T : Nat → Nat} {cn : Nat} {K N : Nat → Nat} {I : cz_I} {R : cz_R} {d : Int} {a : Nat} (h : Wf T cn K N I R d) (t : T a = 66) : N a = 5 := h.ln t rfl
theorem kR67 {T : Nat → Nat} {cn : Nat} {K N : Nat → Nat} {I : cz_I} {R : cz_R} {d : Int} {a : Nat} (h : Wf T cn K N I R d) (t : T a = 67) : K a = 14 := h.kd t rfl
theorem nR67 {T : Nat → Nat} {cn : Nat} {K N : Nat → Nat} {I : cz_I} {R : cz_R} {d : Int} {a : Nat} (h : Wf T cn K N I R d) (t : T a = 67) : N a = 5 := h.ln t rfl
theorem kR68 {T : Nat → Nat} {cn : Nat} {K N : Nat → Nat} {I : cz_I} {R : cz_R} {d : Int} {a : Nat} (h : Wf T cn K N I R d) (t : T a = 68) : K a = 14 := h.kd t rfl
theorem nR68 {T : Nat → Nat} {cn : Nat} {K N : Nat → Nat} {I : cz_I} {R : cz_R} {d : Int} {a : Nat} (h : Wf T cn K N I R d) (t : T a = 68) : N a = 5 := h.ln t rfl
theorem kR69 {T : Nat → Nat} {cn : Nat} {K N : Nat → Nat} {I : cz_I} {R : cz_R} {d : Int} {a : Nat} (h : Wf T cn K N I R d) (t : T a = 69) : K a = 14 := h.kd t rfl
theorem nR69 {T : Nat → Nat} {cn : Nat} {K N : Nat → Nat} {I : cz_I} {R : cz_R} {d : Int} {a : Nat} (h : Wf T cn K N I R d) (t : T a = 69) : N a = 6 := h.ln t rfl
theorem kR70 {T : Nat → Nat} {cn : Nat} {K N : Nat → Nat} {I : cz_I} {R : cz_R} {d : Int} {a : Nat} (h : Wf T cn K N I R d) (t : T a = 70) : K a = 14 := h.kd t rfl
theorem nR70 {T : Nat → Nat} {cn : Nat} {K N : Nat → Nat} {I : cz_I} {R : cz_R} {d : Int} {a : Nat} (h : Wf T cn K N I R d) (t : T a = 70) : N a = 6 := h.ln t rfl
theorem kR71 {T : Nat → Nat} {cn : Nat} {K N : Nat → Nat} {I : cz_I} {R : cz_R} {d : Int} {a : Nat} (h : Wf T cn K N I R d) (t : T a = 71) : K a = 14 := h.kd t rfl
theorem nR71 {T : Nat → Nat} {cn : Nat} {K N : Nat → Nat} {I : cz_I} {R : cz_R} {d : Int} {a : Nat} (h : Wf T cn K N I R d) (t : T a = 71) : N a = 6 := h.ln t rfl
theorem kR72 {T : Nat → Nat} {cn : Nat} {K N : Nat → Nat} {I : cz_I} {R : cz_R} {d : Int} {a : Nat} (h : Wf T cn K N I R d) (t : T a = 72) : K a = 14 := h.kd t rfl
theorem nR72 {T : Nat → Nat} {cn : Nat} {K N : Nat → Nat} {I : cz_I} {R : cz_R} {d : Int} {a : Nat} (h : Wf T cn K N I R d) (t : T a = 72) : N a = 6 := h.ln t rfl
theorem kR73 {T : Nat → Nat} {cn : Nat} {K N : Nat → Nat} {I : cz_I} {R : cz_R} {d : Int} {a : Nat} (h : Wf T cn K N I R d) (t : T a = 73) : K a = 15 := h.kd t rfl
theorem nR73 {T : Nat → Nat} {cn : Nat} {K N : Nat → Nat} {I : cz_I} {R : cz_R} {d : Int} {a : Nat} (h : Wf T cn K N I R d) (t : T a = 73) : N a = 13 := h.ln t rfl
theorem kR74 {T : Nat → Nat} {cn : Nat} {K N : Nat → Nat} {I : cz_I} {R : cz_R} {d : Int} {a : Nat} (h : Wf T cn K N I R d) (t : T a = 74) : K a = 14 := h.kd t rfl
theorem nR74 {T : Nat → Nat} {cn : Nat} {K N : Nat → Nat} {I : cz_I} {R : cz_R} {d : Int} {a : Nat} (h : Wf T cn K N I R d) (t : T a = 74) : N a = 13 := h.ln t rfl
theorem kR75 {T : Nat → Nat} {cn : Nat} {K N : Nat → Nat} {I : cz_I} {R : cz_R} {d : Int} {a : Nat} (h : Wf T cn K N I R d) (t : T a = 75) : K a = 14 := h.kd t rfl
theorem nR75 {T : Nat → Nat} {cn : Nat} {K N : Nat → Nat} {I : cz_I} {R : cz_R} {d : Int} {a : Nat} (h : Wf T cn K N I R d) (t : T a = 75) : N a = 13 := h.ln t rfl
theorem kR76 {T : Nat → Nat} {cn : Nat} {K N : Nat → Nat} {I : cz_I} {R : cz_R} {d : Int} {a : Nat} (h : Wf T cn K N I R d) (t : T a = 76) : K a = 13 := h.kd t rfl
theorem nR76 {T : Nat → Nat} {cn : Nat} {K N : Nat → Nat} {I : cz_I} {R : cz_R} {d : Int} {a : Nat} (h : Wf T cn K N I R d) (t : T a = 76) : N a = 900 := h.ln t rfl
theorem iv76 {T : Nat → Nat} {cn : Nat} {K N : Nat → Nat} {I : cz_I} {R : cz_R} {d : Int} {a : Nat} (h : Wf T cn K N I R d) (t : T a = 76) {j : Nat} {v : Int32} (c : I a j = v) : (-128) ≤ v.toInt ∧ v.toInt ≤ 127 := h.iv t c
theorem kR77 {T : Nat → Nat} {cn : Nat} {K N : Nat → Nat} {I : cz_I} {R : cz_R} {d : Int} {a : Nat} (h : Wf T cn K N I R d) (t : T a = 77) : K a = 14 := h.kd t rfl
theorem nR77 {T : Nat → Nat} {cn : Nat} {K N : Nat → Nat} {I : cz_I} {R : cz_R} {d : Int} {a : Nat} (h : Wf T cn K N I R d) (t : T a = 77) : N a = 15 := h.ln t rfl
theorem iv77_1 {T : Nat → Nat} {cn : Nat} {K N : Nat → Nat} {I : cz_I} {R : cz_R} {d : Int} {a : Nat} (h : Wf T cn K N I R d) (t : T a = 77) {j : Nat} {v : Int32} (hj : j % 15 = 1) (c : I a j = v) : 0 ≤ v.toInt ∧ v.toInt ≤ 6 := by
  have q := h.iv t c
  have e : riv 77 j = wiv (j % 15) := rfl
  rw [iok, e, hj] at q; exact q
theorem iv77_2 {T : Nat → Nat} {cn : Nat} {K N : Nat → Nat} {I : cz_I} {R : cz_R} {d : Int} {a : Nat} (h : Wf T cn K N I R d) (t : T a = 77) {j : Nat} {v : Int32} (hj : j % 15 = 2) (c : I a j = v) : 0 ≤ v.toInt ∧ v.toInt ≤ 65536 := by
  have q := h.iv t c
  have e : riv 77 j = wiv (j % 15) := rfl
  rw [iok, e, hj] at q; exact q
theorem iv77_3 {T : Nat → Nat} {cn : Nat} {K N : Nat → Nat} {I : cz_I} {R : cz_R} {d : Int} {a : Nat} (h : Wf T cn K N I R d) (t : T a = 77) {j : Nat} {v : Int32} (hj : 3 ≤ j % 15) (c : I a j = v) : 0 ≤ v.toInt ∧ v.toInt ≤ 240 := by
  have q := h.iv t c
  have e : riv 77 j = wiv (j % 15) := rfl
  have e2 : wiv (j % 15) = (0, 240) := by
    unfold wiv
    rw [show Nat.beq (j % 15) 0 = false from beqF (by exact om_e4ac86b1 hj), show Nat.beq (j % 15) 1 = false from beqF (by exact om_625f52c2 hj), show Nat.beq (j % 15) 2 = false from beqF (by exact om_fed275cf hj)]; rfl
  rw [iok, e, e2] at q; exact q
theorem kR78 {T : Nat → Nat} {cn : Nat} {K N : Nat → Nat} {I : cz_I} {R : cz_R} {d : Int} {a : Nat} (h : Wf T cn K N I R d) (t : T a = 78) : K a = 14 := h.kd t rfl
theorem nR78 {T : Nat → Nat} {cn : Nat} {K N : Nat → Nat} {I : cz_I} {R : cz_R} {d : Int} {a : Nat} (h : Wf T cn K N I R d) (t : T a = 78) : N a = 180 := h.ln t rfl
theorem kR79 {T : Nat → Nat} {cn : Nat} {K N : Nat → Nat} {I : cz_I} {R : cz_R} {d : Int} {a : Nat} (h : Wf T cn K N I R d) (t : T a = 79) : K a = 14 := h.kd t rfl
theorem nR79 {T : Nat → Nat} {cn : Nat} {K N : Nat → Nat} {I : cz_I} {R : cz_R} {d : Int} {a : Nat} (h : Wf T cn K N I R d) (t : T a = 79) : N a = 45 := h.ln t rfl
theorem kR80 {T : Nat → Nat} {cn : Nat} {K N : Nat → Nat} {I : cz_I} {R : cz_R} {d : Int} {a : Nat} (h : Wf T cn K N I R d) (t : T a = 80) : K a = 14 := h.kd t rfl
theorem nR80 {T : Nat → Nat} {cn : Nat} {K N : Nat → Nat} {I : cz_I} {R : cz_R} {d : Int} {a : Nat} (h : Wf T cn K N I R d) (t : T a = 80) : N a = 15 := h.ln t rfl
theorem kR81 {T : Nat → Nat} {cn : Nat} {K N : Nat → Nat} {I : cz_I} {R : cz_R} {d : Int} {a : Nat} (h : Wf T cn K N I R d) (t : T a = 81) : K a = 16 := h.kd t rfl
theorem nR81 {T : Nat → Nat} {cn : Nat} {K N : Nat → Nat} {I : cz_I} {R : cz_R} {d : Int} {a : Nat} (h : Wf T cn K N I R d) (t : T a = 81) : N a = 240 := h.ln t rfl
theorem iv81 {T : Nat → Nat} {cn : Nat} {K N : Nat → Nat} {I : cz_I} {R : cz_R} {d : Int} {a : Nat} (h : Wf T cn K N I R d) (t : T a = 81) {j : Nat} {v : Int32} (c : I a j = v) : 0 ≤ v.toInt ∧ v.toInt ≤ 1 := h.iv t c
theorem kR82 {T : Nat → Nat} {cn : Nat} {K N : Nat → Nat} {I : cz_I} {R : cz_R} {d : Int} {a : Nat} (h : Wf T cn K N I R d) (t : T a = 82) : K a = 16 := h.kd t rfl
theorem nR82 {T : Nat → Nat} {cn : Nat} {K N : Nat → Nat} {I : cz_I} {R : cz_R} {d : Int} {a : Nat} (h : Wf T cn K N I R d) (t : T a = 82) : N a = 960 := h.ln t rfl
theorem iv82 {T : Nat → Nat} {cn : Nat} {K N : Nat → Nat} {I : cz_I} {R : cz_R} {d : Int} {a : Nat} (h : Wf T cn K N I R d) (t : T a = 82) {j : Nat} {v : Int32} (c : I a j = v) : 0 ≤ v.toInt ∧ v.toInt ≤ 1 := h.iv t c
theorem kR83 {T : Nat → Nat} {cn : Nat} {K N : Nat → Nat} {I : cz_I} {R : cz_R} {d : Int} {a : Nat} (h : Wf T cn K N I R d) (t : T a = 83) : K a = 16 := h.kd t rfl
theorem nR83 {T : Nat → Nat} {cn : Nat} {K N : Nat → Nat} {I : cz_I} {R : cz_R} {d : Int} {a : Nat} (h : Wf T cn K N I R d) (t : T a = 83) : N a = 960 := h.ln t rfl
theorem iv83 {T : Nat → Nat} {cn : Nat} {K N : Nat → Nat} {I : cz_I} {R : cz_R} {d : Int} {a : Nat} (h : Wf T cn K N I R d) (t : T a = 83) {j : Nat} {v : Int32} (c : I a j = v) : 0 ≤ v.toInt ∧ v.toInt ≤ 1 := h.iv t c
theorem kR84 {T : Nat → Nat} {cn : Nat} {K N : Nat → Nat} {I : cz_I} {R : cz_R} {d : Int} {a : Nat} (h : Wf T cn K N I R d) (t : T a = 84) : K a = 16 := h.kd t rfl
theorem nR84 {T : Nat → Nat} {cn : Nat} {K N : Nat → Nat} {I : cz_I} {R : cz_R} {d : Int} {a : Nat} (h : Wf T cn K N I R d) (t : T a = 84) : N a = 240 := h.ln t rfl
theorem iv84 {T : Nat → Nat} {cn : Nat} {K N : Nat → Nat} {I : cz_I} {R : cz_R} {d : Int} {a : Nat} (h : Wf T cn K N I R d) (t : T a = 84) {j : Nat} {v : Int32} (c : I a j = v) : 0 ≤ v.toInt ∧ v.toInt ≤ 1 := h.iv t c
theorem kR85 {T : Nat → Nat} {cn : Nat} {K N : Nat → Nat} {I : cz_I} {R : cz_R} {d : Int} {a : Nat} (h : Wf T cn K N I R d) (t : T a = 85) : K a = 16 := h.kd t rfl
theorem nR85 {T : Nat → Nat} {cn : Nat} {K N : Nat → Nat} {I : cz_I} {R : cz_R} {d : Int} {a : Nat} (h : Wf T cn K N I R d) (t : T a = 85) : N a = 240 := h.ln t rfl
theorem iv85 {T : Nat → Nat} {cn : Nat} {K N : Nat → Nat} {I : cz_I} {R : cz_R} {d : Int} {a : Nat} (h : Wf T cn K N I R d) (t : T a = 85) {j : Nat} {v : Int32} (c : I a j = v) : 0 ≤ v.toInt ∧ v.toInt ≤ 1 := h.iv t c
theorem kR86 {T : Nat → Nat} {cn : Nat} {K N : Nat → Nat} {I : cz_I} {R : cz_R} {d : Int} {a : Nat} (h : Wf T cn K N I R d) (t : T a = 86) : K a = 16 := h.kd t rfl
theorem nR86 {T : Nat → Nat} {cn : Nat} {K N : Nat → Nat} {I : cz_I} {R : cz_R} {d : Int} {a : Nat} (h : Wf T cn K N I R d) (t : T a = 86) : N a = 960 := h.ln t rfl
theorem iv86 {T : Nat → Nat} {cn : Nat} {K N : Nat → Nat} {I : cz_I} {R : cz_R} {d : Int} {a : Nat} (h : Wf T cn K N I R d) (t : T a = 86) {j : Nat} {v : Int32} (c : I a j = v) : 0 ≤ v.toInt ∧ v.toInt ≤ 1 := h.iv t c
theorem kR87 {T : Nat → Nat} {cn : Nat} {K N : Nat → Nat} {I : cz_I} {R : cz_R} {d : Int} {a : Nat} (h : Wf T cn K N I R d) (t : T a = 87) : K a = 14 := h.kd t rfl
theorem nR87 {T : Nat → Nat} {cn : Nat} {K N : Nat → Nat} {I : cz_I} {R : cz_R} {d : Int} {a : Nat} (h : Wf T cn K N I R d) (t : T a = 87) : N a = 1920 := h.ln t rfl
theorem kR88 {T : Nat → Nat} {cn : Nat} {K N : Nat → Nat} {I : cz_I} {R : cz_R} {d : Int} {a : Nat} (h : Wf T cn K N I R d) (t : T a = 88) : K a = 14 := h.kd t rfl
theorem nR88 {T : Nat → Nat} {cn : Nat} {K N : Nat → Nat} {I : cz_I} {R : cz_R} {d : Int} {a : Nat} (h : Wf T cn K N I R d) (t : T a = 88) : N a = 5 := h.ln t rfl
theorem kR89 {T : Nat → Nat} {cn : Nat} {K N : Nat → Nat} {I : cz_I} {R : cz_R} {d : Int} {a : Nat} (h : Wf T cn K N I R d) (t : T a = 89) : K a = 14 := h.kd t rfl
theorem nR89 {T : Nat → Nat} {cn : Nat} {K N : Nat → Nat} {I : cz_I} {R : cz_R} {d : Int} {a : Nat} (h : Wf T cn K N I R d) (t : T a = 89) : N a = 8 := h.ln t rfl
theorem kR90 {T : Nat → Nat} {cn : Nat} {K N : Nat → Nat} {I : cz_I} {R : cz_R} {d : Int} {a : Nat} (h : Wf T cn K N I R d) (t : T a = 90) : K a = 14 := h.kd t rfl
theorem nR90 {T : Nat → Nat} {cn : Nat} {K N : Nat → Nat} {I : cz_I} {R : cz_R} {d : Int} {a : Nat} (h : Wf T cn K N I R d) (t : T a = 90) : N a = 8 := h.ln t rfl
theorem kR91 {T : Nat → Nat} {cn : Nat} {K N : Nat → Nat} {I : cz_I} {R : cz_R} {d : Int} {a : Nat} (h : Wf T cn K N I R d) (t : T a = 91) : K a = 14 := h.kd t rfl
theorem nR91 {T : Nat → Nat} {cn : Nat} {K N : Nat → Nat} {I : cz_I} {R : cz_R} {d : Int} {a : Nat} (h : Wf T cn K N I R d) (t : T a = 91) : N a = 8 := h.ln t rfl
theorem kR92 {T : Nat → Nat} {cn : Nat} {K N : Nat → Nat} {I : cz_I} {R : cz_R} {d : Int} {a : Nat} (h : Wf T cn K N I R d) (t : T a = 92) : K a = 14 := h.kd t rfl
theorem nR92 {T : Nat → Nat} {cn : Nat} {K N : Nat → Nat} {I : cz_I} {R : cz_R} {d : Int} {a : Nat} (h : Wf T cn K N I R d) (t : T a = 92) : N a = 8 := h.ln t rfl
theorem kR93 {T : Nat → Nat} {cn : Nat} {K N : Nat → Nat} {I : cz_I} {R : cz_R} {d : Int} {a : Nat} (h : Wf T cn K N I R d) (t : T a = 93) : K a = 16 := h.kd t rfl
theorem nR93 {T : Nat → Nat} {cn : Nat} {K N : Nat → Nat} {I : cz_I} {R : cz_R} {d : Int} {a : Nat} (h : Wf T cn K N I R d) (t : T a = 93) : N a = 1920 := h.ln t rfl
theorem iv93 {T : Nat → Nat} {cn : Nat} {K N : Nat → Nat} {I : cz_I} {R : cz_R} {d : Int} {a : Nat} (h : Wf T cn K N I R d) (t : T a = 93) {j : Nat} {v : Int32} (c : I a j = v) : 0 ≤ v.toInt ∧ v.toInt ≤ 1 := h.iv t c
theorem kR94 {T : Nat → Nat} {cn : Nat} {K N : Nat → Nat} {I : cz_I} {R : cz_R} {d : Int} {a : Nat} (h : Wf T cn K N I R d) (t : T a = 94) : K a = 15 := h.kd t rfl
theorem nR94 {T : Nat → Nat} {cn : Nat} {K N : Nat → Nat} {I : cz_I} {R : cz_R} {d : Int} {a : Nat} (h : Wf T cn K N I R d) (t : T a = 94) : N a = 1 := h.ln t rfl
/-! ===== ints by their values ===== -/
theorem cz_bm {z : Int} (h1 : -2147483648 ≤ z) (h2 : z ≤ 2147483647) : z.bmod (2 ^ 32) = z := by
  simp only [Int.bmod]
  split <;> omega
theorem ti_add {x y : Int32} (h1 : -2147483648 ≤ x.toInt + y.toInt) (h2 : x.toInt + y.toInt ≤ 2147483647) : (x + y).toInt = x.toInt + y.toInt := by
  rw [Int32.toInt_add]; exact cz_bm h1 h2
theorem ti_sub {x y : Int32} (h1 : -2147483648 ≤ x.toInt - y.toInt) (h2 : x.toInt - y.toInt ≤ 2147483647) : (x - y).toInt = x.toInt - y.toInt := by
  rw [Int32.toInt_sub]; exact cz_bm h1 h2
theorem ti_mul {x y : Int32} {c : Int} (hc : x.toInt = c) (h1 : -2147483648 ≤ c * y.toInt) (h2 : c * y.toInt ≤ 2147483647) : (x * y).toInt = c * y.toInt := by
  rw [Int32.toInt_mul, hc]; exact cz_bm h1 h2
theorem ti_ofInt {z : Int} (h1 : -2147483648 ≤ z) (h2 : z ≤ 2147483647) : (Int32.ofInt z).toInt = z := by
  rw [Int32.toInt_ofInt]; exact cz_bm h1 h2
theorem ti_b01 {x : Int32} (h0 : 0 ≤ x.toInt) (h1 : x.toInt ≤ 1) : x = 0 ∨ x = 1 := by
  have : x.toInt = 0 ∨ x.toInt = 1 := by exact om_bfe929b5 h0 h1
  rcases this with h | h
  · left; apply Int32.toInt_inj.mp; rw [h]; rfl
  · right; apply Int32.toInt_inj.mp; rw [h]; rfl
theorem ti_in {i : Int32} {a b : Nat} (h : a = b) (h0 : 0 ≤ i.toInt) (h1 : i.toInt < b) : vp_in i a := by
  subst h
  rintro (q | q)
  · have := Int32.lt_iff_toInt_lt.mp q
    have e : (0 : Int32).toInt = 0 := rfl
    exact om_c0f0e90c h0 this e
  · have e : i.toNatClampNeg = i.toInt.toNat := rfl
    exact om_135b1614 h0 h1 q e
theorem ti_cl {i : Int32} {k : Nat} (h : i.toInt = (k : Int)) : i.toNatClampNeg = k := by
  have e : i.toNatClampNeg = i.toInt.toNat := rfl
  exact om_f3bcba19 h e
theorem ti_lt {i : Int32} {n : Nat} (h0 : 0 ≤ i.toInt) (h1 : i.toInt < (n : Int)) : i.toNatClampNeg < n := by
  have e : i.toNatClampNeg = i.toInt.toNat := rfl
  exact om_6abf9c6d h0 h1 e
theorem ti_nat {i : Int32} (h : 0 ≤ i.toInt) : ((i.toNatClampNeg : Nat) : Int) = i.toInt := by
  have e : i.toNatClampNeg = i.toInt.toNat := rfl
  exact om_364d7101 h e
