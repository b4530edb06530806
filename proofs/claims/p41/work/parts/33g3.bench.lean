section CzN3
variable {T : Nat → Nat} {cn : Nat} {K N : Nat → Nat} {d d1 : Int} {I J J1 J2 I9 : cz_I} {R R' R1 R2 : cz_R} {n al sk r k i q ix : Nat} {wi wr : List Nat} {Z : cz_N} {c : Nat → Int} {E : Nat → Nat → Int} {m : Nat}
def rdn (r : Nat) : Bool := Nat.ble 44 r && Nat.ble r 52
/-- of nights and their rows none but n's was written -/
def FrN (R : cz_R) (n : Nat) (T : Nat → Nat) (I J : cz_I) : Prop := (∀ a j, T a = 13 → ¬ a = n → J a j = I a j) ∧ ∀ a j, rdn (T a) = true → (∀ k, 3 ≤ k → k ≤ 11 → ¬ R n k = some a) → J a j = I a j
theorem FrN.rf : FrN R n T I I := ⟨fun _ _ _ _ => rfl, fun _ _ _ _ => rfl⟩
theorem FrN.tr (h : FrN R n T I J) (g : FrN R n T J J2) : FrN R n T I J2 := ⟨fun a j ta hn => (g.1 a j ta hn).trans (h.1 a j ta hn), fun a j ta hn => (g.2 a j ta hn).trans (h.2 a j ta hn)⟩
theorem FrN.put (h : FrN R n T I J) (f : ∀ a j, ¬ (a = k ∧ j = i) → J2 a j = J a j) (hk : T k = q) (hq : (Nat.beq q 13 || rdn q) = false) : FrN R n T I J2 := by
  have n13 : ¬ q = 13 := fun z => by subst z; cases hq
  have nr : ¬ rdn q = true := fun z => by rw [z, Bool.or_true] at hq; cases hq
  exact ⟨fun a j ta hn => (f a j (fun z => by rw [z.1, hk] at ta; exact n13 ta)).trans (h.1 a j ta hn), fun a j ta hn => (f a j (fun z => by rw [z.1, hk] at ta; exact nr ta)).trans (h.2 a j ta hn)⟩
theorem FrN.po (h : FrN R n T I J) (f : ∀ a j, ¬ (a = k ∧ j = i) → J2 a j = J a j) (hk : k = n) (tk : T n = 13) : FrN R n T I J2 := by
  subst hk
  exact ⟨fun a j ta hn => (f a j (fun z => hn z.1)).trans (h.1 a j ta hn), fun a j ta hn => (f a j (fun z => by rw [z.1, tk] at ta; cases ta)).trans (h.2 a j ta hn)⟩
theorem FrN.pu {s : Nat} (h : FrN R n T I J) (f : ∀ a j, ¬ (a = k ∧ j = i) → J2 a j = J a j) (h1 : 3 ≤ s) (h2 : s ≤ 11) (ho : R n s = some k) (hk : T k = q) (hq : ¬ q = 13) : FrN R n T I J2 :=
  ⟨fun a j ta hn => (f a j (fun z => by rw [z.1, hk] at ta; exact hq ta)).trans (h.1 a j ta hn), fun a j ta hn => (f a j (fun z => hn s h1 h2 (by rw [z.1]; exact ho))).trans (h.2 a j ta hn)⟩
/-- all of a row was written -/
theorem FrN.pa {s : Nat} (h : FrN R n T I J) (f : ∀ a j, ¬ a = k → J2 a j = J a j) (h1 : 3 ≤ s) (h2 : s ≤ 11) (ho : R n s = some k) (hk : T k = q) (hq : ¬ q = 13) : FrN R n T I J2 :=
  ⟨fun a j ta hn => (f a j (fun z => by rw [z, hk] at ta; exact hq ta)).trans (h.1 a j ta hn), fun a j ta hn => (f a j (fun z => hn s h1 h2 (by rw [z]; exact ho))).trans (h.2 a j ta hn)⟩
theorem FrN.st (h : FrN R n T I J) (g : St T cn K N d1 wi wr J R1 J2 R2) (hw : wi.all (fun c => !(Nat.beq (c / 64) 13 || rdn (c / 64))) = true) : FrN R n T I J2 :=
  ⟨fun a j ta hn => (g.2.1 a j (wm_p (p := fun r => !(Nat.beq r 13 || rdn r)) hw (by rw [ta]; rfl))).trans (h.1 a j ta hn), fun a j ta hn => (g.2.1 a j (wm_p (p := fun r => !(Nat.beq r 13 || rdn r)) hw (by rw [ta, Bool.or_true]; rfl))).trans (h.2 a j ta hn)⟩
theorem FrN.rc (h : FrN R n T I J) (r : ∀ k, 3 ≤ k → k ≤ 11 → R' n k = R n k) : FrN R' n T I J := ⟨h.1, fun a j ta hn => h.2 a j ta (fun k k1 k2 => by rw [← r k k1 k2]; exact hn k k1 k2)⟩
/-- what a night reads of its sky -/
def SkZ (I : cz_I) (R : cz_R) (sk : Nat) (Z : cz_N) : Prop :=
  (∀ r, R sk 2 = some r → ∀ m : Nat, (m : Int) < nzc Z 0 → (I r m).toInt = nzE Z m) ∧
  (∀ r, R sk 8 = some r → ∀ m : Nat, (m : Int) < nzc Z 0 → Bts (I r m) (fun h => nzC Z (h : Int) m)) ∧
  (∀ r, R sk 9 = some r → ∀ m : Nat, (m : Int) < nzc Z 0 → Bts (I r m) (fun h => nzS Z (h : Int) m)) ∧
  Bts (I sk 1) (fun h => if (h : Int) < nzc Z 1 then 1 else 0) ∧
  (∀ r3 r5, R sk 3 = some r3 → R sk 5 = some r5 → ∀ m : Nat, (m : Int) < nzc Z 0 → ∃ g : Nat → Int, Bts (I r5 m) g ∧ ∀ h : Nat, h < 4 → nzK Z (h : Int) m = if ¬ (I r3 m).toInt = 0 ∧ nzE Z m = 0 ∧ (h : Int) < nzc Z 1 ∧ g h = 0 then 1 else 0) ∧
  ∃ f : Nat → Int, (∀ m, f m = 0 ∨ f m = 1) ∧ (∀ m : Nat, (m : Int) < nzc Z 0 → f m = 0 → quZ Z m) ∧ (I sk 10).toInt = cnM f (nzc Z 0).toNat ∧ ∀ r, R sk 11 = some r → ∀ m : Nat, (m : Int) < nzc Z 0 → f m = 1 → (I r (cnM f m).toNat).toInt = m
def skz (q : Nat) : Bool := Nat.beq q 12 || (Nat.ble 35 q && Nat.ble q 43)
theorem SkZ.cg (h : SkZ I R sk Z) (hW : Wf T cn K N I9 R d) (ts : T sk = 12) (e : ∀ a j, skz (T a) = true → J a j = I a j) : SkZ J R sk Z := by
  obtain ⟨h1, h2, h3, h4, h5, f, f1, f2, f3, f4⟩ := h
  have k1 : ∀ a j, T a = 12 → J a j = I a j := fun a j ta => e a j (by rw [ta]; rfl)
  refine ⟨fun r hr m hm => ?_, fun r hr m hm => ?_, fun r hr m hm => ?_, ?_, fun r3 r5 hr3 hr5 m hm => ?_, f, f1, f2, ?_, fun r hr m hm hf => ?_⟩
  · rw [e r m (by rw [show T r = 35 from hW.rs ts rfl rfl hr]; rfl)]; exact h1 r hr m hm
  · rw [e r m (by rw [show T r = 41 from hW.rs ts rfl rfl hr]; rfl)]; exact h2 r hr m hm
  · rw [e r m (by rw [show T r = 42 from hW.rs ts rfl rfl hr]; rfl)]; exact h3 r hr m hm
  · rw [k1 sk 1 ts]; exact h4
  · rw [e r3 m (by rw [show T r3 = 36 from hW.rs ts rfl rfl hr3]; rfl), e r5 m (by rw [show T r5 = 38 from hW.rs ts rfl rfl hr5]; rfl)]; exact h5 r3 r5 hr3 hr5 m hm
  · rw [k1 sk 10 ts]; exact f3
  · rw [e r _ (by rw [show T r = 43 from hW.rs ts rfl rfl hr]; rfl)]; exact f4 r hr m hm hf
theorem SkZ.rc (h : SkZ I R sk Z) (r : ∀ j, R' sk j = R sk j) : SkZ I R' sk Z := by
  obtain ⟨h1, h2, h3, h4, h5, f, f1, f2, f3, f4⟩ := h
  exact ⟨fun a hr => h1 a (by rw [← r]; exact hr), fun a hr => h2 a (by rw [← r]; exact hr), fun a hr => h3 a (by rw [← r]; exact hr), h4, fun a b hr hs => h5 a b (by rw [← r]; exact hr) (by rw [← r]; exact hs), f, f1, f2, f3, fun a hr => f4 a (by rw [← r]; exact hr)⟩
theorem CVa.cg (h : CVa I R al c E) (hW : Wf T cn K N I9 R d) (ta : T al = 2) (e2 : ∀ j, J al j = I al j) (e : ∀ a j, rdc (T a) = true → J a j = I a j) : CVa J R al c E := by
  obtain ⟨h1, h2, h3, h4, h5⟩ := h
  exact ⟨by rw [e2]; exact h1, fun k hk => by rw [e2]; exact h2 k hk, by rw [e2]; exact h3, by rw [e2]; exact h4, h5.kp hW ta (e2 7) e⟩
theorem CVa.rc (h : CVa I R al c E) (hW : Wf T cn K N I9 R d) (ta : T al = 2) (r : ∀ a j, ¬ T a = 13 → R' a j = R a j) : CVa I R' al c E := by
  obtain ⟨h1, h2, h3, h4, h5⟩ := h
  exact ⟨h1, h2, h3, h4, h5.cr hW ta (fun j => r al j (by omega)) (fun a j ra => r a j (by unfold Rr at ra; omega))⟩
/-- what a night reads -/
def NgP (I : cz_I) (R : cz_R) (n : Nat) (Z : cz_N) : Prop := ∀ al sk, R n 0 = some al → R n 1 = some sk → CVa I R al (nzc Z) (nzT Z) ∧ SkZ I R sk Z ∧ (I n 2).toInt = nzM Z
def ngr (q : Nat) : Bool := Nat.beq q 2 || rdc q || skz q
theorem NgP.cg (h : NgP I R n Z) (hW : Wf T cn K N I9 R d) (tn : T n = 13) (e : ∀ a j, ngr (T a) = true → J a j = I a j) (e2 : J n 2 = I n 2) : NgP J R n Z := by
  intro al sk h0 h1
  obtain ⟨a1, a2, a3⟩ := h al sk h0 h1
  have ta : T al = 2 := hW.rs tn rfl rfl h0
  have ts : T sk = 12 := hW.rs tn rfl rfl h1
  exact ⟨a1.cg hW ta (fun j => e al j (by rw [ta]; rfl)) (fun a j ra => e a j (by unfold ngr; rw [ra, Bool.or_true, Bool.true_or])), a2.cg hW ts (fun a j ra => e a j (by unfold ngr; rw [ra, Bool.or_true])), by rw [e2]; exact a3⟩
theorem NgP.st (h : NgP I R n Z) (hW : Wf T cn K N I9 R d) (tn : T n = 13) (g : St T cn K N d1 wi wr I R1 J R2) (c : wi.all (fun c => !(ngr (c / 64))) = true) (c2 : wm wi 13 2 = false) : NgP J R n Z :=
  h.cg hW tn (fun a j ta => g.2.1 a j (wm_p (p := fun r => !(ngr r)) c (by rw [ta]; rfl))) (g.cell tn c2)
/-- rows of numbers as they must be: turners, CALLS, cheeses, the almanac, prices -/
def GdN (Z : cz_N) : Prop :=
  (0 ≤ nzc Z 0 ∧ nzc Z 0 ≤ 240) ∧ (0 ≤ nzc Z 1 ∧ nzc Z 1 ≤ 4) ∧ (0 ≤ nzc Z 3 ∧ nzc Z 3 ≤ 8) ∧ (0 ≤ nzc Z 4 ∧ nzc Z 4 ≤ 5) ∧ (0 ≤ nzc Z 5 ∧ nzc Z 5 ≤ 6) ∧
  (∀ t : Nat, (t : Int) < nzc Z 4 → (0 ≤ nzT Z (14 + t) 0 ∧ nzT Z (14 + t) 0 ≤ 3) ∧ (0 ≤ nzT Z (14 + t) 1 ∧ nzT Z (14 + t) 2 ≤ 240) ∧ (1 ≤ nzT Z (14 + t) 3 ∧ nzT Z (14 + t) 3 ≤ 8) ∧ (1 ≤ nzT Z (14 + t) 4 ∧ nzT Z (14 + t) 4 ≤ 20) ∧ 0 ≤ nzT Z (14 + t) 5 ∧ nzT Z (14 + t) 5 ≤ 15) ∧
  (∀ k : Nat, (k : Int) < nzc Z 5 → (0 ≤ nzT Z (19 + k) 0 ∧ nzT Z (19 + k) 0 ≤ 4) ∧ (0 ≤ nzT Z (19 + k) 1 ∧ nzT Z (19 + k) 1 ≤ 239) ∧ (1 ≤ nzT Z (19 + k) 2 ∧ nzT Z (19 + k) 2 ≤ 60) ∧ 0 ≤ nzT Z (19 + k) 3 ∧ nzT Z (19 + k) 3 ≤ 99) ∧
  (∀ k : Nat, (k : Int) < nzc Z 3 → 0 ≤ nzT Z 35 k ∧ nzT Z 35 k < nzc Z 1) ∧ (0 ≤ nzT Z 29 0 ∧ nzT Z 29 0 ≤ 8) ∧ (∀ j : Nat, j < 5 → 0 ≤ nzT Z 36 j ∧ nzT Z 36 j ≤ 99) ∧ (0 ≤ nzc Z 9 ∧ nzc Z 9 < pw (nzc Z 3)) ∧ (0 ≤ nzM Z ∧ nzM Z ≤ 63) ∧ 0 ≤ nzW Z ∧ nzW Z ≤ 31
/-- rows of a night, minutes below M played -/
def NgR (I : cz_I) (R : cz_R) (n : Nat) (Z : cz_N) (M : Nat) : Prop :=
  (∀ r, R n 3 = some r → ∀ m : Nat, m < 240 → Nib (I r m) (fun k => if m < M ∧ (k : Int) < nzc Z 3 then nB Z m k else -2)) ∧
  (∀ r, R n 4 = some r → ∀ k : Nat, (k : Int) < nzc Z 3 → (I r k).toInt = qR Z k M) ∧
  (∀ r, R n 5 = some r → ∀ k : Nat, (k : Int) < nzc Z 3 → (I r k).toInt = qW Z k M) ∧
  (∀ r, R n 6 = some r → ∀ k : Nat, (k : Int) < nzc Z 3 → (I r k).toInt = qM Z k M) ∧
  (∀ r, R n 7 = some r → ∀ k : Nat, (k : Int) < nzc Z 3 → (I r k).toInt = qK Z k M) ∧
  (∀ r, R n 8 = some r → ∀ t : Nat, (t : Int) < nzc Z 4 → (I r t).toInt = qT Z t M) ∧
  (∀ r, R n 9 = some r → ∀ t : Nat, (t : Int) < nzc Z 4 → (I r t).toInt = qS Z t M) ∧
  (∀ r, R n 10 = some r → ∀ t : Nat, (t : Int) < nzc Z 4 → (I r t).toInt = qN Z t M) ∧
  (∀ r, R n 11 = some r → ∀ t : Nat, (t : Int) < nzc Z 4 → (I r t).toInt = nF Z M t)
theorem NgR.qu (h : NgR I R n Z m) (q : quZ Z m) : NgR I R n Z (m + 1) := by
  obtain ⟨h3, h4, h5, h6, h7, h8, h9, h10, h11⟩ := h
  refine ⟨fun r hr j hj => (h3 r hr j hj).cg (fun k hk => ?_), fun r hr k hk => by rw [qR_q q hk]; exact h4 r hr k hk, fun r hr k hk => by rw [qW_q q hk]; exact h5 r hr k hk, fun r hr k hk => by rw [qM_q q hk]; exact h6 r hr k hk, fun r hr k hk => by rw [qK_q q hk]; exact h7 r hr k hk, fun r hr k hk => by rw [qT_q q]; exact h8 r hr k hk, fun r hr k hk => by rw [qS_q q]; exact h9 r hr k hk, fun r hr k hk => by rw [qN_q q]; exact h10 r hr k hk, fun r hr k hk => by rw [nF_q q]; exact h11 r hr k hk⟩
  by_cases z : j < m ∧ (k : Int) < nzc Z 3
  · rw [if_pos z, if_pos ⟨by omega, z.2⟩]
  · rw [if_neg z]
    by_cases y : j < m + 1 ∧ (k : Int) < nzc Z 3
    · rw [if_pos y]
      obtain rfl : j = m := by omega
      exact nB_q q y.2
    · rw [if_neg y]
theorem NgR.kp (h : NgR I R n Z m) (e : ∀ r j s, 3 ≤ s → s ≤ 11 → R n s = some r → J r j = I r j) : NgR J R n Z m := by
  obtain ⟨h3, h4, h5, h6, h7, h8, h9, h10, h11⟩ := h
  exact ⟨fun r hr j hj => by rw [e r j 3 (by omega) (by omega) hr]; exact h3 r hr j hj, fun r hr k hk => by rw [e r k 4 (by omega) (by omega) hr]; exact h4 r hr k hk, fun r hr k hk => by rw [e r k 5 (by omega) (by omega) hr]; exact h5 r hr k hk, fun r hr k hk => by rw [e r k 6 (by omega) (by omega) hr]; exact h6 r hr k hk, fun r hr k hk => by rw [e r k 7 (by omega) (by omega) hr]; exact h7 r hr k hk, fun r hr k hk => by rw [e r k 8 (by omega) (by omega) hr]; exact h8 r hr k hk, fun r hr k hk => by rw [e r k 9 (by omega) (by omega) hr]; exact h9 r hr k hk, fun r hr k hk => by rw [e r k 10 (by omega) (by omega) hr]; exact h10 r hr k hk, fun r hr k hk => by rw [e r k 11 (by omega) (by omega) hr]; exact h11 r hr k hk⟩
/-- the next minute that stirs -/
theorem NgR.ad {f : Nat → Int} {mi : Nat} (f1 : ∀ m, f m = 0 ∨ f m = 1) (f2 : ∀ m : Nat, m < mi → f m = 0 → quZ Z m) : ∀ (x M : Nat), M + x = mi → NgR I R n Z M → ∀ (v : Int32), B8 v (fun k => if (k : Int) < nzc Z 3 then nV Z k M else 0) → cnM f M < cnM f mi → ∃ M', M ≤ M' ∧ M' < mi ∧ f M' = 1 ∧ cnM f M' = cnM f M ∧ NgR I R n Z M' ∧ B8 v (fun k => if (k : Int) < nzc Z 3 then nV Z k M' else 0)
  | 0, M, h, _, _, _, hc => by rw [show M = mi by omega] at hc; omega
  | x + 1, M, h, hN, v, hV, hc => by
    rcases f1 M with z | z
    · have hq := f2 M (by omega) z
      have e : cnM f (M + 1) = cnM f M := by rw [cnM, z]; omega
      obtain ⟨M', a1, a2, a3, a4, a5, a6⟩ := NgR.ad f1 f2 x (M + 1) (by omega) (hN.qu hq) v (hV.cg (fun k hk => by
        by_cases y : (k : Int) < nzc Z 3
        · rw [if_pos y, if_pos y, nV_q hq y]
        · rw [if_neg y, if_neg y])) (by rw [e]; exact hc)
      exact ⟨M', by omega, a2, a3, by rw [a4, e], a5, a6⟩
    · exact ⟨M, Nat.le_refl _, by omega, z, rfl, hN, hV⟩
/-- none is left -/
theorem NgR.en {f : Nat → Int} {mi : Nat} (f1 : ∀ m, f m = 0 ∨ f m = 1) (f2 : ∀ m : Nat, m < mi → f m = 0 → quZ Z m) : ∀ (x M : Nat), M + x = mi → NgR I R n Z M → cnM f mi ≤ cnM f M → NgR I R n Z mi
  | 0, M, h, hN, _ => by rw [show mi = M by omega]; exact hN
  | x + 1, M, h, hN, hc => by
    have mo := cnM_le (f := f) (fun k => by rcases f1 k with z | z <;> omega) mi (M + 1) (by omega)
    rcases f1 M with z | z
    · have e : cnM f (M + 1) = cnM f M := by rw [cnM, z]; omega
      exact NgR.en f1 f2 x (M + 1) (by omega) (hN.qu (f2 M (by omega) z)) (by omega)
    · have e : cnM f (M + 1) = cnM f M + 1 := by rw [cnM, z]
      omega
end CzN3
