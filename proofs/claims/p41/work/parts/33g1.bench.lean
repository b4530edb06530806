/-! ===== THE NIGHT, as pure functions ===== -/
/-- whether one of the first is 1 -/
def exI (f : Nat → Int) : Nat → Int
  | 0 => 0
  | k + 1 => if f k = 1 then 1 else exI f k
theorem exI_01 (f : Nat → Int) : ∀ n, exI f n = 0 ∨ exI f n = 1
  | 0 => Or.inl rfl
  | n + 1 => by rw [exI]; split; exact Or.inr rfl; exact exI_01 f n
theorem exI_1 {f : Nat → Int} : ∀ (n k : Nat), k < n → f k = 1 → exI f n = 1
  | 0, _, h, _ => absurd h (Nat.not_lt_zero _)
  | n + 1, k, h, e => by
    rw [exI]
    by_cases z : k = n
    · subst z; rw [if_pos e]
    · by_cases y : f n = 1
      · rw [if_pos y]
      · rw [if_neg y]; exact exI_1 n k (by omega) e
theorem exI_s {f : Nat → Int} {n : Nat} (h : exI f n = 0) (e : ¬ f n = 1) : exI f (n + 1) = 0 := by rw [exI, if_neg e]; exact h
theorem exI_cg {f g : Nat → Int} : ∀ n : Nat, (∀ k, k < n → g k = f k) → exI g n = exI f n
  | 0, _ => rfl
  | n + 1, h => by rw [exI, exI, h n (by omega), exI_cg n (fun k hk => h k (by omega))]
theorem bt_z (h : Int) : bt 0 h = 0 := by unfold bt; rw [Int.zero_ediv]; rfl
/-- Z: where a hut CHANGES, SEEMS to, where lightning strikes it; eclipses; tables, counts; CALLS made, turners there -/
abbrev cz_N := (Int → Int → Int) × (Int → Int → Int) × (Int → Int → Int) × (Int → Int) × (Nat → Nat → Int) × (Nat → Int) × Int × Int
def nzC (Z : cz_N) : Int → Int → Int := Z.1
def nzS (Z : cz_N) : Int → Int → Int := Z.2.1
def nzK (Z : cz_N) : Int → Int → Int := Z.2.2.1
def nzE (Z : cz_N) : Int → Int := Z.2.2.2.1
def nzT (Z : cz_N) : Nat → Nat → Int := Z.2.2.2.2.1
def nzc (Z : cz_N) : Nat → Int := Z.2.2.2.2.2.1
def nzM (Z : cz_N) : Int := Z.2.2.2.2.2.2.1
def nzW (Z : cz_N) : Int := Z.2.2.2.2.2.2.2
/-- a minute of the almanac; a CALL that holds; AWAKE; NOTICES -/
def alZ (Z : cz_N) (m : Int) : Int := exI (fun k => if nzT Z 34 k = m then 1 else 0) (nzT Z 29 0).toNat
def clZ (Z : cz_N) (t m : Int) (k : Nat) : Int := if bt (nzM Z) (k : Int) = 1 ∧ nzT Z (19 + k) 0 = t ∧ nzT Z (19 + k) 1 ≤ m ∧ m < nzT Z (19 + k) 1 + nzT Z (19 + k) 2 then 1 else 0
theorem clZ_1 {Z : cz_N} {t m : Int} {k : Nat} (h1 : bt (nzM Z) (k : Int) = 1) (h2 : nzT Z (19 + k) 0 = t) (h3 : nzT Z (19 + k) 1 ≤ m) (h4 : m < nzT Z (19 + k) 1 + nzT Z (19 + k) 2) : clZ Z t m k = 1 := if_pos ⟨h1, h2, h3, h4⟩
theorem clZ_n {Z : cz_N} {t m : Int} {k : Nat} (h : bt (nzM Z) (k : Int) = 1 → nzT Z (19 + k) 0 = t → nzT Z (19 + k) 1 ≤ m → m < nzT Z (19 + k) 1 + nzT Z (19 + k) 2 → False) : ¬ clZ Z t m k = 1 := by
  unfold clZ; rw [if_neg (fun z => h z.1 z.2.1 z.2.2.1 z.2.2.2)]; decide
def awZ (Z : cz_N) (t : Nat) (m : Int) : Int := if nzT Z (14 + t) 1 ≤ m ∧ m < nzT Z (14 + t) 2 then 1 else if nzT Z (14 + t) 0 = 2 then 0 else if nzE Z m = 1 then 1 else exI (clZ Z t m) (nzc Z 5).toNat
def noZ (Z : cz_N) (t : Nat) (h m : Int) : Int := if nzT Z (14 + t) 0 = 3 then alZ Z m else if nzT Z (14 + t) 0 = 1 then nzC Z h m else nzS Z h m
/-- whether turner t may turn cheese k in minute m -/
def elZ (Z : cz_N) (t : Nat) (m : Int) (k : Nat) : Int := if bt (nzT Z (14 + t) 5) (nzT Z 35 k) = 1 ∧ noZ Z t (nzT Z 35 k) m = 1 then 1 else 0
/-- of the first cheeses how many are turned by one with h hands: b who turned them already (-2 nobody), e whether he may -/
def tqN (b : Nat → Int) (h : Int) (e : Nat → Int) : Nat → Int
  | 0 => 0
  | k + 1 => tqN b h e k + (if tqN b h e k < h ∧ b k = -2 ∧ e k = 1 then 1 else 0)
def tqG (b : Nat → Int) (h : Int) (e : Nat → Int) (k : Nat) : Int := if tqN b h e k < h ∧ b k = -2 ∧ e k = 1 then 1 else 0
def tqB (t : Int) (b : Nat → Int) (h : Int) (e : Nat → Int) (k : Nat) : Int := if tqG b h e k = 1 then t else b k
section CzNj
variable {b : Nat → Int} {h t : Int} {e : Nat → Int} {Z : cz_N}
theorem tqN_s (n : Nat) : tqN b h e (n + 1) = tqN b h e n + tqG b h e n := rfl
theorem tqG_01 (n : Nat) : tqG b h e n = 0 ∨ tqG b h e n = 1 := by unfold tqG; split; exact Or.inr rfl; exact Or.inl rfl
theorem tqG_1 {n : Nat} (h1 : tqN b h e n < h) (h2 : b n = -2) (h3 : e n = 1) : tqG b h e n = 1 := if_pos ⟨h1, h2, h3⟩
theorem tqG_n {n : Nat} (h1 : ¬ (tqN b h e n < h ∧ b n = -2 ∧ e n = 1)) : tqG b h e n = 0 := if_neg h1
theorem tqN_b : ∀ n : Nat, 0 ≤ tqN b h e n ∧ tqN b h e n ≤ (n : Int)
  | 0 => by rw [tqN]; omega
  | n + 1 => by
    have z := tqN_b n
    have y := tqG_01 (b := b) (h := h) (e := e) n
    rw [tqN_s]; omega
theorem tqN_mo {n k : Nat} (hk : n ≤ k) : tqN b h e n ≤ tqN b h e k := by
  induction k with
  | zero => rw [show n = 0 by omega]; exact Int.le_refl _
  | succ k ih =>
    by_cases z : n = k + 1
    · rw [z]; exact Int.le_refl _
    · have y := tqG_01 (b := b) (h := h) (e := e) k
      have x := ih (by omega)
      rw [tqN_s]; omega
/-- no hand is left -/
theorem tqG_st {n k : Nat} (h1 : h ≤ tqN b h e n) (hk : n ≤ k) : tqG b h e k = 0 := tqG_n (fun z => by have := tqN_mo (b := b) (h := h) (e := e) hk; omega)
theorem tqN_st {n : Nat} (h1 : h ≤ tqN b h e n) : ∀ d : Nat, tqN b h e (n + d) = tqN b h e n
  | 0 => rfl
  | d + 1 => by rw [show n + (d + 1) = n + d + 1 by omega, tqN_s, tqN_st h1 d, tqG_st h1 (by omega)]; omega
theorem tqN_0 (he : ∀ k, ¬ e k = 1) : ∀ n, tqN b h e n = 0
  | 0 => rfl
  | n + 1 => by rw [tqN_s, tqN_0 he n, tqG_n (fun z => he n z.2.2)]; rfl
theorem tqB_0 (he : ∀ k, ¬ e k = 1) (k : Nat) : tqB t b h e k = b k := by
  unfold tqB; rw [tqG_n (fun z => he k z.2.2), if_neg (by decide)]
end CzNj
/-- whether turner t is asked in minute m, f when each is free -/
def akZ (Z : cz_N) (m : Int) (f : Nat → Int) (t : Nat) : Int := if bt (nzW Z) (t : Int) = 1 ∧ f t ≤ m ∧ awZ Z t m = 1 then 1 else 0
/-- who turned what in minute m, the first t turners asked -/
def mB (Z : cz_N) (m : Int) (f : Nat → Int) : Nat → Nat → Int
  | 0 => fun _ => -2
  | t + 1 => fun k => if akZ Z m f t = 1 then tqB (t : Int) (mB Z m f t) (nzT Z (14 + t) 3) (elZ Z t m) k else mB Z m f t k
def mG (Z : cz_N) (m : Int) (f : Nat → Int) (t k : Nat) : Int := if akZ Z m f t = 1 then tqG (mB Z m f t) (nzT Z (14 + t) 3) (elZ Z t m) k else 0
/-- how many turner t turns in minute m; how many RIGHT -/
def mK (Z : cz_N) (m : Int) (f : Nat → Int) (t : Nat) : Int := cnM (mG Z m f t) (nzc Z 3).toNat
def mS (Z : cz_N) (m : Int) (f : Nat → Int) (t : Nat) : Int := cnM (fun k => if mG Z m f t k = 1 ∧ nzC Z (nzT Z 35 k) m = 1 then 1 else 0) (nzc Z 3).toNat
/-- from when each is free, ahead of minute m -/
def nF (Z : cz_N) : Nat → Nat → Int
  | 0 => fun _ => 0
  | m + 1 => fun u => if 0 < m ∧ 0 < mK Z (m : Int) (nF Z m) u then (m : Int) + nzT Z (14 + u) 4 else nF Z m u
/-- who turns cheese k in minute m; whether it lies up ahead of minute m -/
def nB (Z : cz_N) (m k : Nat) : Int := if m = 0 then -2 else mB Z (m : Int) (nF Z m) (nzc Z 4).toNat k
def nV (Z : cz_N) (k : Nat) : Nat → Int
  | 0 => bt (nzc Z 9) (k : Int)
  | m + 1 => if nB Z m k = -2 then nV Z k m else 1 - nV Z k m
/-- of a cheese, ahead of minute M: RIGHT, FALSE, MISSED, CRACKED; of a turner: turned, RIGHT, in how many minutes -/
def qR (Z : cz_N) (k M : Nat) : Int := cnM (fun m => if ¬ nB Z m k = -2 ∧ nzC Z (nzT Z 35 k) m = 1 then 1 else 0) M
def qW (Z : cz_N) (k M : Nat) : Int := cnM (fun m => if ¬ nB Z m k = -2 ∧ ¬ nzC Z (nzT Z 35 k) m = 1 then 1 else 0) M
def qM (Z : cz_N) (k M : Nat) : Int := cnM (fun m => if nB Z m k = -2 ∧ nzC Z (nzT Z 35 k) m = 1 then 1 else 0) M
def qK (Z : cz_N) (k M : Nat) : Int := cnM (fun m => if nV Z k (m + 1) = 1 ∧ nzK Z (nzT Z 35 k) m = 1 then 1 else 0) M
def qT (Z : cz_N) (t M : Nat) : Int := cnM (fun m => if 0 < m then mK Z (m : Int) (nF Z m) t else 0) M
def qS (Z : cz_N) (t M : Nat) : Int := cnM (fun m => if 0 < m then mS Z (m : Int) (nF Z m) t else 0) M
def qN (Z : cz_N) (t M : Nat) : Int := cnM (fun m => if 0 < m ∧ 0 < mK Z (m : Int) (nF Z m) t then 1 else 0) M
/-- PRICES, what CALLS cost, TOTAL -/
def pzZ (Z : cz_N) (k : Nat) : Int := if nzT Z 36 0 + nzT Z 36 1 * qR Z k (nzc Z 0).toNat - nzT Z 36 2 * qM Z k (nzc Z 0).toNat - nzT Z 36 3 * qK Z k (nzc Z 0).toNat - nzT Z 36 4 * qW Z k (nzc Z 0).toNat < 0 then 0 else nzT Z 36 0 + nzT Z 36 1 * qR Z k (nzc Z 0).toNat - nzT Z 36 2 * qM Z k (nzc Z 0).toNat - nzT Z 36 3 * qK Z k (nzc Z 0).toNat - nzT Z 36 4 * qW Z k (nzc Z 0).toNat
def coZ (Z : cz_N) : Int := cnM (fun i => if bt (nzM Z) (i : Int) = 1 then nzT Z (19 + i) 3 else 0) (nzc Z 5).toNat
def toZ (Z : cz_N) : Int := cnM (pzZ Z) (nzc Z 3).toNat - coZ Z
/-- a minute in which nothing stirs -/
def quZ (Z : cz_N) (m : Nat) : Prop := (∀ k : Nat, (k : Int) < nzc Z 3 → nzC Z (nzT Z 35 k) m = 0 ∧ nzS Z (nzT Z 35 k) m = 0 ∧ nzK Z (nzT Z 35 k) m = 0) ∧ ¬ alZ Z m = 1
section CzNk
variable {Z : cz_N} {m : Nat} {f : Nat → Int}
theorem cnM_0 {g : Nat → Int} : ∀ n : Nat, (∀ k, k < n → g k = 0) → cnM g n = 0
  | 0, _ => rfl
  | n + 1, h => by rw [cnM, cnM_0 n (fun k hk => h k (by omega)), h n (by omega)]; rfl
theorem cnM_b {g : Nat → Int} : ∀ n : Nat, (∀ k, k < n → g k = 0 ∨ g k = 1) → 0 ≤ cnM g n ∧ cnM g n ≤ (n : Int)
  | 0, _ => by rw [cnM]; omega
  | n + 1, h => by
    have z := cnM_b n (fun k hk => h k (by omega))
    have y := h n (by omega)
    rw [cnM]; omega
theorem tqN_cn {b : Nat → Int} {h : Int} {e : Nat → Int} : ∀ n, cnM (tqG b h e) n = tqN b h e n
  | 0 => rfl
  | n + 1 => by rw [cnM, tqN_s, tqN_cn n]
theorem mG_01 {mi : Int} (u k : Nat) : mG Z mi f u k = 0 ∨ mG Z mi f u k = 1 := by
  unfold mG; split; exact tqG_01 k; exact Or.inl rfl
theorem mK_b {mi : Int} (h8 : nzc Z 3 ≤ 8) (u : Nat) : 0 ≤ mK Z mi f u ∧ mK Z mi f u ≤ 8 := by
  have z := cnM_b (g := mG Z mi f u) (nzc Z 3).toNat (fun k _ => mG_01 u k)
  unfold mK; omega
theorem elZ_q (h : quZ Z m) {u k : Nat} (hk : (k : Int) < nzc Z 3) : ¬ elZ Z u m k = 1 := by
  obtain ⟨h1, h2⟩ := h
  obtain ⟨a1, a2, -⟩ := h1 k hk
  intro q
  unfold elZ at q
  by_cases y : bt (nzT Z (14 + u) 5) (nzT Z 35 k) = 1 ∧ noZ Z u (nzT Z 35 k) m = 1
  · have n := y.2
    unfold noZ at n
    by_cases c1 : nzT Z (14 + u) 0 = 3
    · rw [if_pos c1] at n; exact h2 n
    · rw [if_neg c1] at n
      by_cases c2 : nzT Z (14 + u) 0 = 1
      · rw [if_pos c2] at n; omega
      · rw [if_neg c2] at n; omega
  · rw [if_neg y] at q; omega
theorem mB_s (u k : Nat) : mB Z m f (u + 1) k = if akZ Z m f u = 1 then tqB (u : Int) (mB Z m f u) (nzT Z (14 + u) 3) (elZ Z u m) k else mB Z m f u k := rfl
theorem nF_s (u : Nat) : nF Z (m + 1) u = if 0 < m ∧ 0 < mK Z (m : Int) (nF Z m) u then (m : Int) + nzT Z (14 + u) 4 else nF Z m u := rfl
theorem mB_hi {u : Nat} {k : Nat} (he : ∀ t, ¬ elZ Z t m k = 1) : mB Z m f u k = -2 := by
  induction u with
  | zero => rfl
  | succ u ih =>
    have g : tqG (mB Z m f u) (nzT Z (14 + u) 3) (elZ Z u m) k = 0 := tqG_n (fun z => he u z.2.2)
    rw [mB_s]
    by_cases a : akZ Z m f u = 1
    · rw [if_pos a]; unfold tqB; rw [if_neg (by omega)]; exact ih
    · rw [if_neg a]; exact ih
theorem mB_q (h : quZ Z m) {u k : Nat} (hk : (k : Int) < nzc Z 3) : mB Z m f u k = -2 := mB_hi (fun t => elZ_q h hk)
theorem mG_q (h : quZ Z m) {u k : Nat} (hk : (k : Int) < nzc Z 3) : mG Z m f u k = 0 := by
  unfold mG; split
  · exact tqG_n (fun z => elZ_q h hk z.2.2)
  · rfl
theorem mK_q (h : quZ Z m) (u : Nat) : mK Z m f u = 0 := cnM_0 _ (fun k hk => mG_q h (by omega))
theorem mS_q (h : quZ Z m) (u : Nat) : mS Z m f u = 0 := cnM_0 _ (fun k hk => if_neg (fun z => by have := mG_q (f := f) (u := u) h (k := k) (by omega); omega))
theorem nF_q (h : quZ Z m) : nF Z (m + 1) = nF Z m := by
  funext u; rw [nF_s, mK_q h, if_neg (fun z => by omega)]
theorem nB_q (h : quZ Z m) {k : Nat} (hk : (k : Int) < nzc Z 3) : nB Z m k = -2 := by
  unfold nB; split
  · rfl
  · exact mB_q h hk
theorem nV_q (h : quZ Z m) {k : Nat} (hk : (k : Int) < nzc Z 3) : nV Z k (m + 1) = nV Z k m := by rw [nV, if_pos (nB_q h hk)]
theorem qR_q (h : quZ Z m) {k : Nat} (hk : (k : Int) < nzc Z 3) : qR Z k (m + 1) = qR Z k m := by unfold qR; rw [cnM, if_neg (fun z => z.1 (nB_q h hk))]; omega
theorem qW_q (h : quZ Z m) {k : Nat} (hk : (k : Int) < nzc Z 3) : qW Z k (m + 1) = qW Z k m := by unfold qW; rw [cnM, if_neg (fun z => z.1 (nB_q h hk))]; omega
theorem qM_q (h : quZ Z m) {k : Nat} (hk : (k : Int) < nzc Z 3) : qM Z k (m + 1) = qM Z k m := by unfold qM; rw [cnM, if_neg (fun z => by have := (h.1 k hk).1; omega)]; omega
theorem qK_q (h : quZ Z m) {k : Nat} (hk : (k : Int) < nzc Z 3) : qK Z k (m + 1) = qK Z k m := by unfold qK; rw [cnM, if_neg (fun z => by have := (h.1 k hk).2.2; omega)]; omega
theorem qT_q (h : quZ Z m) (u : Nat) : qT Z u (m + 1) = qT Z u m := by unfold qT; rw [cnM, mK_q h]; split <;> omega
theorem qS_q (h : quZ Z m) (u : Nat) : qS Z u (m + 1) = qS Z u m := by unfold qS; rw [cnM, mS_q h]; split <;> omega
theorem qN_q (h : quZ Z m) (u : Nat) : qN Z u (m + 1) = qN Z u m := by unfold qN; rw [cnM, mK_q h, if_neg (fun z => by omega)]; omega
end CzNk
