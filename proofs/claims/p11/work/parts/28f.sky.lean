/-! ===== the sky, as pure functions of EVENTS ===== -/
/-- the huts' bits of a small number -/
def Bts (v : Int32) (f : Nat → Int) : Prop := 0 ≤ v.toInt ∧ v.toInt ≤ 15 ∧ ∀ h : Nat, h < 4 → bt v.toInt (h : Int) = f h
theorem Bts.cg {v : Int32} {f g : Nat → Int} (h : Bts v f) (e : ∀ k : Nat, k < 4 → g k = f k) : Bts v g := ⟨h.1, h.2.1, fun k hk => (h.2.2 k hk).trans (e k hk).symm⟩
theorem b4_or : ∀ a : Nat, a < 16 → ∀ b : Nat, b < 16 → 0 ≤ (Int32.ofNat a ||| Int32.ofNat b).toInt ∧ (Int32.ofNat a ||| Int32.ofNat b).toInt ≤ 15 ∧ ∀ h : Nat, h < 4 → bt (Int32.ofNat a ||| Int32.ofNat b).toInt (h : Int) = if bt (a : Int) (h : Int) = 1 ∨ bt (b : Int) (h : Int) = 1 then 1 else 0 := by decide +kernel
theorem b4_xor : ∀ a : Nat, a < 16 → ∀ b : Nat, b < 16 → 0 ≤ (Int32.ofNat a ^^^ Int32.ofNat b).toInt ∧ (Int32.ofNat a ^^^ Int32.ofNat b).toInt ≤ 15 ∧ ∀ h : Nat, h < 4 → bt (Int32.ofNat a ^^^ Int32.ofNat b).toInt (h : Int) = if bt (a : Int) (h : Int) = bt (b : Int) (h : Int) then 0 else 1 := by decide +kernel
theorem b4_nand : ∀ a : Nat, a < 16 → ∀ b : Nat, b < 16 → 0 ≤ (Int32.ofNat a &&& (Int32.ofNat b ^^^ (-1))).toInt ∧ (Int32.ofNat a &&& (Int32.ofNat b ^^^ (-1))).toInt ≤ 15 ∧ ∀ h : Nat, h < 4 → bt (Int32.ofNat a &&& (Int32.ofNat b ^^^ (-1))).toInt (h : Int) = if bt (a : Int) (h : Int) = 1 ∧ bt (b : Int) (h : Int) = 0 then 1 else 0 := by decide +kernel
theorem b4_sh : ∀ k : Nat, k < 4 → 0 ≤ ((1 : Int32) <<< (Int32.ofNat k &&& 31)).toInt ∧ ((1 : Int32) <<< (Int32.ofNat k &&& 31)).toInt ≤ 15 ∧ ∀ h : Nat, h < 4 → bt ((1 : Int32) <<< (Int32.ofNat k &&& 31)).toInt (h : Int) = if h = k then 1 else 0 := by decide +kernel
theorem b4_all : ∀ k : Nat, k < 5 → 0 ≤ (((1 : Int32) <<< (Int32.ofNat k &&& 31)) - 1).toInt ∧ (((1 : Int32) <<< (Int32.ofNat k &&& 31)) - 1).toInt ≤ 15 ∧ ∀ h : Nat, h < 4 → bt (((1 : Int32) <<< (Int32.ofNat k &&& 31)) - 1).toInt (h : Int) = if h < k then 1 else 0 := by decide +kernel
theorem Bts.z : Bts 0 (fun _ => 0) := ⟨by decide, by decide, by decide⟩
theorem Bts.or {v w : Int32} {f g : Nat → Int} (h : Bts v f) (k : Bts w g) : Bts (v ||| w) (fun j => if f j = 1 ∨ g j = 1 then 1 else 0) := by
  obtain ⟨a, ha, rfl, ea⟩ := i32_nat (n := 16) h.1 (by have := h.2.1; exact om_554733ca this) (by exact om_5f365718)
  obtain ⟨b, hb, rfl, eb⟩ := i32_nat (n := 16) k.1 (by have := k.2.1; exact om_554733ca this) (by exact om_5f365718)
  obtain ⟨q1, q2, q3⟩ := b4_or a ha b hb
  refine ⟨q1, q2, fun j hj => ?_⟩
  have h3 := h.2.2 j hj
  have k3 := k.2.2 j hj
  rw [ea] at h3
  rw [eb] at k3
  rw [q3 j hj, h3, k3]
theorem Bts.xor {v w : Int32} {f g : Nat → Int} (h : Bts v f) (k : Bts w g) : Bts (v ^^^ w) (fun j => if f j = g j then 0 else 1) := by
  obtain ⟨a, ha, rfl, ea⟩ := i32_nat (n := 16) h.1 (by have := h.2.1; exact om_554733ca this) (by exact om_5f365718)
  obtain ⟨b, hb, rfl, eb⟩ := i32_nat (n := 16) k.1 (by have := k.2.1; exact om_554733ca this) (by exact om_5f365718)
  obtain ⟨q1, q2, q3⟩ := b4_xor a ha b hb
  refine ⟨q1, q2, fun j hj => ?_⟩
  have h3 := h.2.2 j hj
  have k3 := k.2.2 j hj
  rw [ea] at h3
  rw [eb] at k3
  rw [q3 j hj, h3, k3]
theorem Bts.nand {v w n : Int32} {f g : Nat → Int} (h : Bts v f) (k : Bts w g) (hn : n.toInt = -1) : Bts (v &&& (w ^^^ n)) (fun j => if f j = 1 ∧ g j = 0 then 1 else 0) := by
  obtain rfl : n = -1 := Int32.toInt_inj.mp (hn.trans rfl)
  obtain ⟨a, ha, rfl, ea⟩ := i32_nat (n := 16) h.1 (by have := h.2.1; exact om_554733ca this) (by exact om_5f365718)
  obtain ⟨b, hb, rfl, eb⟩ := i32_nat (n := 16) k.1 (by have := k.2.1; exact om_554733ca this) (by exact om_5f365718)
  obtain ⟨q1, q2, q3⟩ := b4_nand a ha b hb
  refine ⟨q1, q2, fun j hj => ?_⟩
  have h3 := h.2.2 j hj
  have k3 := k.2.2 j hj
  rw [ea] at h3
  rw [eb] at k3
  rw [q3 j hj, h3, k3]
theorem Bts.sh {o v : Int32} (ho : o.toInt = 1) (h0 : 0 ≤ v.toInt) (h3 : v.toInt ≤ 3) : Bts (o <<< (v &&& 31)) (fun j => if (j : Int) = v.toInt then 1 else 0) := by
  obtain rfl : o = 1 := Int32.toInt_inj.mp (ho.trans rfl)
  obtain ⟨a, ha, rfl, ea⟩ := i32_nat (n := 4) h0 (by exact om_b29779ed h0 h3) (by exact om_8d403b67)
  obtain ⟨q1, q2, q3⟩ := b4_sh a ha
  refine ⟨q1, q2, fun j hj => ?_⟩
  rw [q3 j hj, ea]
  by_cases z : j = a
  · rw [if_pos z]; show (1 : Int) = if (j : Int) = (a : Int) then 1 else 0; rw [if_pos (by exact om_83e8abb8 ea z)]
  · rw [if_neg z]; show (0 : Int) = if (j : Int) = (a : Int) then 1 else 0; rw [if_neg (by exact om_da387f23 ea z)]
theorem Bts.all {o v p : Int32} (ho : o.toInt = 1) (hp : p.toInt = 1) (h0 : 0 ≤ v.toInt) (h4 : v.toInt ≤ 4) : Bts ((o <<< (v &&& 31)) - p) (fun j => if (j : Int) < v.toInt then 1 else 0) := by
  obtain rfl : o = 1 := Int32.toInt_inj.mp (ho.trans rfl)
  obtain rfl : p = 1 := Int32.toInt_inj.mp (hp.trans rfl)
  obtain ⟨a, ha, rfl, ea⟩ := i32_nat (n := 5) h0 (by exact om_7800e2de h0 h4) (by exact om_a8510e71)
  obtain ⟨q1, q2, q3⟩ := b4_all a ha
  refine ⟨q1, q2, fun j hj => ?_⟩
  rw [q3 j hj, ea]
  by_cases z : j < a
  · rw [if_pos z]; show (1 : Int) = if (j : Int) < (a : Int) then 1 else 0; rw [if_pos (by exact om_b69d1168 ea z)]
  · rw [if_neg z]; show (0 : Int) = if (j : Int) < (a : Int) then 1 else 0; rw [if_neg (by exact om_8604bd15 ea z)]
/-- whether an EVENT of kind k below e, but lo, holds in minute m (and hut h) -/
def hx (X : Nat → Nat → Int) (k lo m : Int) : Nat → Int
  | 0 => 0
  | e + 1 => if ¬ (e : Int) = lo ∧ X e 0 = k ∧ X e 2 ≤ m ∧ m < X e 3 then 1 else hx X k lo m e
def hh (X : Nat → Nat → Int) (k lo m h : Int) : Nat → Int
  | 0 => 0
  | e + 1 => if ¬ (e : Int) = lo ∧ X e 0 = k ∧ X e 1 = h ∧ X e 2 ≤ m ∧ m < X e 3 then 1 else hh X k lo m h e
theorem hx_01 (X : Nat → Nat → Int) (k lo m : Int) : ∀ e, hx X k lo m e = 0 ∨ hx X k lo m e = 1
  | 0 => Or.inl rfl
  | e + 1 => by rw [hx]; split; exact Or.inr rfl; exact hx_01 X k lo m e
theorem hh_01 (X : Nat → Nat → Int) (k lo m h : Int) : ∀ e, hh X k lo m h e = 0 ∨ hh X k lo m h e = 1
  | 0 => Or.inl rfl
  | e + 1 => by rw [hh]; split; exact Or.inr rfl; exact hh_01 X k lo m h e
/-- THE SKY bright; THE LIGHT in a hut; what it SEEMS; CHANGES -/
def skB (X : Nat → Nat → Int) (lo : Int) (n : Nat) (m : Int) : Int := if hx X 1 lo m n = 0 ∧ (hx X 4 lo m n = 1 ∨ hx X 0 lo m n = 0) then 1 else 0
def skL (X : Nat → Nat → Int) (lo : Int) (n : Nat) (c1 h m : Int) : Int := if h < c1 ∧ skB X lo n m = 1 ∧ hh X 3 lo m h n = 0 then 1 else 0
def skS (X : Nat → Nat → Int) (lo : Int) (n : Nat) (c1 h m : Int) : Int := if hh X 2 lo m h n = 1 ∨ skL X lo n c1 h m = 1 then 1 else 0
def skC (X : Nat → Nat → Int) (lo : Int) (n : Nat) (c1 h m : Int) : Int := if 0 < m ∧ ¬ skL X lo n c1 h m = skL X lo n c1 h (m - 1) then 1 else 0
def skT (X : Nat → Nat → Int) (lo : Int) (n : Nat) (c1 h m : Int) : Int := if 0 < m ∧ ¬ skS X lo n c1 h m = skS X lo n c1 h (m - 1) then 1 else 0
/-! ===== the class's sky: its rows ===== -/
section CzSk
variable {T : Nat → Nat} {cn : Nat} {K N : Nat → Nat} {d d1 : Int} {I J J1 J2 J3 J4 : cz_I} {R R1 R2 : cz_R} {sk r k i q ix : Nat} {lo hi l l' mi c1 : Int} {X : Nat → Nat → Int} {wi wr : List Nat} {e n : Nat}
def rds (r : Nat) : Bool := Nat.ble 35 r && Nat.ble r 43
/-- of skies and their rows none but sk's was written -/
def FrS (R : cz_R) (sk : Nat) (T : Nat → Nat) (I J : cz_I) : Prop := (∀ a j, T a = 12 → ¬ a = sk → J a j = I a j) ∧ ∀ a j, rds (T a) = true → (∀ k, 2 ≤ k → k ≤ 11 → ¬ R sk k = some a) → J a j = I a j
theorem FrS.rf : FrS R sk T I I := ⟨fun _ _ _ _ => rfl, fun _ _ _ _ => rfl⟩
theorem FrS.tr (h : FrS R sk T I J) (g : FrS R sk T J J2) : FrS R sk T I J2 := ⟨fun a j ta hn => (g.1 a j ta hn).trans (h.1 a j ta hn), fun a j ta hn => (g.2 a j ta hn).trans (h.2 a j ta hn)⟩
theorem FrS.put (h : FrS R sk T I J) (f : ∀ a j, ¬ (a = k ∧ j = i) → J2 a j = J a j) (hk : T k = q) (hq : (Nat.beq q 12 || rds q) = false) : FrS R sk T I J2 := by
  have n12 : ¬ q = 12 := fun z => by subst z; cases hq
  have nr : ¬ rds q = true := fun z => by rw [z, Bool.or_true] at hq; cases hq
  exact ⟨fun a j ta hn => (f a j (fun z => by rw [z.1, hk] at ta; exact n12 ta)).trans (h.1 a j ta hn), fun a j ta hn => (f a j (fun z => by rw [z.1, hk] at ta; exact nr ta)).trans (h.2 a j ta hn)⟩
theorem FrS.po (h : FrS R sk T I J) (f : ∀ a j, ¬ (a = k ∧ j = i) → J2 a j = J a j) (hk : k = sk) (tk : T sk = 12) : FrS R sk T I J2 := by
  subst hk
  exact ⟨fun a j ta hn => (f a j (fun z => hn z.1)).trans (h.1 a j ta hn), fun a j ta hn => (f a j (fun z => by rw [z.1, tk] at ta; cases ta)).trans (h.2 a j ta hn)⟩
theorem FrS.pu {s : Nat} (h : FrS R sk T I J) (f : ∀ a j, ¬ (a = k ∧ j = i) → J2 a j = J a j) (h1 : 2 ≤ s) (h2 : s ≤ 11) (ho : R sk s = some k) (hk : T k = q) (hq : ¬ q = 12) : FrS R sk T I J2 :=
  ⟨fun a j ta hn => (f a j (fun z => by rw [z.1, hk] at ta; exact hq ta)).trans (h.1 a j ta hn), fun a j ta hn => (f a j (fun z => hn s h1 h2 (by rw [z.1]; exact ho))).trans (h.2 a j ta hn)⟩
theorem FrS.st (h : FrS R sk T I J) (g : St T cn K N d1 wi wr J R1 J2 R2) (hw : wi.all (fun c => !(Nat.beq (c / 64) 12 || rds (c / 64))) = true) : FrS R sk T I J2 :=
  ⟨fun a j ta hn => (g.2.1 a j (wm_p (p := fun r => !(Nat.beq r 12 || rds r)) hw (by rw [ta]; rfl))).trans (h.1 a j ta hn), fun a j ta hn => (g.2.1 a j (wm_p (p := fun r => !(Nat.beq r 12 || rds r)) hw (by rw [ta, Bool.or_true]; rfl))).trans (h.2 a j ta hn)⟩
/-- minutes lo .. hi are set in row r -/
def LyI (I J : cz_I) (r : Nat) (lo hi : Int) : Prop := ∀ m : Nat, J r m = if lo ≤ (m : Int) ∧ (m : Int) < hi then 1 else I r m
def LyB (I J : cz_I) (r : Nat) (lo hi : Int) (h : Int32) : Prop := ∀ m : Nat, J r m = if lo ≤ (m : Int) ∧ (m : Int) < hi then (I r m ||| ((1 : Int32) <<< (h &&& 31))) else I r m
theorem LyI.z (e : ∀ m, J r m = I r m) (h : hi ≤ lo) : LyI I J r lo hi := fun m => by rw [if_neg (by exact om_17611e59 h)]; exact e m
theorem LyB.z {g : Int32} (e : ∀ m, J r m = I r m) (h : hi ≤ lo) : LyB I J r lo hi g := fun m => by rw [if_neg (by exact om_17611e59 h)]; exact e m
theorem LyI.kp (h : LyI I J r lo hi) (e : ∀ m, J2 r m = J r m) : LyI I J2 r lo hi := fun m => (e m).trans (h m)
theorem LyB.kp {g : Int32} (h : LyB I J r lo hi g) (e : ∀ m, J2 r m = J r m) : LyB I J2 r lo hi g := fun m => (e m).trans (h m)
theorem LyI.stp (h : LyI I J r lo l) (hx : (ix : Int) = l) (hl : lo ≤ l) (h' : l' = l + 1) (e : J2 r ix = 1) (f : ∀ k, ¬ k = ix → J2 r k = J r k) : LyI I J2 r lo l' := by
  intro m
  by_cases z : m = ix
  · subst z; rw [if_pos (by exact om_8b9a9230 hl h' hx)]; exact e
  · rw [f m z, h m]
    by_cases y : lo ≤ (m : Int) ∧ (m : Int) < l
    · rw [if_pos y, if_pos (by exact om_08cc0612 h' y.1 y.2)]
    · rw [if_neg y, if_neg (by exact om_1dbd9c60 hx h' z y)]
theorem LyB.stp {g o v : Int32} (h : LyB I J r lo l g) (hx : (ix : Int) = l) (hl : lo ≤ l) (h' : l' = l + 1) (hv : J r ix = v) (ho : o.toInt = 1) (e : J2 r ix = (v ||| (o <<< (g &&& 31)))) (f : ∀ k, ¬ k = ix → J2 r k = J r k) : LyB I J2 r lo l' g := by
  obtain rfl : o = 1 := Int32.toInt_inj.mp (ho.trans rfl)
  intro m
  by_cases z : m = ix
  · subst z
    have y := h m
    rw [if_neg (by exact om_cb11e67d h' hx)] at y
    rw [if_pos (by exact om_8b9a9230 hl h' hx), e, ← hv, y]
  · rw [f m z, h m]
    by_cases y : lo ≤ (m : Int) ∧ (m : Int) < l
    · rw [if_pos y, if_pos (by exact om_08cc0612 h' y.1 y.2)]
    · rw [if_neg y, if_neg (by exact om_1dbd9c60 hx h' z y)]
/-- the rows of told things, EVENTS below e laid -/
def SkR (I : cz_I) (R : cz_R) (sk : Nat) (mi lo : Int) (X : Nat → Nat → Int) (e : Nat) : Prop :=
  (∀ r, R sk 2 = some r → ∀ m : Nat, (m : Int) < mi → (I r m).toInt = hx X 1 lo m e) ∧
  (∀ r, R sk 3 = some r → ∀ m : Nat, (m : Int) < mi → (I r m).toInt = hx X 4 lo m e) ∧
  (∀ r, R sk 4 = some r → ∀ m : Nat, (m : Int) < mi → (I r m).toInt = hx X 0 lo m e) ∧
  (∀ r, R sk 5 = some r → ∀ m : Nat, (m : Int) < mi → Bts (I r m) (fun h => hh X 3 lo m (h : Int) e)) ∧
  (∀ r, R sk 7 = some r → ∀ m : Nat, (m : Int) < mi → Bts (I r m) (fun h => hh X 2 lo m (h : Int) e))
theorem SkR.kp (h : SkR I R sk mi lo X e) (g : ∀ r m, R sk 2 = some r ∨ R sk 3 = some r ∨ R sk 4 = some r ∨ R sk 5 = some r ∨ R sk 7 = some r → J r m = I r m) : SkR J R sk mi lo X e :=
  ⟨fun r hr m hm => by rw [g r m (Or.inl hr)]; exact h.1 r hr m hm, fun r hr m hm => by rw [g r m (Or.inr (Or.inl hr))]; exact h.2.1 r hr m hm, fun r hr m hm => by rw [g r m (Or.inr (Or.inr (Or.inl hr)))]; exact h.2.2.1 r hr m hm, fun r hr m hm => by rw [g r m (Or.inr (Or.inr (Or.inr (Or.inl hr))))]; exact h.2.2.2.1 r hr m hm, fun r hr m hm => by rw [g r m (Or.inr (Or.inr (Or.inr (Or.inr hr))))]; exact h.2.2.2.2 r hr m hm⟩
theorem SkR.z (z : ∀ r m, (R sk 2 = some r ∨ R sk 3 = some r ∨ R sk 4 = some r ∨ R sk 5 = some r ∨ R sk 7 = some r) → ((m : Nat) : Int) < mi → I r m = 0) : SkR I R sk mi lo X 0 :=
  ⟨fun r hr m hm => by rw [z r m (Or.inl hr) hm]; rfl, fun r hr m hm => by rw [z r m (Or.inr (Or.inl hr)) hm]; rfl, fun r hr m hm => by rw [z r m (Or.inr (Or.inr (Or.inl hr))) hm]; rfl, fun r hr m hm => by rw [z r m (Or.inr (Or.inr (Or.inr (Or.inl hr)))) hm]; exact Bts.z, fun r hr m hm => by rw [z r m (Or.inr (Or.inr (Or.inr (Or.inr hr)))) hm]; exact Bts.z⟩
theorem SkR.skip (h : SkR I R sk mi lo X e) (he : (e : Int) = lo) : SkR I R sk mi lo X (e + 1) := by
  have a : ∀ k m, hx X k lo m (e + 1) = hx X k lo m e := fun k m => by rw [hx, if_neg (fun z => z.1 he)]
  have b : ∀ k m g, hh X k lo m g (e + 1) = hh X k lo m g e := fun k m g => by rw [hh, if_neg (fun z => z.1 he)]
  exact ⟨fun r hr m hm => by rw [a]; exact h.1 r hr m hm, fun r hr m hm => by rw [a]; exact h.2.1 r hr m hm, fun r hr m hm => by rw [a]; exact h.2.2.1 r hr m hm, fun r hr m hm => (h.2.2.2.1 r hr m hm).cg (fun _ _ => b _ _ _), fun r hr m hm => (h.2.2.2.2 r hr m hm).cg (fun _ _ => b _ _ _)⟩
theorem SkR.lay {kd fr to : Int} {hut : Int32} (h : SkR I R sk mi lo X e) (he : ¬ (e : Int) = lo) (x0 : X e 0 = kd) (x2 : X e 2 = fr) (x3 : X e 3 = to) (x1 : kd = 2 ∨ kd = 3 → X e 1 = hut.toInt ∧ 0 ≤ hut.toInt ∧ hut.toInt ≤ 3)
    (l2 : ∀ r, R sk 2 = some r → LyI I J r fr (if kd = 1 then to else fr)) (l3 : ∀ r, R sk 3 = some r → LyI I J r fr (if kd = 4 then to else fr)) (l4 : ∀ r, R sk 4 = some r → LyI I J r fr (if kd = 0 then to else fr)) (l5 : ∀ r, R sk 5 = some r → LyB I J r fr (if kd = 3 then to else fr) hut) (l7 : ∀ r, R sk 7 = some r → LyB I J r fr (if kd = 2 then to else fr) hut) : SkR J R sk mi lo X (e + 1) := by
  have row : ∀ k : Int, ∀ r, LyI I J r fr (if kd = k then to else fr) → ∀ m : Nat, (I r m).toInt = hx X k lo m e → (J r m).toInt = hx X k lo m (e + 1) := fun k r l m hm => by
    rw [l m, hx, x0, x2, x3]
    by_cases z : kd = k
    · rw [if_pos z]
      by_cases y : fr ≤ (m : Int) ∧ (m : Int) < to
      · rw [if_pos y, if_pos ⟨he, z, y.1, y.2⟩]; rfl
      · rw [if_neg y, if_neg (fun w => y ⟨w.2.2.1, w.2.2.2⟩)]; exact hm
    · rw [if_neg z, if_neg (by exact om_8aa29b46), if_neg (fun w => z w.2.1)]; exact hm
  have rob : ∀ k : Int, (k = 2 ∨ k = 3) → ∀ r, LyB I J r fr (if kd = k then to else fr) hut → ∀ m : Nat, Bts (I r m) (fun g => hh X k lo m (g : Int) e) → Bts (J r m) (fun g => hh X k lo m (g : Int) (e + 1)) := fun k hk r l m hm => by
    rw [l m]
    by_cases z : kd = k
    · obtain ⟨w1, w2, w3⟩ := x1 (by exact om_4d6ee933 hk z)
      rw [if_pos z]
      by_cases y : fr ≤ (m : Int) ∧ (m : Int) < to
      · rw [if_pos y]
        refine (hm.or (Bts.sh (o := 1) rfl w2 w3)).cg (fun g hg => ?_)
        show hh X k lo m (g : Int) (e + 1) = if hh X k lo m (g : Int) e = 1 ∨ (if (g : Int) = hut.toInt then (1 : Int) else 0) = 1 then 1 else 0
        rw [hh, x0, w1, x2, x3]
        by_cases u : (g : Int) = hut.toInt
        · rw [if_pos ⟨he, z, u.symm, y.1, y.2⟩, if_pos (Or.inr (if_pos u))]
        · rw [if_neg (fun w => u w.2.2.1.symm)]
          rcases hh_01 X k lo m (g : Int) e with q | q
          · rw [q, if_neg (fun w => by rcases w with w | w; exact om_45f3d3e3 w; rw [if_neg u] at w; exact om_45f3d3e3 w)]
          · rw [q, if_pos (Or.inl rfl)]
      · rw [if_neg y]
        refine hm.cg (fun g hg => ?_)
        show hh X k lo m (g : Int) (e + 1) = _
        rw [hh, x2, x3, if_neg (fun w => y ⟨w.2.2.2.1, w.2.2.2.2⟩)]
    · rw [if_neg z, if_neg (by exact om_8aa29b46)]
      refine hm.cg (fun g hg => ?_)
      show hh X k lo m (g : Int) (e + 1) = _
      rw [hh, x0, if_neg (fun w => z w.2.1)]
  exact ⟨fun r hr m hm => row 1 r (l2 r hr) m (h.1 r hr m hm), fun r hr m hm => row 4 r (l3 r hr) m (h.2.1 r hr m hm), fun r hr m hm => row 0 r (l4 r hr) m (h.2.2.1 r hr m hm), fun r hr m hm => rob 3 (Or.inr rfl) r (l5 r hr) m (h.2.2.2.1 r hr m hm), fun r hr m hm => rob 2 (Or.inl rfl) r (l7 r hr) m (h.2.2.2.2 r hr m hm)⟩
/-- all rows of a sky: those of told things at the end, and what follows from them, below minute i -/
def SkF (I : cz_I) (R : cz_R) (sk : Nat) (mi c1 lo : Int) (X : Nat → Nat → Int) (n : Nat) (i : Int) : Prop :=
  (∀ r, R sk 2 = some r → ∀ m : Nat, (m : Int) < mi → (I r m).toInt = hx X 1 lo m n) ∧
  (∀ r, R sk 3 = some r → ∀ m : Nat, (m : Int) < mi → (I r m).toInt = hx X 4 lo m n) ∧
  (∀ r, R sk 4 = some r → ∀ m : Nat, (m : Int) < mi → (I r m).toInt = hx X 0 lo m n) ∧
  (∀ r, R sk 5 = some r → ∀ m : Nat, (m : Int) < mi → Bts (I r m) (fun h => hh X 3 lo m (h : Int) n)) ∧
  (∀ r, R sk 6 = some r → ∀ m : Nat, (m : Int) < i → Bts (I r m) (fun h => skL X lo n c1 (h : Int) m)) ∧
  (∀ r, R sk 7 = some r → ∀ m : Nat, (m : Int) < mi → Bts (I r m) (fun h => if (m : Int) < i then skS X lo n c1 (h : Int) m else hh X 2 lo m (h : Int) n)) ∧
  (∀ r, R sk 8 = some r → ∀ m : Nat, (m : Int) < i → Bts (I r m) (fun h => skC X lo n c1 (h : Int) m)) ∧
  (∀ r, R sk 9 = some r → ∀ m : Nat, (m : Int) < i → Bts (I r m) (fun h => skT X lo n c1 (h : Int) m))
theorem SkF.of (h : SkR I R sk mi lo X n) : SkF I R sk mi c1 lo X n 0 :=
  ⟨h.1, h.2.1, h.2.2.1, h.2.2.2.1, fun _ _ m hm => by omega, fun r hr m hm => (h.2.2.2.2 r hr m hm).cg (fun g _ => if_neg (by exact om_80912647)), fun _ _ m hm => by omega, fun _ _ m hm => by omega⟩
theorem SkF.kp {i : Int} (h : SkF I R sk mi c1 lo X n i) (g : ∀ r m k, 2 ≤ k → k ≤ 9 → R sk k = some r → J r m = I r m) : SkF J R sk mi c1 lo X n i := by
  obtain ⟨h2, h3, h4, h5, h6, h7, h8, h9⟩ := h
  exact ⟨fun r hr m hm => by rw [g r m 2 (by decide) (by decide) hr]; exact h2 r hr m hm, fun r hr m hm => by rw [g r m 3 (by decide) (by decide) hr]; exact h3 r hr m hm, fun r hr m hm => by rw [g r m 4 (by decide) (by decide) hr]; exact h4 r hr m hm, fun r hr m hm => by rw [g r m 5 (by decide) (by decide) hr]; exact h5 r hr m hm, fun r hr m hm => by rw [g r m 6 (by decide) (by decide) hr]; exact h6 r hr m hm, fun r hr m hm => by rw [g r m 7 (by decide) (by decide) hr]; exact h7 r hr m hm, fun r hr m hm => by rw [g r m 8 (by decide) (by decide) hr]; exact h8 r hr m hm, fun r hr m hm => by rw [g r m 9 (by decide) (by decide) hr]; exact h9 r hr m hm⟩
/-- one minute's light -/
theorem SkF.stp {i : Int} {r6 r7 r8 r9 : Nat} {vb vs vc vd : Int32} (h : SkF I R sk mi c1 lo X n i) (hW : Wf T cn K N I R d) (tk : T sk = 12) (h0 : 0 ≤ i) (him : i < mi) (hx : (ix : Int) = i) (d6 : R sk 6 = some r6) (d7 : R sk 7 = some r7) (d8 : R sk 8 = some r8) (d9 : R sk 9 = some r9)
    (e6 : J1 r6 ix = vb) (f6 : ∀ a j, ¬ (a = r6 ∧ j = ix) → J1 a j = I a j) (e7 : J2 r7 ix = vs) (f7 : ∀ a j, ¬ (a = r7 ∧ j = ix) → J2 a j = J1 a j) (e8 : J3 r8 ix = vc) (f8 : ∀ a j, ¬ (a = r8 ∧ j = ix) → J3 a j = J2 a j) (e9 : J4 r9 ix = vd) (f9 : ∀ a j, ¬ (a = r9 ∧ j = ix) → J4 a j = J3 a j)
    (hb : Bts vb (fun g => skL X lo n c1 (g : Int) i)) (hs : vs = (I r7 ix ||| vb)) (hc : (i = 0 ∧ vc.toInt = 0) ∨ (0 < i ∧ vc = (vb ^^^ I r6 (ix - 1)))) (hd : (i = 0 ∧ vd.toInt = 0) ∨ (0 < i ∧ vd = (vs ^^^ I r7 (ix - 1)))) : SkF J4 R sk mi c1 lo X n (i + 1) := by
  obtain ⟨h2, h3, h4, h5, h6, h7, h8, h9⟩ := h
  have t6 : T r6 = 39 := hW.rs tk rfl rfl d6
  have t7 : T r7 = 40 := hW.rs tk rfl rfl d7
  have t8 : T r8 = 41 := hW.rs tk rfl rfl d8
  have t9 : T r9 = 42 := hW.rs tk rfl rfl d9
  have oth : ∀ a j, (¬ (a = r6 ∧ j = ix)) → (¬ (a = r7 ∧ j = ix)) → (¬ (a = r8 ∧ j = ix)) → (¬ (a = r9 ∧ j = ix)) → J4 a j = I a j := fun a j q6 q7 q8 q9 => (f9 a j q9).trans ((f8 a j q8).trans ((f7 a j q7).trans (f6 a j q6)))
  have ne : ∀ a b : Nat, ¬ T a = T b → ∀ j, ¬ (a = b ∧ j = ix) := fun a b q j z => q (by rw [z.1])
  have low : ∀ a j, T a = 35 ∨ T a = 36 ∨ T a = 37 ∨ T a = 38 → J4 a j = I a j := fun a j ta => oth a j (ne a r6 (by exact om_74d8d653 t6 ta) j) (ne a r7 (by exact om_cd42d7ea t7 ta) j) (ne a r8 (by exact om_a2d15999 t8 ta) j) (ne a r9 (by exact om_40097009 t9 ta) j)
  have v6 : J4 r6 ix = vb := (f9 _ _ (ne r6 r9 (by exact om_66a93a4e t6 t9) ix)).trans ((f8 _ _ (ne r6 r8 (by exact om_d091d35b t6 t8) ix)).trans ((f7 _ _ (ne r6 r7 (by exact om_a6f7dd88 t6 t7) ix)).trans e6))
  have v7 : J4 r7 ix = vs := (f9 _ _ (ne r7 r9 (by exact om_851a62fb t7 t9) ix)).trans ((f8 _ _ (ne r7 r8 (by exact om_0e20505f t7 t8) ix)).trans e7)
  have v8 : J4 r8 ix = vc := (f9 _ _ (ne r8 r9 (by exact om_e618e338 t8 t9) ix)).trans e8
  have bs : Bts vs (fun g => skS X lo n c1 (g : Int) i) := by
    rw [hs]
    have o7 := h7 r7 d7 ix (by exact om_3c1382d8 him hx)
    refine (o7.or hb).cg (fun g _ => ?_)
    show skS X lo n c1 (g : Int) i = if (if (ix : Int) < i then skS X lo n c1 (g : Int) ix else hh X 2 lo ix (g : Int) n) = 1 ∨ skL X lo n c1 (g : Int) i = 1 then 1 else 0
    rw [if_neg (show ¬ (ix : Int) < i by exact om_d90d0920 hx), hx]; rfl
  have u6 : ∀ m : Nat, ¬ m = ix → J4 r6 m = I r6 m := fun m q => oth r6 m (fun z => q z.2) (ne r6 r7 (by exact om_a6f7dd88 t6 t7) m) (ne r6 r8 (by exact om_d091d35b t6 t8) m) (ne r6 r9 (by exact om_66a93a4e t6 t9) m)
  have u7 : ∀ m : Nat, ¬ m = ix → J4 r7 m = I r7 m := fun m q => oth r7 m (ne r7 r6 (by exact om_694ac0bd t6 t7) m) (fun z => q z.2) (ne r7 r8 (by exact om_0e20505f t7 t8) m) (ne r7 r9 (by exact om_851a62fb t7 t9) m)
  have u8 : ∀ m : Nat, ¬ m = ix → J4 r8 m = I r8 m := fun m q => oth r8 m (ne r8 r6 (by exact om_d3213f47 t6 t8) m) (ne r8 r7 (by exact om_7acb3fb3 t7 t8) m) (fun z => q z.2) (ne r8 r9 (by exact om_e618e338 t8 t9) m)
  have u9 : ∀ m : Nat, ¬ m = ix → J4 r9 m = I r9 m := fun m q => oth r9 m (ne r9 r6 (by exact om_295b3879 t6 t9) m) (ne r9 r7 (by exact om_0c06999b t7 t9) m) (ne r9 r8 (by exact om_2b01fd07 t8 t9) m) (fun z => q z.2)
  refine ⟨fun r hr m hm => ?_, fun r hr m hm => ?_, fun r hr m hm => ?_, fun r hr m hm => ?_, fun r hr m hm => ?_, fun r hr m hm => ?_, fun r hr m hm => ?_, fun r hr m hm => ?_⟩
  · rw [low r m (Or.inl (hW.rs tk rfl rfl hr))]; exact h2 r hr m hm
  · rw [low r m (Or.inr (Or.inl (hW.rs tk rfl rfl hr)))]; exact h3 r hr m hm
  · rw [low r m (Or.inr (Or.inr (Or.inl (hW.rs tk rfl rfl hr))))]; exact h4 r hr m hm
  · rw [low r m (Or.inr (Or.inr (Or.inr (hW.rs tk rfl rfl hr))))]; exact h5 r hr m hm
  · obtain rfl := Option.some.inj (d6.symm.trans hr)
    by_cases z : m = ix
    · subst z; rw [v6]; exact hb.cg (fun g _ => by rw [hx])
    · rw [u6 m z]; exact h6 _ hr m (by exact om_9191a836 hx hm z)
  · obtain rfl := Option.some.inj (d7.symm.trans hr)
    by_cases z : m = ix
    · subst z; rw [v7]; exact bs.cg (fun g _ => by rw [if_pos (by exact om_b4eac5d1 hx), hx])
    · rw [u7 m z]
      refine (h7 _ hr m hm).cg (fun g _ => ?_)
      by_cases y : (m : Int) < i
      · rw [if_pos y, if_pos (by exact om_805f4125 hx y)]
      · rw [if_neg y, if_neg (by exact om_a4ae225a hx z y)]
  · obtain rfl := Option.some.inj (d8.symm.trans hr)
    by_cases z : m = ix
    · subst z; rw [v8]
      rcases hc with ⟨c1', c2'⟩ | ⟨c1', c2'⟩
      · obtain rfl : vc = 0 := Int32.toInt_inj.mp (c2'.trans rfl)
        refine Bts.z.cg (fun g _ => ?_)
        show skC X lo n c1 (g : Int) m = 0
        unfold skC; rw [if_neg (fun w => by exact om_8d912a23 hx c1' w.1)]
      · rw [c2']
        refine (hb.xor (h6 _ d6 (m - 1) (by exact om_9fe70672 hx c1'))).cg (fun g _ => ?_)
        show skC X lo n c1 (g : Int) m = if skL X lo n c1 (g : Int) i = skL X lo n c1 (g : Int) ((m - 1 : Nat) : Int) then 0 else 1
        unfold skC; rw [show ((m - 1 : Nat) : Int) = (m : Int) - 1 by exact om_69a7846e hx c1', hx]
        by_cases w : skL X lo n c1 (g : Int) i = skL X lo n c1 (g : Int) (i - 1)
        · rw [if_neg (fun y => y.2 w), if_pos w]
        · rw [if_pos ⟨c1', w⟩, if_neg w]
    · rw [u8 m z]; exact h8 _ hr m (by exact om_9191a836 hx hm z)
  · obtain rfl := Option.some.inj (d9.symm.trans hr)
    by_cases z : m = ix
    · subst z; rw [e9]
      rcases hd with ⟨c1', c2'⟩ | ⟨c1', c2'⟩
      · obtain rfl : vd = 0 := Int32.toInt_inj.mp (c2'.trans rfl)
        refine Bts.z.cg (fun g _ => ?_)
        show skT X lo n c1 (g : Int) m = 0
        unfold skT; rw [if_neg (fun w => by exact om_8d912a23 hx c1' w.1)]
      · rw [c2']
        refine (bs.xor (h7 _ d7 (m - 1) (by exact om_1706adc3 him hx c1'))).cg (fun g _ => ?_)
        show skT X lo n c1 (g : Int) m = if skS X lo n c1 (g : Int) i = (if ((m - 1 : Nat) : Int) < i then skS X lo n c1 (g : Int) ((m - 1 : Nat) : Int) else hh X 2 lo ((m - 1 : Nat) : Int) (g : Int) n) then 0 else 1
        unfold skT; rw [if_pos (show ((m - 1 : Nat) : Int) < i by exact om_9fe70672 hx c1'), show ((m - 1 : Nat) : Int) = (m : Int) - 1 by exact om_69a7846e hx c1', hx]
        by_cases w : skS X lo n c1 (g : Int) i = skS X lo n c1 (g : Int) (i - 1)
        · rw [if_neg (fun y => y.2 w), if_pos w]
        · rw [if_pos ⟨c1', w⟩, if_neg w]
    · rw [u9 m z]; exact h9 _ hr m (by exact om_9191a836 hx hm z)
end CzSk
section CzSk3
variable {T : Nat → Nat} {cn : Nat} {K N : Nat → Nat} {d d1 : Int} {I J J1 J2 : cz_I} {R R1 R2 : cz_R} {sk r k i q ix : Nat} {lo hi l l' mi c1 : Int} {X : Nat → Nat → Int} {wi wr : List Nat} {e n : Nat}
theorem LyI.fin (h : LyI I J r lo l) (h1 : hi ≤ l) (h2 : l ≤ hi ∨ l = lo) : LyI I J r lo hi := fun m => by
  rw [h m]
  by_cases y : lo ≤ (m : Int) ∧ (m : Int) < l
  · rw [if_pos y, if_pos (by exact om_9f6829ee h1 h2 y.1 y.2)]
  · rw [if_neg y, if_neg (by exact om_08194d5e h1 y)]
theorem LyB.fin {g : Int32} (h : LyB I J r lo l g) (h1 : hi ≤ l) (h2 : l ≤ hi ∨ l = lo) : LyB I J r lo hi g := fun m => by
  rw [h m]
  by_cases y : lo ≤ (m : Int) ∧ (m : Int) < l
  · rw [if_pos y, if_pos (by exact om_9f6829ee h1 h2 y.1 y.2)]
  · rw [if_neg y, if_neg (by exact om_08194d5e h1 y)]
theorem LyI.fif {P : Prop} [Decidable P] (h : LyI I J r lo (if P then l else lo)) (h1 : hi ≤ l) (h2 : l ≤ hi ∨ l = lo) : LyI I J r lo (if P then hi else lo) := by
  by_cases p : P
  · rw [if_pos p] at h ⊢; exact h.fin h1 h2
  · rw [if_neg p] at h ⊢; exact h
theorem LyB.fif {P : Prop} [Decidable P] {g : Int32} (h : LyB I J r lo (if P then l else lo) g) (h1 : hi ≤ l) (h2 : l ≤ hi ∨ l = lo) : LyB I J r lo (if P then hi else lo) g := by
  by_cases p : P
  · rw [if_pos p] at h ⊢; exact h.fin h1 h2
  · rw [if_neg p] at h ⊢; exact h
theorem hx_b (X : Nat → Nat → Int) (k lo m : Int) (e : Nat) : 0 ≤ hx X k lo m e ∧ hx X k lo m e ≤ 1 := by
  have := hx_01 X k lo m e; exact om_6ede4ecd this
theorem SkF.br {v : Int} {r2 r3 r4 : Nat} {i : Int} (h : SkF I R sk mi c1 lo X n i) (d2 : R sk 2 = some r2) (d3 : R sk 3 = some r3) (d4 : R sk 4 = some r4) (hm : (ix : Int) < mi) (e : v = if (I r2 ix).toInt = 0 ∧ (¬ (I r3 ix).toInt = 0 ∨ (I r4 ix).toInt = 0) then 1 else 0) : v = skB X lo n (ix : Int) := by
  have a := h.1 r2 d2 ix hm
  have b := h.2.1 r3 d3 ix hm
  have c := h.2.2.1 r4 d4 ix hm
  rw [e, a, b, c]
  have := hx_b X 1 lo ix n
  have := hx_b X 4 lo ix n
  have := hx_b X 0 lo ix n
  unfold skB
  split <;> split <;> omega
theorem SkF.b1 {ah sv m1 : Int32} {r5 : Nat} {i : Int} (h : SkF I R sk mi c1 lo X n i) (d5 : R sk 5 = some r5) (hx : (ix : Int) = i) (hm : i < mi) (hA : Bts ah (fun j => if (j : Int) < c1 then 1 else 0)) (hv : I r5 ix = sv) (hn : m1.toInt = -1) (hb : skB X lo n i = 1) : Bts (ah &&& (sv ^^^ m1)) (fun g => skL X lo n c1 (g : Int) i) := by
  have h5 := h.2.2.2.1 r5 d5 ix (by exact om_f1b70ac1 hx hm)
  rw [hv] at h5
  refine (hA.nand h5 hn).cg (fun g _ => ?_)
  show skL X lo n c1 (g : Int) i = if (if (g : Int) < c1 then (1 : Int) else 0) = 1 ∧ hh X 3 lo (ix : Int) (g : Int) n = 0 then 1 else 0
  rw [hx]
  unfold skL
  by_cases z : (g : Int) < c1
  · rw [if_pos z]
    by_cases y : hh X 3 lo i (g : Int) n = 0
    · rw [if_pos ⟨z, hb, y⟩, if_pos ⟨rfl, y⟩]
    · rw [if_neg (fun w => y w.2.2), if_neg (fun w => y w.2)]
  · rw [if_neg z, if_neg (fun w => z w.1), if_neg (fun w => absurd w.1 (by decide))]
theorem Bts.b0 {v : Int32} {i : Int} (hv : v.toInt = 0) (hb : skB X lo n i = 0) : Bts v (fun g => skL X lo n c1 (g : Int) i) := by
  obtain rfl : v = 0 := Int32.toInt_inj.mp (hv.trans rfl)
  refine Bts.z.cg (fun g _ => ?_)
  show skL X lo n c1 (g : Int) i = 0
  unfold skL; rw [if_neg (fun w => by exact om_84cf5bf8 hb w.2.1)]
/-- EVENTS told, and clouds that came, as rows X -/
def EvX (I : cz_I) (R : cz_R) (al hd : Nat) (X : Nat → Nat → Int) : Prop :=
  (∀ V, R al 4 = some V → ∀ (e : Nat) (ob : Nat), (e : Int) < (I al 3).toInt → R V e = some ob → (I ob 0).toInt = X e 0 ∧ (I ob 1).toInt = X e 1 ∧ (I ob 2).toInt = X e 2 ∧ (I ob 3).toInt = X e 3 ∧ 0 ≤ X e 0 ∧ X e 0 ≤ 4 ∧ (X e 0 = 2 ∨ X e 0 = 3 → 0 ≤ X e 1 ∧ X e 1 ≤ 3)) ∧
  ∀ (f t : Nat) (c : Nat), R hd 3 = some f → R hd 4 = some t → (c : Int) < (I hd 2).toInt → X ((I al 3).toInt.toNat + c) 0 = 0 ∧ X ((I al 3).toInt.toNat + c) 2 = (I f c).toInt ∧ X ((I al 3).toInt.toNat + c) 3 = (I t c).toInt
end CzSk3
section CzSk4
variable {T : Nat → Nat} {cn : Nat} {K N : Nat → Nat} {d d1 : Int} {I J J1 J2 I9 : cz_I} {R R1 R2 : cz_R} {sk al nw x k i q ix : Nat} {X : Nat → Nat → Int} {wi wr : List Nat}
/-- the class's own sky holds what is told and what came -/
def SkW (I : cz_I) (R : cz_R) (x : Nat) (X : Nat → Nat → Int) : Prop := ∀ sk al nw, R x 8 = some sk → R x 2 = some al → R x 6 = some nw → SkF I R sk (I al 0).toInt (I al 1).toInt (-1) X ((I al 3).toInt.toNat + (I nw 2).toInt.toNat) (I al 0).toInt
/-- the same, by the counts of an earlier store -/
def SkX (I J : cz_I) (R : cz_R) (x : Nat) (X : Nat → Nat → Int) : Prop := ∀ sk al nw, R x 8 = some sk → R x 2 = some al → R x 6 = some nw → SkF J R sk (I al 0).toInt (I al 1).toInt (-1) X ((I al 3).toInt.toNat + (I nw 2).toInt.toNat) (I al 0).toInt
def SkQ (I : cz_I) (R : cz_R) (x : Nat) (X : Nat → Nat → Int) : Prop := (I x 9).toInt = 1 → SkW I R x X
def EvQ (I : cz_I) (R : cz_R) (x : Nat) (X : Nat → Nat → Int) : Prop := ∀ al nw, R x 2 = some al → R x 6 = some nw → EvX I R al nw X
/-- two skies share nothing -/
def DjS (R : cz_R) (x : Nat) : Prop := ∀ a b, R x 8 = some a → R x 13 = some b → ¬ a = b ∧ ∀ k l r, 2 ≤ k → k ≤ 11 → 2 ≤ l → l ≤ 11 → R a k = some r → ¬ R b l = some r
def skr (q : Nat) : Bool := Nat.beq q 2 || Nat.beq q 8 || (Nat.ble 35 q && Nat.ble q 42)
theorem SkW.cg (h : SkW I R x X) (hW : Wf T cn K N I9 R d) (tx : T x = 1) (e : ∀ a j, skr (T a) = true → J a j = I a j) : SkW J R x X := by
  intro sk al nw h8 h2 h6
  have t2 : T al = 2 := hW.rs tx rfl rfl h2
  have t6 : T nw = 8 := hW.rs tx rfl rfl h6
  have t8 : T sk = 12 := hW.rs tx rfl rfl h8
  have z := h sk al nw h8 h2 h6
  have a : ∀ j, J al j = I al j := fun j => e al j (by rw [t2]; rfl)
  rw [a 0, a 1, a 3, show J nw 2 = I nw 2 from e nw 2 (by rw [t6]; rfl)]
  refine z.kp (fun r m k q2 q9 hr => e r m ?_)
  have hk : k = 2 ∨ k = 3 ∨ k = 4 ∨ k = 5 ∨ k = 6 ∨ k = 7 ∨ k = 8 ∨ k = 9 := by exact om_35773e17 q2 q9
  rcases hk with rfl | rfl | rfl | rfl | rfl | rfl | rfl | rfl
  · rw [show T r = 35 from hW.rs t8 rfl rfl hr]; rfl
  · rw [show T r = 36 from hW.rs t8 rfl rfl hr]; rfl
  · rw [show T r = 37 from hW.rs t8 rfl rfl hr]; rfl
  · rw [show T r = 38 from hW.rs t8 rfl rfl hr]; rfl
  · rw [show T r = 39 from hW.rs t8 rfl rfl hr]; rfl
  · rw [show T r = 40 from hW.rs t8 rfl rfl hr]; rfl
  · rw [show T r = 41 from hW.rs t8 rfl rfl hr]; rfl
  · rw [show T r = 42 from hW.rs t8 rfl rfl hr]; rfl
theorem SkW.st (h : SkW I R x X) (hW : Wf T cn K N I9 R d) (tx : T x = 1) (g : St T cn K N d1 wi wr I R1 J R2) (c : wi.all (fun c => !(skr (c / 64))) = true) : SkW J R x X :=
  h.cg hW tx (fun a j ta => g.2.1 a j (wm_p (p := fun r => !(skr r)) c (by rw [ta]; rfl)))
theorem SkQ.st (h : SkQ I R x X) (hW : Wf T cn K N I9 R d) (tx : T x = 1) (g : St T cn K N d1 wi wr I R1 J R2) (c : wi.all (fun c => !(skr (c / 64))) = true) (c9 : wm wi 1 9 = false) : SkQ J R x X :=
  fun h9 => (h (by rw [g.cell tx c9] at h9; exact h9)).st hW tx g c
theorem SkW.put (h : SkW J R x X) (hW : Wf T cn K N I9 R d) (tx : T x = 1) (f : ∀ a j, ¬ (a = k ∧ j = i) → J2 a j = J a j) (hk : T k = q) (hq : skr q = false) : SkW J2 R x X :=
  h.cg hW tx (fun a j ta => f a j (fun z => by rw [z.1, hk, hq] at ta; cases ta))
theorem SkQ.put (h : SkQ J R x X) (hW : Wf T cn K N I9 R d) (tx : T x = 1) (f : ∀ a j, ¬ (a = k ∧ j = i) → J2 a j = J a j) (hk : T k = q) (hq : skr q = false) (n9 : ¬ (x = k ∧ 9 = i)) : SkQ J2 R x X :=
  fun h9 => (h (by rw [f x 9 n9] at h9; exact h9)).put hW tx f hk hq
theorem SkQ.of (h : SkW I R x X) : SkQ I R x X := fun _ => h
/-- the other sky was built -/
theorem SkQ.fs (h : SkQ I R x X) (hW : Wf T cn K N I9 R d) (tx : T x = 1) (g : St T cn K N d1 wi wr I R1 J R2) (hD : DjS R x) (ho : R x 13 = some sk) (fr : FrS R sk T I J) (c : wi.all (fun c => !(Nat.beq (c / 64) 2 || Nat.beq (c / 64) 8)) = true) (c9 : wm wi 1 9 = false) : SkQ J R x X := by
  intro h9 s al nw h8 h2 h6
  rw [g.cell tx c9] at h9
  have t2 : T al = 2 := hW.rs tx rfl rfl h2
  have t6 : T nw = 8 := hW.rs tx rfl rfl h6
  have t8 : T s = 12 := hW.rs tx rfl rfl h8
  have z := h h9 s al nw h8 h2 h6
  have a : ∀ j, J al j = I al j := fun j => g.2.1 al j (wm_p (p := fun r => !(Nat.beq r 2 || Nat.beq r 8)) c (by rw [t2]; rfl))
  rw [a 0, a 1, a 3, show J nw 2 = I nw 2 from g.2.1 nw 2 (wm_p (p := fun r => !(Nat.beq r 2 || Nat.beq r 8)) c (by rw [t6]; rfl))]
  obtain ⟨dn, dr⟩ := hD s sk h8 ho
  refine z.kp (fun r m k q2 q9 hr => fr.2 r m ?_ (fun l l1 l2 hl => dr k l r q2 (by exact om_8540dd65 q2 q9) l1 l2 hr hl))
  have hk : k = 2 ∨ k = 3 ∨ k = 4 ∨ k = 5 ∨ k = 6 ∨ k = 7 ∨ k = 8 ∨ k = 9 := by exact om_35773e17 q2 q9
  rcases hk with rfl | rfl | rfl | rfl | rfl | rfl | rfl | rfl
  · rw [show T r = 35 from hW.rs t8 rfl rfl hr]; rfl
  · rw [show T r = 36 from hW.rs t8 rfl rfl hr]; rfl
  · rw [show T r = 37 from hW.rs t8 rfl rfl hr]; rfl
  · rw [show T r = 38 from hW.rs t8 rfl rfl hr]; rfl
  · rw [show T r = 39 from hW.rs t8 rfl rfl hr]; rfl
  · rw [show T r = 40 from hW.rs t8 rfl rfl hr]; rfl
  · rw [show T r = 41 from hW.rs t8 rfl rfl hr]; rfl
  · rw [show T r = 42 from hW.rs t8 rfl rfl hr]; rfl
/-- the own sky was built -/
theorem SkW.bld {v : Int32} (hW : Wf T cn K N I9 R d) (tx : T x = 1) (g : St T cn K N d1 wi wr I R1 J R2) (c : wi.all (fun c => !(Nat.beq (c / 64) 2 || Nat.beq (c / 64) 8)) = true) (d8 : R x 8 = some sk) (d2 : R x 2 = some al) (d6 : R x 6 = some nw) (hv : v.toInt = -1) (h : SkF J R sk (I al 0).toInt (I al 1).toInt v.toInt X ((I al 3).toInt.toNat + (I nw 2).toInt.toNat) (I al 0).toInt) : SkW J R x X := by
  intro s a n h8 h2 h6
  obtain rfl := Option.some.inj (d8.symm.trans h8)
  obtain rfl := Option.some.inj (d2.symm.trans h2)
  obtain rfl := Option.some.inj (d6.symm.trans h6)
  have t2 : T al = 2 := hW.rs tx rfl rfl h2
  have t6 : T nw = 8 := hW.rs tx rfl rfl h6
  have a : ∀ j, J al j = I al j := fun j => g.2.1 al j (wm_p (p := fun r => !(Nat.beq r 2 || Nat.beq r 8)) c (by rw [t2]; rfl))
  rw [a 0, a 1, a 3, show J nw 2 = I nw 2 from g.2.1 nw 2 (wm_p (p := fun r => !(Nat.beq r 2 || Nat.beq r 8)) c (by rw [t6]; rfl))]
  rw [hv] at h; exact h
theorem SkX.bld {v : Int32} (hW : Wf T cn K N I9 R d) (tx : T x = 1) (d8 : R x 8 = some sk) (d2 : R x 2 = some al) (d6 : R x 6 = some nw) (hv : v.toInt = -1) (h : SkF J R sk (I al 0).toInt (I al 1).toInt v.toInt X ((I al 3).toInt.toNat + (I nw 2).toInt.toNat) (I al 0).toInt) (f : ∀ a j, ¬ (a = k ∧ j = i) → J2 a j = J a j) (hk : T k = q) (hq : skr q = false) : SkX I J2 R x X := by
  intro s a n h8 h2 h6
  obtain rfl := Option.some.inj (d8.symm.trans h8)
  obtain rfl := Option.some.inj (d2.symm.trans h2)
  obtain rfl := Option.some.inj (d6.symm.trans h6)
  have t8 : T sk = 12 := hW.rs tx rfl rfl h8
  rw [hv] at h
  have e : ∀ a j, skr (T a) = true → J2 a j = J a j := fun a j ta => f a j (fun z => by rw [z.1, hk, hq] at ta; cases ta)
  refine h.kp (fun r m k q2 q9 hr => e r m ?_)
  have hk : k = 2 ∨ k = 3 ∨ k = 4 ∨ k = 5 ∨ k = 6 ∨ k = 7 ∨ k = 8 ∨ k = 9 := by exact om_35773e17 q2 q9
  rcases hk with rfl | rfl | rfl | rfl | rfl | rfl | rfl | rfl
  · rw [show T r = 35 from hW.rs t8 rfl rfl hr]; rfl
  · rw [show T r = 36 from hW.rs t8 rfl rfl hr]; rfl
  · rw [show T r = 37 from hW.rs t8 rfl rfl hr]; rfl
  · rw [show T r = 38 from hW.rs t8 rfl rfl hr]; rfl
  · rw [show T r = 39 from hW.rs t8 rfl rfl hr]; rfl
  · rw [show T r = 40 from hW.rs t8 rfl rfl hr]; rfl
  · rw [show T r = 41 from hW.rs t8 rfl rfl hr]; rfl
  · rw [show T r = 42 from hW.rs t8 rfl rfl hr]; rfl
/-- how many below k; the sum over them -/
def cnM (f : Nat → Int) : Nat → Int
  | 0 => 0
  | k + 1 => cnM f k + f k
theorem cnM_cg {f g : Nat → Int} : ∀ k, (∀ j, j < k → f j = g j) → cnM f k = cnM g k
  | 0, _ => rfl
  | k + 1, h => by rw [cnM, cnM, cnM_cg k (fun j hj => h j (by exact om_f936222b hj)), h k (by exact om_24fee521)]
/-- the i-th minute of a sort, or none -/
def Chg (f : Nat → Int) (mi i v : Int) : Prop := (∃ k : Nat, (k : Int) < mi ∧ v = k ∧ f k = 1 ∧ cnM f k = i) ∨ (v = -1 ∧ ∀ k : Nat, (k : Int) < mi → f k = 1 → ¬ cnM f k = i)
/-- how many cheeses lie where the light changes in minute m -/
def skD (X : Nat → Nat → Int) (lo : Int) (n : Nat) (c1 : Int) (hu : Nat → Int) (c3 : Nat) (m : Int) : Int := cnM (fun c => skC X lo n c1 (hu c) m) c3
/-- the greatest so far -/
def PkI (g : Nat → Int) (k most wh : Int) : Prop := 0 ≤ most ∧ (∀ j : Nat, (j : Int) < k → g j ≤ most) ∧ ((most = 0 ∧ wh = -2) ∨ ∃ j : Nat, (j : Int) < k ∧ wh = j ∧ g j = most ∧ 0 < most ∧ ∀ i, i < j → g i < most)
theorem PkI.z {g : Nat → Int} {k most wh : Int} (h0 : k = 0) (h1 : most = 0) (h2 : wh = -2) : PkI g k most wh := ⟨by exact om_d99fa9e4 h1, fun j hj => by exact om_5d5f2eef h0 hj, Or.inl ⟨h1, h2⟩⟩
theorem PkI.up {g : Nat → Int} {k k' most most' wh wh' : Int} (h : PkI g k most wh) (j : Nat) (hj : (j : Int) = k) (hk : k' = k + 1) (hg : g j = most') (hm : most < most') (hw : wh' = k) : PkI g k' most' wh' := by
  obtain ⟨h0, h1, -⟩ := h
  refine ⟨by exact om_eb9f5f3f hm h0, fun i hi => ?_, Or.inr ⟨j, by exact om_d06e54e4 hj hk, by exact om_a2040108 hj hk hw, hg, by exact om_b96426d9 hm h0, fun i hi => ?_⟩⟩
  · by_cases z : (i : Int) < k
    · have := h1 i z; exact om_a1b3ed14 hm this
    · obtain rfl : i = j := by exact om_3286d859 hj hk hw hi z
      exact om_8ad0bc54 hg
  · have := h1 i (by exact om_b2375be5 hj hk hw hi); exact om_191c9494 hm this
theorem PkI.no {g : Nat → Int} {k k' most wh : Int} (h : PkI g k most wh) (j : Nat) (hj : (j : Int) = k) (hk : k' = k + 1) (hm : g j ≤ most) : PkI g k' most wh := by
  obtain ⟨h0, h1, h2⟩ := h
  refine ⟨h0, fun i hi => ?_, ?_⟩
  · by_cases z : (i : Int) < k
    · exact h1 i z
    · obtain rfl : i = j := by exact om_3857eab7 hj hk hi z
      exact hm
  · rcases h2 with h2 | ⟨i, i1, i2, i3, i4, i5⟩
    · exact Or.inl h2
    · exact Or.inr ⟨i, by exact om_86b81a18 hk i1 i2, i2, i3, i4, i5⟩
theorem PkI.m0 {g : Nat → Int} {k most wh : Int} (h : PkI g k most wh) (e : wh = -2) : most = 0 := by
  obtain ⟨h0, h1, h2⟩ := h
  rcases h2 with ⟨h3, -⟩ | ⟨j, -, h3, -⟩
  · exact h3
  · exact om_6b135f26 e h3
theorem PkI.m1 {g : Nat → Int} {k most wh : Int} (h : PkI g k most wh) (e : ¬ wh = -2) : g wh.toNat = most := by
  obtain ⟨h0, h1, h2⟩ := h
  rcases h2 with ⟨-, h3⟩ | ⟨j, -, h3, h4, -⟩
  · exact absurd h3 e
  · rw [h3]; exact h4
theorem skD.of {I9 : cz_I} {w : Int32} {r : Nat} {lo c1 : Int} {n c3 : Nat} {m : Int} {hu : Nat → Int} (b : Bts w (fun h => skC X lo n c1 (h : Int) m)) (hH : ∀ c : Nat, c < c3 → (I9 r c).toInt = hu c ∧ 0 ≤ hu c ∧ hu c ≤ 3) : cnM (fun c => bt w.toInt (I9 r c).toInt) c3 = skD X lo n c1 hu c3 m := by
  refine cnM_cg c3 (fun c hc => ?_)
  obtain ⟨e, a1, a2⟩ := hH c hc
  have z : bt w.toInt (((hu c).toNat : Nat) : Int) = skC X lo n c1 (((hu c).toNat : Nat) : Int) m := b.2.2 (hu c).toNat (by exact om_e7a727c1 a1 a2)
  rw [show (((hu c).toNat : Nat) : Int) = hu c by exact om_7c0267c3 a1 a2] at z
  rw [e]; exact z
def evr (q : Nat) : Bool := Nat.beq q 2 || Nat.beq q 3 || Nat.beq q 8 || Nat.beq q 27 || Nat.beq q 28
theorem EvQ.st (h : EvQ I R x X) (hW : Wf T cn K N I R d) (tx : T x = 1) (g : St T cn K N d1 wi wr I R1 J R2) (c : wi.all (fun c => !(evr (c / 64))) = true) : EvQ J R x X := by
  intro al nw h2 h6
  have t2 : T al = 2 := hW.rs tx rfl rfl h2
  have t6 : T nw = 8 := hW.rs tx rfl rfl h6
  have e : ∀ a j, evr (T a) = true → J a j = I a j := fun a j ta => g.2.1 a j (wm_p (p := fun r => !(evr r)) c (by rw [ta]; rfl))
  obtain ⟨z1, z2⟩ := h al nw h2 h6
  refine ⟨fun V hV e1 ob he ho => ?_, fun f t c1 hf ht hc => ?_⟩
  · rw [e al 3 (by rw [t2]; rfl)] at he
    have hlt : e1 < 14 := by
      have := iv2_3 hW t2 (rfl : I al 3 = I al 3)
      exact om_f9501624 he this.2 this.1
    obtain ⟨o2, ho2, to2⟩ := rf19 hW (hW.rs t2 rfl rfl hV : T V = 19) hlt
    have tob : T ob = 3 := by rw [← Option.some.inj (ho2.symm.trans ho)]; exact to2
    rw [e ob 0 (by rw [tob]; rfl), e ob 1 (by rw [tob]; rfl), e ob 2 (by rw [tob]; rfl), e ob 3 (by rw [tob]; rfl)]
    exact z1 V hV e1 ob he ho
  · rw [e nw 2 (by rw [t6]; rfl)] at hc
    rw [e al 3 (by rw [t2]; rfl), e f c1 (by rw [show T f = 27 from hW.rs t6 rfl rfl hf]; rfl), e t c1 (by rw [show T t = 28 from hW.rs t6 rfl rfl ht]; rfl)]
    exact z2 f t c1 hf ht hc
theorem R13 (g : St T cn K N d1 wi wr I R J R1) (c : wr.all (fun c => Nat.beq (c / 64) 13) = true) : ∀ a j, ¬ T a = 13 → R1 a j = R a j := fun a j h => g.2.2 a j (wm_p (p := fun r => Nat.beq r 13) c (nbq h))
theorem SkF.rc {mi c1 lo : Int} {n : Nat} {i : Int} (h : SkF I R sk mi c1 lo X n i) (e : ∀ k, R1 sk k = R sk k) : SkF I R1 sk mi c1 lo X n i :=
  ⟨fun r hr => h.1 r ((e 2).symm.trans hr), fun r hr => h.2.1 r ((e 3).symm.trans hr), fun r hr => h.2.2.1 r ((e 4).symm.trans hr), fun r hr => h.2.2.2.1 r ((e 5).symm.trans hr), fun r hr => h.2.2.2.2.1 r ((e 6).symm.trans hr), fun r hr => h.2.2.2.2.2.1 r ((e 7).symm.trans hr), fun r hr => h.2.2.2.2.2.2.1 r ((e 8).symm.trans hr), fun r hr => h.2.2.2.2.2.2.2 r ((e 9).symm.trans hr)⟩
theorem SkW.rc (h : SkW I R x X) (hW : Wf T cn K N I9 R d) (tx : T x = 1) (r : ∀ a j, ¬ T a = 13 → R1 a j = R a j) : SkW I R1 x X := by
  intro sk al nw h8 h2 h6
  rw [r x 8 (by rw [tx]; decide)] at h8
  rw [r x 2 (by rw [tx]; decide)] at h2
  rw [r x 6 (by rw [tx]; decide)] at h6
  have t8 : T sk = 12 := hW.rs tx rfl rfl h8
  exact (h sk al nw h8 h2 h6).rc (fun k => r sk k (by rw [t8]; decide))
theorem SkQ.rc (h : SkQ I R x X) (hW : Wf T cn K N I9 R d) (tx : T x = 1) (r : ∀ a j, ¬ T a = 13 → R1 a j = R a j) : SkQ I R1 x X := fun h9 => (h h9).rc hW tx r
theorem EvQ.rc (h : EvQ I R x X) (hW : Wf T cn K N I9 R d) (tx : T x = 1) (r : ∀ a j, ¬ T a = 13 → R1 a j = R a j) : EvQ I R1 x X := by
  intro al nw h2 h6
  rw [r x 2 (by rw [tx]; decide)] at h2
  rw [r x 6 (by rw [tx]; decide)] at h6
  have t2 : T al = 2 := hW.rs tx rfl rfl h2
  have t6 : T nw = 8 := hW.rs tx rfl rfl h6
  obtain ⟨z1, z2⟩ := h al nw h2 h6
  refine ⟨fun V hV e1 ob he ho => ?_, fun f t c1 hf ht hc => ?_⟩
  · rw [r al 4 (by rw [t2]; decide)] at hV
    rw [r V e1 (by rw [show T V = 19 from hW.rs t2 rfl rfl hV]; decide)] at ho
    exact z1 V hV e1 ob he ho
  · rw [r nw 3 (by rw [t6]; decide)] at hf
    rw [r nw 4 (by rw [t6]; decide)] at ht
    exact z2 f t c1 hf ht hc
theorem DjS.rc (h : DjS R x) (hW : Wf T cn K N I9 R d) (tx : T x = 1) (r : ∀ a j, ¬ T a = 13 → R1 a j = R a j) : DjS R1 x := by
  intro a b h8 h13
  rw [r x 8 (by rw [tx]; decide)] at h8
  rw [r x 13 (by rw [tx]; decide)] at h13
  have ta : T a = 12 := hW.rs tx rfl rfl h8
  have tb : T b = 12 := hW.rs tx rfl rfl h13
  obtain ⟨z1, z2⟩ := h a b h8 h13
  refine ⟨z1, fun k l q k1 k2 l1 l2 hk hl => z2 k l q k1 k2 l1 l2 ?_ ?_⟩
  · rw [← r a k (by rw [ta]; decide)]; exact hk
  · rw [← r b l (by rw [tb]; decide)]; exact hl
theorem FrS.rc (h : FrS R sk T I J) (e : ∀ k, R1 sk k = R sk k) : FrS R1 sk T I J := ⟨h.1, fun a j ta hn => h.2 a j ta (fun k k1 k2 hk => hn k k1 k2 ((e k).trans hk))⟩
/-- another's clouds behind the same told EVENTS -/
def XO (I : cz_I) (R : cz_R) (al hd : Nat) (X : Nat → Nat → Int) : Nat → Nat → Int := fun e f => if (e : Int) < (I al 3).toInt then X e f else if f = 2 then (match R hd 3 with | some r => (I r (e - (I al 3).toInt.toNat)).toInt | none => 0) else if f = 3 then (match R hd 4 with | some r => (I r (e - (I al 3).toInt.toNat)).toInt | none => 0) else 0
theorem EvX.oth {hd : Nat} (h : EvX I R al nw X) (b : 0 ≤ (I al 3).toInt) : EvX I R al hd (XO I R al hd X) := by
  refine ⟨fun V hV e1 ob he ho => ?_, fun f t c1 hf ht hc => ?_⟩
  · have p : ∀ f, XO I R al hd X e1 f = X e1 f := fun f => if_pos he
    rw [p, p, p, p]; exact h.1 V hV e1 ob he ho
  · have n : ¬ (((I al 3).toInt.toNat + c1 : Nat) : Int) < (I al 3).toInt := by exact om_0992a48c b
    have s : (I al 3).toInt.toNat + c1 - (I al 3).toInt.toNat = c1 := by exact om_618d6e45
    refine ⟨?_, ?_, ?_⟩
    · show (if _ then _ else _) = _
      rw [if_neg n, if_neg (by decide), if_neg (by decide)]
    · show (if _ then _ else _) = _
      rw [if_neg n, if_pos rfl, hf, s]
    · show (if _ then _ else _) = _
      rw [if_neg n, if_neg (by decide), if_pos rfl, ht, s]
end CzSk4
