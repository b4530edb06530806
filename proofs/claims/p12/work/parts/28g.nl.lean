/-! ===== the reference's sky ===== -/
section CzSk5
variable {T : Nat → Nat} {cn : Nat} {K N : Nat → Nat} {d d1 : Int} {I J J1 J2 : cz_I} {R R1 R2 : cz_R} {m r k i q ix : Nat} {lo hi l l' mi c1 : Int} {X : Nat → Nat → Int} {wi wr : List Nat} {e n : Nat} {u : Int32}
/-- places lo .. hi of row r hold u -/
def LyV (u : Int32) (I J : cz_I) (r : Nat) (lo hi : Int) : Prop := ∀ j : Nat, J r j = if lo ≤ (j : Int) ∧ (j : Int) < hi then u else I r j
/-- one place p of row r holds u, if P -/
def MkW (u : Int32) (I J : cz_I) (r : Nat) (P : Prop) [Decidable P] (p : Int) : Prop := ∀ j : Nat, J r j = if P ∧ (j : Int) = p then u else I r j
theorem LyV.z (e : ∀ j, J r j = I r j) (h : hi ≤ lo) : LyV u I J r lo hi := fun j => by rw [if_neg (by omega)]; exact e j
theorem MkW.at {P : Prop} [Decidable P] {p : Int} (hp : P) (hx : (ix : Int) = p) (e : J r ix = u) (f : ∀ j, ¬ j = ix → J r j = I r j) : MkW u I J r P p := fun j => by
  by_cases z : j = ix
  · subst z; rw [if_pos ⟨hp, hx⟩]; exact e
  · rw [if_neg (fun w => z (by omega))]; exact f j z
theorem MkW.no {P : Prop} [Decidable P] {p : Int} (hp : ¬ P) (f : ∀ j, J r j = I r j) : MkW u I J r P p := fun j => by rw [if_neg (fun w => hp w.1)]; exact f j
theorem LyV.mk {P : Prop} [Decidable P] (h : LyV u I J r lo (if P then l else lo)) (g : MkW u J J2 r P l) (hl : lo ≤ l) (h' : l' = l + 1) : LyV u I J2 r lo (if P then l' else lo) := fun j => by
  rw [g j, h j]
  by_cases p : P
  · rw [if_pos p, if_pos p]
    by_cases z : (j : Int) = l
    · rw [if_pos ⟨p, z⟩, if_pos (by omega)]
    · rw [if_neg (fun w => z w.2)]
      by_cases y : lo ≤ (j : Int) ∧ (j : Int) < l
      · rw [if_pos y, if_pos (by omega)]
      · rw [if_neg y, if_neg (by omega)]
  · rw [if_neg p, if_neg p, if_neg (fun w => p w.1)]
theorem LyV.fif {P : Prop} [Decidable P] (h : LyV u I J r lo (if P then l else lo)) (h1 : hi ≤ l) (h2 : l ≤ hi ∨ l = lo) : LyV u I J r lo (if P then hi else lo) := fun j => by
  rw [h j]
  by_cases p : P
  · rw [if_pos p, if_pos p]
    by_cases y : lo ≤ (j : Int) ∧ (j : Int) < l
    · rw [if_pos y, if_pos (by omega)]
    · rw [if_neg y, if_neg (by omega)]
  · rw [if_neg p, if_neg p]
/-- EVENTS told, and clouds that came, as rows X, in the reference -/
def EvB (X : Nat → Nat → Int) (n : Int) : Prop := ∀ e : Nat, (e : Int) < n → 0 ≤ X e 0 ∧ X e 0 ≤ 4 ∧ (X e 0 = 2 ∨ X e 0 = 3 → 0 ≤ X e 1 ∧ X e 1 ≤ 3) ∧ 0 ≤ X e 2 ∧ X e 2 ≤ 240 ∧ 0 ≤ X e 3 ∧ X e 3 ≤ 240
def EvY (I : cz_I) (R : cz_R) (m : Nat) (X : Nat → Nat → Int) : Prop := ∀ b w, R m 3 = some b → R m 16 = some w → EvB X ((I b 2).toInt + (I w 1).toInt) ∧
  (∀ (f e a : Nat), f < 4 → (e : Int) < (I b 2).toInt → R b (11 + f) = some a → (I a e).toInt = X e f) ∧
  ∀ c : Nat, (c : Int) < (I w 1).toInt → X ((I b 2).toInt.toNat + c) 0 = 0 ∧ X ((I b 2).toInt.toNat + c) 1 = -2 ∧ X ((I b 2).toInt.toNat + c) 2 = (I w (3 + c)).toInt ∧ X ((I b 2).toInt.toNat + c) 3 = (I w (9 + c)).toInt
theorem EvY.st {x : Nat} (h : EvY I R x X) (hW : Wf T cn K N I R d) (tx : T x = 15) (g : St T cn K N d1 wi wr I R J R) (c : wi.all (fun c => !(Nat.beq (c / 64) 14 || Nat.beq (c / 64) 54 || Nat.beq (c / 64) 55 || Nat.beq (c / 64) 56 || Nat.beq (c / 64) 57 || Nat.beq (c / 64) 77)) = true) : EvY J R x X := by
  intro b w hb hw
  have tb : T b = 14 := hW.rsN tx rfl hb
  have tw : T w = 77 := hW.rs tx rfl rfl hw
  obtain ⟨z0, z1, z2⟩ := h b w hb hw
  have e : ∀ a j, (Nat.beq (T a) 14 || Nat.beq (T a) 54 || Nat.beq (T a) 55 || Nat.beq (T a) 56 || Nat.beq (T a) 57 || Nat.beq (T a) 77) = true → J a j = I a j := fun a j ta => g.2.1 a j (wm_p (p := fun r => !(Nat.beq r 14 || Nat.beq r 54 || Nat.beq r 55 || Nat.beq r 56 || Nat.beq r 57 || Nat.beq r 77)) c (by rw [ta]; rfl))
  have eb : ∀ j, J b j = I b j := fun j => e b j (by rw [tb]; rfl)
  have ew : ∀ j, J w j = I w j := fun j => e w j (by rw [tw]; rfl)
  refine ⟨by rw [eb, ew]; exact z0, fun f e1 a hf he ha => ?_, fun c1 hc => ?_⟩
  · rw [eb] at he
    rw [e a e1 ?_]; exact z1 f e1 a hf he ha
    have hf4 : f = 0 ∨ f = 1 ∨ f = 2 ∨ f = 3 := by omega
    rcases hf4 with rfl | rfl | rfl | rfl
    · rw [show T a = 54 from hW.rs tb rfl rfl ha]; rfl
    · rw [show T a = 55 from hW.rs tb rfl rfl ha]; rfl
    · rw [show T a = 56 from hW.rs tb rfl rfl ha]; rfl
    · rw [show T a = 57 from hW.rs tb rfl rfl ha]; rfl
  · rw [ew] at hc
    rw [eb, ew, ew]; exact z2 c1 hc
/-- the rows of told things, EVENTS below e laid -/
def MkR (I : cz_I) (R : cz_R) (m : Nat) (mi c1 lo : Int) (X : Nat → Nat → Int) (e : Nat) : Prop :=
  (∀ r, R m 21 = some r → ∀ k : Nat, (k : Int) < mi → (I r k).toInt = 1 - hx X 0 lo k e) ∧
  (∀ r, R m 24 = some r → ∀ k : Nat, (k : Int) < mi → (I r k).toInt = hx X 1 lo k e) ∧
  (∀ r, R m 25 = some r → ∀ k : Nat, (k : Int) < mi → (I r k).toInt = hx X 4 lo k e) ∧
  (∀ r, R m 26 = some r → ∀ h k : Nat, (h : Int) < c1 → (k : Int) < mi → (I r (240 * h + k)).toInt = hh X 3 lo k h e) ∧
  (∀ r, R m 23 = some r → ∀ h k : Nat, (h : Int) < c1 → (k : Int) < mi → (I r (240 * h + k)).toInt = hh X 2 lo k h e)
theorem MkR.skip (h : MkR I R m mi c1 lo X e) (he : (e : Int) = lo) : MkR I R m mi c1 lo X (e + 1) := by
  have a : ∀ k m, hx X k lo m (e + 1) = hx X k lo m e := fun k m => by rw [hx, if_neg (fun z => z.1 he)]
  have b : ∀ k m g, hh X k lo m g (e + 1) = hh X k lo m g e := fun k m g => by rw [hh, if_neg (fun z => z.1 he)]
  exact ⟨fun r hr k hk => by rw [a]; exact h.1 r hr k hk, fun r hr k hk => by rw [a]; exact h.2.1 r hr k hk, fun r hr k hk => by rw [a]; exact h.2.2.1 r hr k hk, fun r hr g k hg hk => by rw [b]; exact h.2.2.2.1 r hr g k hg hk, fun r hr g k hg hk => by rw [b]; exact h.2.2.2.2 r hr g k hg hk⟩
theorem MkR.lay {kd fr to hut : Int} (h : MkR I R m mi c1 lo X e) (he : ¬ (e : Int) = lo) (hmi : mi ≤ 240) (x0 : X e 0 = kd) (x1 : X e 1 = hut) (x2 : X e 2 = fr) (x3 : X e 3 = to) (hf : 0 ≤ fr) (ht : to ≤ 240) (hb : kd = 2 ∨ kd = 3 → 0 ≤ hut ∧ hut ≤ 3)
    (l1 : ∀ r, R m 21 = some r → LyV 0 I J r fr (if kd = 0 then to else fr)) (l2 : ∀ r, R m 24 = some r → LyV 1 I J r fr (if kd = 1 then to else fr)) (l3 : ∀ r, R m 25 = some r → LyV 1 I J r fr (if kd = 4 then to else fr)) (l4 : ∀ r, R m 26 = some r → LyV 1 I J r (240 * hut + fr) (if kd = 3 then 240 * hut + to else 240 * hut + fr)) (l5 : ∀ r, R m 23 = some r → LyV 1 I J r (240 * hut + fr) (if kd = 2 then 240 * hut + to else 240 * hut + fr)) : MkR J R m mi c1 lo X (e + 1) := by
  have row : ∀ kk : Int, ∀ r, LyV 1 I J r fr (if kd = kk then to else fr) → ∀ k : Nat, (I r k).toInt = hx X kk lo k e → (J r k).toInt = hx X kk lo k (e + 1) := fun kk r l k hk => by
    rw [l k, hx, x0, x2, x3]
    by_cases z : kd = kk
    · rw [if_pos z]
      by_cases y : fr ≤ (k : Int) ∧ (k : Int) < to
      · rw [if_pos y, if_pos ⟨he, z, y.1, y.2⟩]; rfl
      · rw [if_neg y, if_neg (fun w => y ⟨w.2.2.1, w.2.2.2⟩)]; exact hk
    · rw [if_neg z, if_neg (by omega), if_neg (fun w => z w.2.1)]; exact hk
  have row0 : ∀ r, LyV 0 I J r fr (if kd = 0 then to else fr) → ∀ k : Nat, (I r k).toInt = 1 - hx X 0 lo k e → (J r k).toInt = 1 - hx X 0 lo k (e + 1) := fun r l k hk => by
    rw [l k, hx, x0, x2, x3]
    by_cases z : kd = 0
    · rw [if_pos z]
      by_cases y : fr ≤ (k : Int) ∧ (k : Int) < to
      · rw [if_pos y, if_pos ⟨he, z, y.1, y.2⟩]; rfl
      · rw [if_neg y, if_neg (fun w => y ⟨w.2.2.1, w.2.2.2⟩)]; exact hk
    · rw [if_neg z, if_neg (by omega), if_neg (fun w => z w.2.1)]; exact hk
  have rob : ∀ kk : Int, (kk = 2 ∨ kk = 3) → ∀ r, LyV 1 I J r (240 * hut + fr) (if kd = kk then 240 * hut + to else 240 * hut + fr) → ∀ g k : Nat, (k : Int) < mi → (I r (240 * g + k)).toInt = hh X kk lo k g e → (J r (240 * g + k)).toInt = hh X kk lo k g (e + 1) := fun kk hkk r l g k hkm hk => by
    rw [l (240 * g + k), hh, x0, x1, x2, x3]
    by_cases z : kd = kk
    · obtain ⟨w1, w2⟩ := hb (by omega)
      rw [if_pos z]
      by_cases y : hut = (g : Int) ∧ fr ≤ (k : Int) ∧ (k : Int) < to
      · rw [if_pos (by omega), if_pos ⟨he, z, y.1, y.2.1, y.2.2⟩]; rfl
      · rw [if_neg (by omega), if_neg (fun w => y ⟨w.2.2.1, w.2.2.2.1, w.2.2.2.2⟩)]; exact hk
    · rw [if_neg z, if_neg (by omega), if_neg (fun w => z w.2.1)]; exact hk
  exact ⟨fun r hr k hk => row0 r (l1 r hr) k (h.1 r hr k hk), fun r hr k hk => row 1 r (l2 r hr) k (h.2.1 r hr k hk), fun r hr k hk => row 4 r (l3 r hr) k (h.2.2.1 r hr k hk), fun r hr g k hg hk => rob 3 (Or.inr rfl) r (l4 r hr) g k hk (h.2.2.2.1 r hr g k hg hk), fun r hr g k hg hk => rob 2 (Or.inl rfl) r (l5 r hr) g k hk (h.2.2.2.2 r hr g k hg hk)⟩
/-- cleared rows: minutes below i2 (sky bright), huts' below i, and of minute i those below h -/
def ClM (I : cz_I) (R : cz_R) (m : Nat) (c1 i i2 h : Int) : Prop :=
  (∀ r, R m 21 = some r → ∀ k : Nat, (k : Int) < i2 → (I r k).toInt = 1) ∧
  (∀ r, R m 24 = some r → ∀ k : Nat, (k : Int) < i2 → (I r k).toInt = 0) ∧
  (∀ r, R m 25 = some r → ∀ k : Nat, (k : Int) < i2 → (I r k).toInt = 0) ∧
  (∀ r, R m 26 = some r → ∀ g k : Nat, (g : Int) < c1 → k < 240 → ((k : Int) < i ∨ ((k : Int) = i ∧ (g : Int) < h)) → (I r (240 * g + k)).toInt = 0) ∧
  (∀ r, R m 23 = some r → ∀ g k : Nat, (g : Int) < c1 → k < 240 → ((k : Int) < i ∨ ((k : Int) = i ∧ (g : Int) < h)) → (I r (240 * g + k)).toInt = 0)
theorem ClM.of (h : ClM I R m c1 mi mi 0) (hmi : mi ≤ 240) : MkR I R m mi c1 lo X 0 :=
  ⟨fun r hr k hk => by rw [h.1 r hr k hk]; rfl, fun r hr k hk => by rw [h.2.1 r hr k hk]; rfl, fun r hr k hk => by rw [h.2.2.1 r hr k hk]; rfl, fun r hr g k hg hk => by rw [h.2.2.2.1 r hr g k hg (by omega) (Or.inl hk)]; rfl, fun r hr g k hg hk => by rw [h.2.2.2.2 r hr g k hg (by omega) (Or.inl hk)]; rfl⟩
theorem ClM.nx {i i2 h : Int} (q : ClM I R m c1 i i2 h) (hh : c1 ≤ h) (hi : i2 = i + 1) : ClM I R m c1 i2 i2 0 := by
  subst hi
  exact ⟨q.1, q.2.1, q.2.2.1, fun r hr g k hg hk hd => q.2.2.2.1 r hr g k hg hk (by omega), fun r hr g k hg hk hd => q.2.2.2.2 r hr g k hg hk (by omega)⟩
/-- all rows: minutes below i2 (sky), below i and of minute i huts below h (light, what seems) -/
def SkM (I : cz_I) (R : cz_R) (m : Nat) (mi c1 lo : Int) (X : Nat → Nat → Int) (n : Nat) (i i2 h : Int) : Prop :=
  (∀ r, R m 21 = some r → ∀ k : Nat, (k : Int) < mi → (I r k).toInt = if (k : Int) < i2 then skB X lo n k else 1 - hx X 0 lo k n) ∧
  (∀ r, R m 24 = some r → ∀ k : Nat, (k : Int) < mi → (I r k).toInt = hx X 1 lo k n) ∧
  (∀ r, R m 25 = some r → ∀ k : Nat, (k : Int) < mi → (I r k).toInt = hx X 4 lo k n) ∧
  (∀ r, R m 26 = some r → ∀ g k : Nat, (g : Int) < c1 → (k : Int) < mi → (I r (240 * g + k)).toInt = hh X 3 lo k g n) ∧
  (∀ r, R m 22 = some r → ∀ g k : Nat, (g : Int) < c1 → (k : Int) < mi → ((k : Int) < i ∨ ((k : Int) = i ∧ (g : Int) < h)) → (I r (240 * g + k)).toInt = skL X lo n c1 g k) ∧
  (∀ r, R m 23 = some r → ∀ g k : Nat, (g : Int) < c1 → (k : Int) < mi → (I r (240 * g + k)).toInt = if ((k : Int) < i ∨ ((k : Int) = i ∧ (g : Int) < h)) then skS X lo n c1 g k else hh X 2 lo k g n)
theorem SkM.of (h : MkR I R m mi c1 lo X n) : SkM I R m mi c1 lo X n 0 0 0 :=
  ⟨fun r hr k hk => by rw [if_neg (by omega)]; exact h.1 r hr k hk, h.2.1, h.2.2.1, h.2.2.2.1, fun _ _ g k _ _ hd => by omega, fun r hr g k hg hk => by rw [if_neg (by omega)]; exact h.2.2.2.2 r hr g k hg hk⟩
theorem SkM.nx {i i2 h : Int} (q : SkM I R m mi c1 lo X n i i2 h) (hh' : c1 ≤ h) (hi : i2 = i + 1) : SkM I R m mi c1 lo X n i2 i2 0 := by
  subst hi
  refine ⟨q.1, q.2.1, q.2.2.1, q.2.2.2.1, fun r hr g k hg hk hd => q.2.2.2.2.1 r hr g k hg hk (by omega), fun r hr g k hg hk => ?_⟩
  rw [q.2.2.2.2.2 r hr g k hg hk]
  by_cases z : (k : Int) < i ∨ ((k : Int) = i ∧ (g : Int) < h)
  · rw [if_pos z, if_pos (by omega)]
  · rw [if_neg z, if_neg (by omega)]
/-- a minute's sky -/
theorem SkM.sk {i : Int} {r0 : Nat} {v : Int} (q : SkM I R m mi c1 lo X n i i 0) (hW : Wf T cn K N I R d) (tm : T m = 15) (h0 : 0 ≤ i) (him : i < mi) (hx' : (ix : Int) = i) (d0 : R m 21 = some r0) (e0 : (J r0 ix).toInt = v) (f : ∀ a j, ¬ (a = r0 ∧ j = ix) → J a j = I a j) (hv : v = skB X lo n i) : SkM J R m mi c1 lo X n i (i + 1) 0 := by
  have t0 : T r0 = 81 := hW.rs tm rfl rfl d0
  have o : ∀ a j, ¬ T a = 81 → J a j = I a j := fun a j h => f a j (fun z => h (by rw [z.1]; exact t0))
  refine ⟨fun r hr k hk => ?_, fun r hr k hk => ?_, fun r hr k hk => ?_, fun r hr g k hg hk => ?_, fun r hr g k hg hk hd => ?_, fun r hr g k hg hk => ?_⟩
  · obtain rfl := Option.some.inj (d0.symm.trans hr)
    by_cases z : k = ix
    · subst z; rw [e0, if_pos (by omega), hv, hx']
    · rw [f _ k (fun w => z w.2), q.1 _ hr k hk]
      by_cases y : (k : Int) < i
      · rw [if_pos y, if_pos (by omega)]
      · rw [if_neg y, if_neg (by omega)]
  · rw [o r k (by rw [show T r = 84 from hW.rs tm rfl rfl hr]; decide)]; exact q.2.1 r hr k hk
  · rw [o r k (by rw [show T r = 85 from hW.rs tm rfl rfl hr]; decide)]; exact q.2.2.1 r hr k hk
  · rw [o r _ (by rw [show T r = 86 from hW.rs tm rfl rfl hr]; decide)]; exact q.2.2.2.1 r hr g k hg hk
  · rw [o r _ (by rw [show T r = 82 from hW.rs tm rfl rfl hr]; decide)]; exact q.2.2.2.2.1 r hr g k hg hk hd
  · rw [o r _ (by rw [show T r = 83 from hW.rs tm rfl rfl hr]; decide)]; exact q.2.2.2.2.2 r hr g k hg hk
/-- a hut's minute -/
theorem SkM.st {i h : Int} {r2 r3 : Nat} {v w : Int} (q : SkM I R m mi c1 lo X n i (i + 1) h) (hW : Wf T cn K N I R d) (tm : T m = 15) (h0 : 0 ≤ i) (him : i < mi) (hmi : mi ≤ 240) (g0 : 0 ≤ h) (g1 : h < c1) (hx' : (ix : Int) = 240 * h + i) (d2 : R m 22 = some r2) (d3 : R m 23 = some r3) (e2 : (J1 r2 ix).toInt = v) (f2 : ∀ a j, ¬ (a = r2 ∧ j = ix) → J1 a j = I a j) (e3 : (J r3 ix).toInt = w) (f3 : ∀ a j, ¬ (a = r3 ∧ j = ix) → J a j = J1 a j) (hv : v = skL X lo n c1 h i) (hw : w = skS X lo n c1 h i) : SkM J R m mi c1 lo X n i (i + 1) (h + 1) := by
  have t2 : T r2 = 82 := hW.rs tm rfl rfl d2
  have t3 : T r3 = 83 := hW.rs tm rfl rfl d3
  have o : ∀ a j, ¬ T a = 82 → ¬ T a = 83 → J a j = I a j := fun a j h1 h2 => (f3 a j (fun z => h2 (by rw [z.1]; exact t3))).trans (f2 a j (fun z => h1 (by rw [z.1]; exact t2)))
  refine ⟨fun r hr k hk => ?_, fun r hr k hk => ?_, fun r hr k hk => ?_, fun r hr g k hg hk => ?_, fun r hr g k hg hk hd => ?_, fun r hr g k hg hk => ?_⟩
  · have t : T r = 81 := hW.rs tm rfl rfl hr
    rw [o r k (by omega) (by omega)]; exact q.1 r hr k hk
  · have t : T r = 84 := hW.rs tm rfl rfl hr
    rw [o r k (by omega) (by omega)]; exact q.2.1 r hr k hk
  · have t : T r = 85 := hW.rs tm rfl rfl hr
    rw [o r k (by omega) (by omega)]; exact q.2.2.1 r hr k hk
  · have t : T r = 86 := hW.rs tm rfl rfl hr
    rw [o r _ (by omega) (by omega)]; exact q.2.2.2.1 r hr g k hg hk
  · obtain rfl := Option.some.inj (d2.symm.trans hr)
    by_cases z : (g : Int) = h ∧ (k : Int) = i
    · have y : 240 * g + k = ix := by omega
      rw [f3 _ _ (fun w => by have := w.1; rw [this] at t2; omega), y, e2, hv, z.1, z.2]
    · have y : ¬ 240 * g + k = ix := by omega
      rw [f3 _ _ (fun w => y w.2), f2 _ _ (fun w => y w.2)]
      exact q.2.2.2.2.1 _ hr g k hg hk (by omega)
  · obtain rfl := Option.some.inj (d3.symm.trans hr)
    by_cases z : (g : Int) = h ∧ (k : Int) = i
    · have y : 240 * g + k = ix := by omega
      rw [y, e3, if_pos (by omega), hw, z.1, z.2]
    · have y : ¬ 240 * g + k = ix := by omega
      rw [f3 _ _ (fun w => y w.2), f2 _ _ (fun w => y w.2), q.2.2.2.2.2 _ hr g k hg hk]
      by_cases c : (k : Int) < i ∨ ((k : Int) = i ∧ (g : Int) < h)
      · rw [if_pos c, if_pos (by omega)]
      · rw [if_neg c, if_neg (by omega)]
theorem ClM.z : ClM I R m c1 0 0 0 := ⟨fun _ _ k hk => by omega, fun _ _ k hk => by omega, fun _ _ k hk => by omega, fun _ _ g k _ _ hd => by omega, fun _ _ g k _ _ hd => by omega⟩
theorem ClM.sk {i : Int} {r0 r1 r2 : Nat} (q : ClM I R m c1 i i 0) (hW : Wf T cn K N I R d) (tm : T m = 15) (hx' : (ix : Int) = i) (d0 : R m 21 = some r0) (d1' : R m 24 = some r1) (d2 : R m 25 = some r2) (e0 : (J r0 ix).toInt = 1) (e1 : (J r1 ix).toInt = 0) (e2 : (J r2 ix).toInt = 0) (f : ∀ a j, ¬ (a = r0 ∧ j = ix) → ¬ (a = r1 ∧ j = ix) → ¬ (a = r2 ∧ j = ix) → J a j = I a j) : ClM J R m c1 i (i + 1) 0 := by
  have t0 : T r0 = 81 := hW.rs tm rfl rfl d0
  have t1 : T r1 = 84 := hW.rs tm rfl rfl d1'
  have t2 : T r2 = 85 := hW.rs tm rfl rfl d2
  have o : ∀ a j, ¬ j = ix → J a j = I a j := fun a j h => f a j (fun z => h z.2) (fun z => h z.2) (fun z => h z.2)
  have o2 : ∀ a j, ¬ T a = 81 → ¬ T a = 84 → ¬ T a = 85 → J a j = I a j := fun a j h1 h2 h3 => f a j (fun z => h1 (by rw [z.1]; exact t0)) (fun z => h2 (by rw [z.1]; exact t1)) (fun z => h3 (by rw [z.1]; exact t2))
  refine ⟨fun r hr k hk => ?_, fun r hr k hk => ?_, fun r hr k hk => ?_, fun r hr g k hg hk hd => ?_, fun r hr g k hg hk hd => ?_⟩
  · obtain rfl := Option.some.inj (d0.symm.trans hr)
    by_cases z : k = ix
    · subst z; exact e0
    · rw [o _ k z]; exact q.1 _ hr k (by omega)
  · obtain rfl := Option.some.inj (d1'.symm.trans hr)
    by_cases z : k = ix
    · subst z; exact e1
    · rw [o _ k z]; exact q.2.1 _ hr k (by omega)
  · obtain rfl := Option.some.inj (d2.symm.trans hr)
    by_cases z : k = ix
    · subst z; exact e2
    · rw [o _ k z]; exact q.2.2.1 _ hr k (by omega)
  · have t : T r = 86 := hW.rs tm rfl rfl hr
    rw [o2 r _ (by omega) (by omega) (by omega)]; exact q.2.2.2.1 r hr g k hg hk hd
  · have t : T r = 83 := hW.rs tm rfl rfl hr
    rw [o2 r _ (by omega) (by omega) (by omega)]; exact q.2.2.2.2 r hr g k hg hk hd
theorem ClM.st {i h : Int} {r2 r3 : Nat} (q : ClM I R m c1 i (i + 1) h) (hW : Wf T cn K N I R d) (tm : T m = 15) (h0 : 0 ≤ i) (him : i < 240) (g0 : 0 ≤ h) (hx' : (ix : Int) = 240 * h + i) (d2 : R m 26 = some r2) (d3 : R m 23 = some r3) (e2 : (J r2 ix).toInt = 0) (e3 : (J r3 ix).toInt = 0) (f : ∀ a j, ¬ (a = r2 ∧ j = ix) → ¬ (a = r3 ∧ j = ix) → J a j = I a j) : ClM J R m c1 i (i + 1) (h + 1) := by
  have t2 : T r2 = 86 := hW.rs tm rfl rfl d2
  have t3 : T r3 = 83 := hW.rs tm rfl rfl d3
  have o : ∀ a j, ¬ j = ix → J a j = I a j := fun a j h => f a j (fun z => h z.2) (fun z => h z.2)
  have o2 : ∀ a j, ¬ T a = 86 → ¬ T a = 83 → J a j = I a j := fun a j h1 h2 => f a j (fun z => h1 (by rw [z.1]; exact t2)) (fun z => h2 (by rw [z.1]; exact t3))
  refine ⟨fun r hr k hk => ?_, fun r hr k hk => ?_, fun r hr k hk => ?_, fun r hr g k hg hk hd => ?_, fun r hr g k hg hk hd => ?_⟩
  · have t : T r = 81 := hW.rs tm rfl rfl hr
    rw [o2 r k (by omega) (by omega)]; exact q.1 r hr k hk
  · have t : T r = 84 := hW.rs tm rfl rfl hr
    rw [o2 r k (by omega) (by omega)]; exact q.2.1 r hr k hk
  · have t : T r = 85 := hW.rs tm rfl rfl hr
    rw [o2 r k (by omega) (by omega)]; exact q.2.2.1 r hr k hk
  · obtain rfl := Option.some.inj (d2.symm.trans hr)
    by_cases z : 240 * g + k = ix
    · rw [z]; exact e2
    · rw [o _ _ z]; exact q.2.2.2.1 _ hr g k hg hk (by omega)
  · obtain rfl := Option.some.inj (d3.symm.trans hr)
    by_cases z : 240 * g + k = ix
    · rw [z]; exact e3
    · rw [o _ _ z]; exact q.2.2.2.2 _ hr g k hg hk (by omega)
theorem SkM.ch {h k v : Int} {r2 : Nat} (q : SkM I R m mi c1 lo X n mi mi 0) (d2 : R m 22 = some r2) (h0 : 0 ≤ h) (h1 : h < c1) (k0 : 0 ≤ k) (k1 : k < mi) (e : v = if 0 < k ∧ ¬ (I r2 (240 * h + k).toNat).toInt = (I r2 (240 * h + k - 1).toNat).toInt then 1 else 0) : v = skC X lo n c1 h k := by
  have z := q.2.2.2.2.1 r2 d2 h.toNat k.toNat (by omega) (by omega) (Or.inl (by omega))
  rw [show 240 * h.toNat + k.toNat = (240 * h + k).toNat by omega, show ((h.toNat : Nat) : Int) = h by omega, show ((k.toNat : Nat) : Int) = k by omega] at z
  rw [e, z]
  by_cases p : 0 < k
  · have y := q.2.2.2.2.1 r2 d2 h.toNat (k - 1).toNat (by omega) (by omega) (Or.inl (by omega))
    rw [show 240 * h.toNat + (k - 1).toNat = (240 * h + k - 1).toNat by omega, show ((h.toNat : Nat) : Int) = h by omega, show (((k - 1).toNat : Nat) : Int) = k - 1 by omega] at y
    rw [y]; rfl
  · rw [if_neg (fun w => p w.1)]; unfold skC; rw [if_neg (fun w => p w.1)]
theorem SkM.se {h k v : Int} {r2 : Nat} (q : SkM I R m mi c1 lo X n mi mi 0) (d2 : R m 23 = some r2) (h0 : 0 ≤ h) (h1 : h < c1) (k0 : 0 ≤ k) (k1 : k < mi) (e : v = if 0 < k ∧ ¬ (I r2 (240 * h + k).toNat).toInt = (I r2 (240 * h + k - 1).toNat).toInt then 1 else 0) : v = skT X lo n c1 h k := by
  have z := q.2.2.2.2.2 r2 d2 h.toNat k.toNat (by omega) (by omega)
  rw [if_pos (Or.inl (by omega)), show 240 * h.toNat + k.toNat = (240 * h + k).toNat by omega, show ((h.toNat : Nat) : Int) = h by omega, show ((k.toNat : Nat) : Int) = k by omega] at z
  rw [e, z]
  by_cases p : 0 < k
  · have y := q.2.2.2.2.2 r2 d2 h.toNat (k - 1).toNat (by omega) (by omega)
    rw [if_pos (Or.inl (by omega)), show 240 * h.toNat + (k - 1).toNat = (240 * h + k - 1).toNat by omega, show ((h.toNat : Nat) : Int) = h by omega, show (((k - 1).toNat : Nat) : Int) = k - 1 by omega] at y
    rw [y]; rfl
  · rw [if_neg (fun w => p w.1)]; unfold skT; rw [if_neg (fun w => p w.1)]
end CzSk5
/-! ===== THE NIGHT, as pure functions ===== -/
/-- whether one of the first is 1 -/
def exI (f : Nat → Int) : Nat → Int
  | 0 => 0
  | k + 1 => if f k = 1 then 1 else exI f k
theorem exI_01 (f : Nat → Int) : ∀ n, exI f n = 0 ∨ exI f n = 1
  | 0 => Or.inl rfl
  | n + 1 => by rw [exI]; split; exact Or.inr rfl; exact exI_01 f n
theorem exI_1 {f : Nat → Int} : ∀ (n k : Nat), k < n → f k = 1 → exI f n = 1
  | 0, _, h, _ => absurd h (Nat.not_lt_zero _)
  | n + 1, k, h, e => by
    rw [exI]
    by_cases z : k = n
    · subst z; rw [if_pos e]
    · by_cases y : f n = 1
      · rw [if_pos y]
      · rw [if_neg y]; exact exI_1 n k (by omega) e
theorem exI_s {f : Nat → Int} {n : Nat} (h : exI f n = 0) (e : ¬ f n = 1) : exI f (n + 1) = 0 := by rw [exI, if_neg e]; exact h
theorem exI_cg {f g : Nat → Int} : ∀ n : Nat, (∀ k, k < n → g k = f k) → exI g n = exI f n
  | 0, _ => rfl
  | n + 1, h => by rw [exI, exI, h n (by omega), exI_cg n (fun k hk => h k (by omega))]
theorem bt_z (h : Int) : bt 0 h = 0 := by unfold bt; rw [Int.zero_ediv]; rfl
/-- Z: where a hut CHANGES, SEEMS to, where lightning strikes it; eclipses; tables, counts; CALLS made, turners there -/
abbrev cz_N := (Int → Int → Int) × (Int → Int → Int) × (Int → Int → Int) × (Int → Int) × (Nat → Nat → Int) × (Nat → Int) × Int × Int
def nzC (Z : cz_N) : Int → Int → Int := Z.1
def nzS (Z : cz_N) : Int → Int → Int := Z.2.1
def nzK (Z : cz_N) : Int → Int → Int := Z.2.2.1
def nzE (Z : cz_N) : Int → Int := Z.2.2.2.1
def nzT (Z : cz_N) : Nat → Nat → Int := Z.2.2.2.2.1
def nzc (Z : cz_N) : Nat → Int := Z.2.2.2.2.2.1
def nzM (Z : cz_N) : Int := Z.2.2.2.2.2.2.1
def nzW (Z : cz_N) : Int := Z.2.2.2.2.2.2.2
/-- a minute of the almanac; a CALL that holds; AWAKE; NOTICES -/
def alZ (Z : cz_N) (m : Int) : Int := exI (fun k => if nzT Z 34 k = m then 1 else 0) (nzT Z 29 0).toNat
def clZ (Z : cz_N) (t m : Int) (k : Nat) : Int := if bt (nzM Z) (k : Int) = 1 ∧ nzT Z (19 + k) 0 = t ∧ nzT Z (19 + k) 1 ≤ m ∧ m < nzT Z (19 + k) 1 + nzT Z (19 + k) 2 then 1 else 0
theorem clZ_1 {Z : cz_N} {t m : Int} {k : Nat} (h1 : bt (nzM Z) (k : Int) = 1) (h2 : nzT Z (19 + k) 0 = t) (h3 : nzT Z (19 + k) 1 ≤ m) (h4 : m < nzT Z (19 + k) 1 + nzT Z (19 + k) 2) : clZ Z t m k = 1 := if_pos ⟨h1, h2, h3, h4⟩
theorem clZ_n {Z : cz_N} {t m : Int} {k : Nat} (h : bt (nzM Z) (k : Int) = 1 → nzT Z (19 + k) 0 = t → nzT Z (19 + k) 1 ≤ m → m < nzT Z (19 + k) 1 + nzT Z (19 + k) 2 → False) : ¬ clZ Z t m k = 1 := by
  unfold clZ; rw [if_neg (fun z => h z.1 z.2.1 z.2.2.1 z.2.2.2)]; decide
def awZ (Z : cz_N) (t : Nat) (m : Int) : Int := if nzT Z (14 + t) 1 ≤ m ∧ m < nzT Z (14 + t) 2 then 1 else if nzT Z (14 + t) 0 = 2 then 0 else if nzE Z m = 1 then 1 else exI (clZ Z t m) (nzc Z 5).toNat
def noZ (Z : cz_N) (t : Nat) (h m : Int) : Int := if nzT Z (14 + t) 0 = 3 then alZ Z m else if nzT Z (14 + t) 0 = 1 then nzC Z h m else nzS Z h m
/-- whether turner t may turn cheese k in minute m -/
def elZ (Z : cz_N) (t : Nat) (m : Int) (k : Nat) : Int := if bt (nzT Z (14 + t) 5) (nzT Z 35 k) = 1 ∧ noZ Z t (nzT Z 35 k) m = 1 then 1 else 0
/-- of the first cheeses how many are turned by one with h hands: b who turned them already (-2 nobody), e whether he may -/
def tqN (b : Nat → Int) (h : Int) (e : Nat → Int) : Nat → Int
  | 0 => 0
  | k + 1 => tqN b h e k + (if tqN b h e k < h ∧ b k = -2 ∧ e k = 1 then 1 else 0)
def tqG (b : Nat → Int) (h : Int) (e : Nat → Int) (k : Nat) : Int := if tqN b h e k < h ∧ b k = -2 ∧ e k = 1 then 1 else 0
def tqB (t : Int) (b : Nat → Int) (h : Int) (e : Nat → Int) (k : Nat) : Int := if tqG b h e k = 1 then t else b k
section CzNj
variable {b : Nat → Int} {h t : Int} {e : Nat → Int} {Z : cz_N}
theorem tqN_s (n : Nat) : tqN b h e (n + 1) = tqN b h e n + tqG b h e n := rfl
theorem tqG_01 (n : Nat) : tqG b h e n = 0 ∨ tqG b h e n = 1 := by unfold tqG; split; exact Or.inr rfl; exact Or.inl rfl
theorem tqG_1 {n : Nat} (h1 : tqN b h e n < h) (h2 : b n = -2) (h3 : e n = 1) : tqG b h e n = 1 := if_pos ⟨h1, h2, h3⟩
theorem tqG_n {n : Nat} (h1 : ¬ (tqN b h e n < h ∧ b n = -2 ∧ e n = 1)) : tqG b h e n = 0 := if_neg h1
theorem tqN_b : ∀ n : Nat, 0 ≤ tqN b h e n ∧ tqN b h e n ≤ (n : Int)
  | 0 => by rw [tqN]; omega
  | n + 1 => by
    have z := tqN_b n
    have y := tqG_01 (b := b) (h := h) (e := e) n
    rw [tqN_s]; omega
theorem tqN_mo {n k : Nat} (hk : n ≤ k) : tqN b h e n ≤ tqN b h e k := by
  induction k with
  | zero => rw [show n = 0 by omega]; exact Int.le_refl _
  | succ k ih =>
    by_cases z : n = k + 1
    · rw [z]; exact Int.le_refl _
    · have y := tqG_01 (b := b) (h := h) (e := e) k
      have x := ih (by omega)
      rw [tqN_s]; omega
/-- no hand is left -/
theorem tqG_st {n k : Nat} (h1 : h ≤ tqN b h e n) (hk : n ≤ k) : tqG b h e k = 0 := tqG_n (fun z => by have := tqN_mo (b := b) (h := h) (e := e) hk; omega)
theorem tqN_st {n : Nat} (h1 : h ≤ tqN b h e n) : ∀ d : Nat, tqN b h e (n + d) = tqN b h e n
  | 0 => rfl
  | d + 1 => by rw [show n + (d + 1) = n + d + 1 by omega, tqN_s, tqN_st h1 d, tqG_st h1 (by omega)]; omega
theorem tqN_0 (he : ∀ k, ¬ e k = 1) : ∀ n, tqN b h e n = 0
  | 0 => rfl
  | n + 1 => by rw [tqN_s, tqN_0 he n, tqG_n (fun z => he n z.2.2)]; rfl
theorem tqB_0 (he : ∀ k, ¬ e k = 1) (k : Nat) : tqB t b h e k = b k := by
  unfold tqB; rw [tqG_n (fun z => he k z.2.2), if_neg (by decide)]
end CzNj
/-- whether turner t is asked in minute m, f when each is free -/
def akZ (Z : cz_N) (m : Int) (f : Nat → Int) (t : Nat) : Int := if bt (nzW Z) (t : Int) = 1 ∧ f t ≤ m ∧ awZ Z t m = 1 then 1 else 0
/-- who turned what in minute m, the first t turners asked -/
def mB (Z : cz_N) (m : Int) (f : Nat → Int) : Nat → Nat → Int
  | 0 => fun _ => -2
  | t + 1 => fun k => if akZ Z m f t = 1 then tqB (t : Int) (mB Z m f t) (nzT Z (14 + t) 3) (elZ Z t m) k else mB Z m f t k
def mG (Z : cz_N) (m : Int) (f : Nat → Int) (t k : Nat) : Int := if akZ Z m f t = 1 then tqG (mB Z m f t) (nzT Z (14 + t) 3) (elZ Z t m) k else 0
/-- how many turner t turns in minute m; how many RIGHT -/
def mK (Z : cz_N) (m : Int) (f : Nat → Int) (t : Nat) : Int := cnM (mG Z m f t) (nzc Z 3).toNat
def mS (Z : cz_N) (m : Int) (f : Nat → Int) (t : Nat) : Int := cnM (fun k => if mG Z m f t k = 1 ∧ nzC Z (nzT Z 35 k) m = 1 then 1 else 0) (nzc Z 3).toNat
/-- from when each is free, ahead of minute m -/
def nF (Z : cz_N) : Nat → Nat → Int
  | 0 => fun _ => 0
  | m + 1 => fun u => if 0 < m ∧ 0 < mK Z (m : Int) (nF Z m) u then (m : Int) + nzT Z (14 + u) 4 else nF Z m u
/-- who turns cheese k in minute m; whether it lies up ahead of minute m -/
def nB (Z : cz_N) (m k : Nat) : Int := if m = 0 then -2 else mB Z (m : Int) (nF Z m) (nzc Z 4).toNat k
def nV (Z : cz_N) (k : Nat) : Nat → Int
  | 0 => bt (nzc Z 9) (k : Int)
  | m + 1 => if nB Z m k = -2 then nV Z k m else 1 - nV Z k m
/-- of a cheese, ahead of minute M: RIGHT, FALSE, MISSED, CRACKED; of a turner: turned, RIGHT, in how many minutes -/
def qR (Z : cz_N) (k M : Nat) : Int := cnM (fun m => if ¬ nB Z m k = -2 ∧ nzC Z (nzT Z 35 k) m = 1 then 1 else 0) M
def qW (Z : cz_N) (k M : Nat) : Int := cnM (fun m => if ¬ nB Z m k = -2 ∧ ¬ nzC Z (nzT Z 35 k) m = 1 then 1 else 0) M
def qM (Z : cz_N) (k M : Nat) : Int := cnM (fun m => if nB Z m k = -2 ∧ nzC Z (nzT Z 35 k) m = 1 then 1 else 0) M
def qK (Z : cz_N) (k M : Nat) : Int := cnM (fun m => if nV Z k (m + 1) = 1 ∧ nzK Z (nzT Z 35 k) m = 1 then 1 else 0) M
def qT (Z : cz_N) (t M : Nat) : Int := cnM (fun m => if 0 < m then mK Z (m : Int) (nF Z m) t else 0) M
def qS (Z : cz_N) (t M : Nat) : Int := cnM (fun m => if 0 < m then mS Z (m : Int) (nF Z m) t else 0) M
def qN (Z : cz_N) (t M : Nat) : Int := cnM (fun m => if 0 < m ∧ 0 < mK Z (m : Int) (nF Z m) t then 1 else 0) M
/-- PRICES, what CALLS cost, TOTAL -/
def pzZ (Z : cz_N) (k : Nat) : Int := if nzT Z 36 0 + nzT Z 36 1 * qR Z k (nzc Z 0).toNat - nzT Z 36 2 * qM Z k (nzc Z 0).toNat - nzT Z 36 3 * qK Z k (nzc Z 0).toNat - nzT Z 36 4 * qW Z k (nzc Z 0).toNat < 0 then 0 else nzT Z 36 0 + nzT Z 36 1 * qR Z k (nzc Z 0).toNat - nzT Z 36 2 * qM Z k (nzc Z 0).toNat - nzT Z 36 3 * qK Z k (nzc Z 0).toNat - nzT Z 36 4 * qW Z k (nzc Z 0).toNat
def coZ (Z : cz_N) : Int := cnM (fun i => if bt (nzM Z) (i : Int) = 1 then nzT Z (19 + i) 3 else 0) (nzc Z 5).toNat
def toZ (Z : cz_N) : Int := cnM (pzZ Z) (nzc Z 3).toNat - coZ Z
/-- a minute in which nothing stirs -/
def quZ (Z : cz_N) (m : Nat) : Prop := (∀ k : Nat, (k : Int) < nzc Z 3 → nzC Z (nzT Z 35 k) m = 0 ∧ nzS Z (nzT Z 35 k) m = 0 ∧ nzK Z (nzT Z 35 k) m = 0) ∧ ¬ alZ Z m = 1
section CzNk
variable {Z : cz_N} {m : Nat} {f : Nat → Int}
theorem cnM_0 {g : Nat → Int} : ∀ n : Nat, (∀ k, k < n → g k = 0) → cnM g n = 0
  | 0, _ => rfl
  | n + 1, h => by rw [cnM, cnM_0 n (fun k hk => h k (by omega)), h n (by omega)]; rfl
theorem cnM_b {g : Nat → Int} : ∀ n : Nat, (∀ k, k < n → g k = 0 ∨ g k = 1) → 0 ≤ cnM g n ∧ cnM g n ≤ (n : Int)
  | 0, _ => by rw [cnM]; omega
  | n + 1, h => by
    have z := cnM_b n (fun k hk => h k (by omega))
    have y := h n (by omega)
    rw [cnM]; omega
theorem tqN_cn {b : Nat → Int} {h : Int} {e : Nat → Int} : ∀ n, cnM (tqG b h e) n = tqN b h e n
  | 0 => rfl
  | n + 1 => by rw [cnM, tqN_s, tqN_cn n]
theorem mG_01 {mi : Int} (u k : Nat) : mG Z mi f u k = 0 ∨ mG Z mi f u k = 1 := by
  unfold mG; split; exact tqG_01 k; exact Or.inl rfl
theorem mK_b {mi : Int} (h8 : nzc Z 3 ≤ 8) (u : Nat) : 0 ≤ mK Z mi f u ∧ mK Z mi f u ≤ 8 := by
  have z := cnM_b (g := mG Z mi f u) (nzc Z 3).toNat (fun k _ => mG_01 u k)
  unfold mK; omega
theorem elZ_q (h : quZ Z m) {u k : Nat} (hk : (k : Int) < nzc Z 3) : ¬ elZ Z u m k = 1 := by
  obtain ⟨h1, h2⟩ := h
  obtain ⟨a1, a2, -⟩ := h1 k hk
  intro q
  unfold elZ at q
  by_cases y : bt (nzT Z (14 + u) 5) (nzT Z 35 k) = 1 ∧ noZ Z u (nzT Z 35 k) m = 1
  · have n := y.2
    unfold noZ at n
    by_cases c1 : nzT Z (14 + u) 0 = 3
    · rw [if_pos c1] at n; exact h2 n
    · rw [if_neg c1] at n
      by_cases c2 : nzT Z (14 + u) 0 = 1
      · rw [if_pos c2] at n; omega
      · rw [if_neg c2] at n; omega
  · rw [if_neg y] at q; omega
theorem mB_s (u k : Nat) : mB Z m f (u + 1) k = if akZ Z m f u = 1 then tqB (u : Int) (mB Z m f u) (nzT Z (14 + u) 3) (elZ Z u m) k else mB Z m f u k := rfl
theorem nF_s (u : Nat) : nF Z (m + 1) u = if 0 < m ∧ 0 < mK Z (m : Int) (nF Z m) u then (m : Int) + nzT Z (14 + u) 4 else nF Z m u := rfl
theorem mB_hi {u : Nat} {k : Nat} (he : ∀ t, ¬ elZ Z t m k = 1) : mB Z m f u k = -2 := by
  induction u with
  | zero => rfl
  | succ u ih =>
    have g : tqG (mB Z m f u) (nzT Z (14 + u) 3) (elZ Z u m) k = 0 := tqG_n (fun z => he u z.2.2)
    rw [mB_s]
    by_cases a : akZ Z m f u = 1
    · rw [if_pos a]; unfold tqB; rw [if_neg (by omega)]; exact ih
    · rw [if_neg a]; exact ih
theorem mB_q (h : quZ Z m) {u k : Nat} (hk : (k : Int) < nzc Z 3) : mB Z m f u k = -2 := mB_hi (fun t => elZ_q h hk)
theorem mG_q (h : quZ Z m) {u k : Nat} (hk : (k : Int) < nzc Z 3) : mG Z m f u k = 0 := by
  unfold mG; split
  · exact tqG_n (fun z => elZ_q h hk z.2.2)
  · rfl
theorem mK_q (h : quZ Z m) (u : Nat) : mK Z m f u = 0 := cnM_0 _ (fun k hk => mG_q h (by omega))
theorem mS_q (h : quZ Z m) (u : Nat) : mS Z m f u = 0 := cnM_0 _ (fun k hk => if_neg (fun z => by have := mG_q (f := f) (u := u) h (k := k) (by omega); omega))
theorem nF_q (h : quZ Z m) : nF Z (m + 1) = nF Z m := by
  funext u; rw [nF_s, mK_q h, if_neg (fun z => by omega)]
theorem nB_q (h : quZ Z m) {k : Nat} (hk : (k : Int) < nzc Z 3) : nB Z m k = -2 := by
  unfold nB; split
  · rfl
  · exact mB_q h hk
theorem nV_q (h : quZ Z m) {k : Nat} (hk : (k : Int) < nzc Z 3) : nV Z k (m + 1) = nV Z k m := by rw [nV, if_pos (nB_q h hk)]
theorem qR_q (h : quZ Z m) {k : Nat} (hk : (k : Int) < nzc Z 3) : qR Z k (m + 1) = qR Z k m := by unfold qR; rw [cnM, if_neg (fun z => z.1 (nB_q h hk))]; omega
theorem qW_q (h : quZ Z m) {k : Nat} (hk : (k : Int) < nzc Z 3) : qW Z k (m + 1) = qW Z k m := by unfold qW; rw [cnM, if_neg (fun z => z.1 (nB_q h hk))]; omega
theorem qM_q (h : quZ Z m) {k : Nat} (hk : (k : Int) < nzc Z 3) : qM Z k (m + 1) = qM Z k m := by unfold qM; rw [cnM, if_neg (fun z => by have := (h.1 k hk).1; omega)]; omega
theorem qK_q (h : quZ Z m) {k : Nat} (hk : (k : Int) < nzc Z 3) : qK Z k (m + 1) = qK Z k m := by unfold qK; rw [cnM, if_neg (fun z => by have := (h.1 k hk).2.2; omega)]; omega
theorem qT_q (h : quZ Z m) (u : Nat) : qT Z u (m + 1) = qT Z u m := by unfold qT; rw [cnM, mK_q h]; split <;> omega
theorem qS_q (h : quZ Z m) (u : Nat) : qS Z u (m + 1) = qS Z u m := by unfold qS; rw [cnM, mS_q h]; split <;> omega
theorem qN_q (h : quZ Z m) (u : Nat) : qN Z u (m + 1) = qN Z u m := by unfold qN; rw [cnM, mK_q h, if_neg (fun z => by omega)]; omega
end CzNk
/-! ===== bits of cheeses; four bits a cheese ===== -/
theorem bt_X : ∀ h : Nat, h < 256 → ∀ v : Nat, v < 8 → ((((Int32.ofNat h).toUInt32 >>> ((Int32.ofNat v).toUInt32 &&& Int32.toUInt32 31)).toInt32) &&& 1).toInt = bt (h : Int) (v : Int) := by decide +kernel
def B8 (v : Int32) (f : Nat → Int) : Prop := 0 ≤ v.toInt ∧ v.toInt ≤ 255 ∧ ∀ k : Nat, k < 8 → bt v.toInt (k : Int) = f k
theorem B8.cg {v : Int32} {f g : Nat → Int} (h : B8 v f) (e : ∀ k : Nat, k < 8 → g k = f k) : B8 v g := ⟨h.1, h.2.1, fun k hk => (h.2.2 k hk).trans (e k hk).symm⟩
theorem b8_or : ∀ a : Nat, a < 256 → ∀ b : Nat, b < 256 → (Int32.ofNat a ||| Int32.ofNat b).toInt = ((a ||| b : Nat) : Int) := by
  intro a ha b hb
  have hab : a ||| b < 2 ^ 8 := Nat.or_lt_two_pow (by omega) (by omega)
  have e : Int32.ofNat a ||| Int32.ofNat b = Int32.ofNat (a ||| b) := by
    apply Int32.toBitVec_inj.mp
    show BitVec.ofNat 32 a ||| BitVec.ofNat 32 b = BitVec.ofNat 32 (a ||| b)
    exact (BitVec.ofNat_or).symm
  rw [e]
  exact (Int32.toInt_ofNat_of_lt (by omega)).trans rfl
theorem b8_xor : ∀ a : Nat, a < 256 → ∀ b : Nat, b < 256 → (Int32.ofNat a ^^^ Int32.ofNat b).toInt = ((a ^^^ b : Nat) : Int) := by
  intro a ha b hb
  have hab : a ^^^ b < 2 ^ 8 := Nat.xor_lt_two_pow (by omega) (by omega)
  have e : Int32.ofNat a ^^^ Int32.ofNat b = Int32.ofNat (a ^^^ b) := by
    apply Int32.toBitVec_inj.mp
    show BitVec.ofNat 32 a ^^^ BitVec.ofNat 32 b = BitVec.ofNat 32 (a ^^^ b)
    exact (BitVec.ofNat_xor).symm
  rw [e]
  exact (Int32.toInt_ofNat_of_lt (by omega)).trans rfl
theorem bt_tb (a k : Nat) : bt (a : Int) (k : Int) = if a.testBit k = true then 1 else 0 := by
  unfold bt pw
  rw [show ((k : Int)).toNat = k by omega]
  rw [Nat.testBit_eq_decide_div_mod_eq]
  have e : ((a : Int) / 2 ^ k % 2) = ((a / 2 ^ k % 2 : Nat) : Int) := by
    rw [Int.natCast_emod, Int.natCast_ediv, Int.natCast_pow]; rfl
  rw [e]
  have h : a / 2 ^ k % 2 < 2 := Nat.mod_lt _ (by decide)
  by_cases z : a / 2 ^ k % 2 = 1
  · rw [z]; simp
  · rw [show a / 2 ^ k % 2 = 0 by omega]; simp
theorem B8.or {v w : Int32} {f g : Nat → Int} (h : B8 v f) (k : B8 w g) : B8 (v ||| w) (fun j => if f j = 1 ∨ g j = 1 then 1 else 0) := by
  obtain ⟨a, ha, rfl, ea⟩ := i32_nat (n := 256) h.1 (by have := h.2.1; omega) (by omega)
  obtain ⟨b, hb, rfl, eb⟩ := i32_nat (n := 256) k.1 (by have := k.2.1; omega) (by omega)
  have hab : a ||| b < 2 ^ 8 := Nat.or_lt_two_pow (by omega) (by omega)
  have e := b8_or a ha b hb
  refine ⟨by rw [e]; omega, by rw [e]; omega, fun j hj => ?_⟩
  have h3 := h.2.2 j hj
  have k3 := k.2.2 j hj
  rw [ea, bt_tb] at h3
  rw [eb, bt_tb] at k3
  show _ = if f j = 1 ∨ g j = 1 then (1 : Int) else 0
  rw [e, bt_tb, Nat.testBit_or, ← h3, ← k3]
  cases a.testBit j <;> cases b.testBit j <;> simp
theorem B8.xor {v w : Int32} {f g : Nat → Int} (h : B8 v f) (k : B8 w g) : B8 (v ^^^ w) (fun j => if f j = g j then 0 else 1) := by
  obtain ⟨a, ha, rfl, ea⟩ := i32_nat (n := 256) h.1 (by have := h.2.1; omega) (by omega)
  obtain ⟨b, hb, rfl, eb⟩ := i32_nat (n := 256) k.1 (by have := k.2.1; omega) (by omega)
  have hab : a ^^^ b < 2 ^ 8 := Nat.xor_lt_two_pow (by omega) (by omega)
  have e := b8_xor a ha b hb
  refine ⟨by rw [e]; omega, by rw [e]; omega, fun j hj => ?_⟩
  have h3 := h.2.2 j hj
  have k3 := k.2.2 j hj
  rw [ea, bt_tb] at h3
  rw [eb, bt_tb] at k3
  show _ = if f j = g j then (0 : Int) else 1
  rw [e, bt_tb, Nat.testBit_xor, ← h3, ← k3]
  cases a.testBit j <;> cases b.testBit j <;> simp
theorem B8.z {v : Int32} (h : v.toInt = 0) : B8 v (fun _ => 0) := by
  obtain rfl : v = 0 := Int32.toInt_inj.mp (h.trans rfl)
  exact ⟨by decide, by decide, by decide⟩
theorem b8_sh : ∀ k : Nat, k < 8 → 0 ≤ ((1 : Int32) <<< (Int32.ofNat k &&& 31)).toInt ∧ ((1 : Int32) <<< (Int32.ofNat k &&& 31)).toInt ≤ 255 ∧ ∀ h : Nat, h < 8 → bt ((1 : Int32) <<< (Int32.ofNat k &&& 31)).toInt (h : Int) = if h = k then 1 else 0 := by decide +kernel
theorem B8.sh {o v : Int32} {c : Nat} (ho : o.toInt = 1) (hv : v.toInt = (c : Int)) (hc : c < 8) : B8 (o <<< (v &&& 31)) (fun j => if j = c then 1 else 0) := by
  obtain rfl : o = 1 := Int32.toInt_inj.mp (ho.trans rfl)
  obtain ⟨a, ha, rfl, ea⟩ := i32_nat (n := 8) (x := v) (by omega) (by omega) (by omega)
  obtain rfl : a = c := by omega
  exact b8_sh a ha
/-- the four bits at y -/
def nbW (w y : Int32) : Int32 := ((w.toUInt32 >>> (y.toUInt32 &&& Int32.toUInt32 31)).toInt32) &&& 15
theorem nbW_or (w x y : Int32) : nbW (w ||| x) y = nbW w y ||| nbW x y := by
  apply Int32.toBitVec_inj.mp
  show (((w.toBitVec ||| x.toBitVec) >>> _) &&& _ : BitVec 32) = ((w.toBitVec >>> _) &&& _) ||| ((x.toBitVec >>> _) &&& _)
  simp only [BitVec.ushiftRight_eq', BitVec.ushiftRight_or_distrib, BitVec.and_or_distrib_right]
theorem nb_one : ∀ t : Nat, t < 6 → ∀ c : Nat, c < 8 → ∀ k : Nat, k < 8 → nbW (Int32.ofNat t <<< (Int32.ofNat (4 * c) &&& 31)) (Int32.ofNat (4 * k)) = if k = c then Int32.ofNat t else 0 := by decide +kernel
def Nib (w : Int32) (f : Nat → Int) : Prop := ∀ k : Nat, k < 8 → (nbW w (Int32.ofNat (4 * k))).toInt = if f k = -2 then 0 else f k + 1
theorem Nib.cg {v : Int32} {f g : Nat → Int} (h : Nib v f) (e : ∀ k : Nat, k < 8 → g k = f k) : Nib v g := fun k hk => by rw [e k hk]; exact h k hk
theorem Nib.z {v : Int32} (h : v.toInt = 0) : Nib v (fun _ => -2) := by
  obtain rfl : v = 0 := Int32.toInt_inj.mp (h.trans rfl)
  intro k hk
  rw [if_pos rfl]
  exact (by decide : ∀ k : Nat, k < 8 → (nbW 0 (Int32.ofNat (4 * k))).toInt = 0) k hk
theorem i6_or : ∀ a : Nat, a < 6 → ((0 : Int32) ||| Int32.ofNat a).toInt = (a : Int) := by decide
theorem Nib.up {w x y : Int32} {f : Nat → Int} {c : Nat} {t : Int} (h : Nib w f) (hc : c < 8) (hf : f c = -2) (h0 : 0 ≤ t) (h4 : t ≤ 4) (hx : x.toInt = t + 1) (hy : y.toInt = 4 * (c : Int)) : Nib (w ||| (x <<< (y &&& 31))) (fun k => if k = c then t else f k) := by
  obtain ⟨a, ha, rfl, ea⟩ := i32_nat (n := 6) (x := x) (by omega) (by omega) (by omega)
  obtain ⟨b, hb, rfl, eb⟩ := i32_nat (n := 29) (x := y) (by omega) (by omega) (by omega)
  obtain rfl : b = 4 * c := by omega
  intro k hk
  rw [nbW_or, nb_one a ha c hc k hk]
  have hw := h k hk
  by_cases z : k = c
  · subst z
    rw [if_pos rfl]
    show _ = if (if k = k then t else f k) = -2 then 0 else (if k = k then t else f k) + 1
    rw [if_pos rfl, if_neg (by omega)]
    rw [if_pos hf] at hw
    rw [show nbW w (Int32.ofNat (4 * k)) = 0 from Int32.toInt_inj.mp (hw.trans rfl), i6_or a ha]; omega
  · rw [if_neg z]
    show _ = if (if k = c then t else f k) = -2 then 0 else (if k = c then t else f k) + 1
    rw [if_neg z, Int32.or_zero]; exact hw
/-- a row's number that grew -/
def RwD (I J : cz_I) (r t : Nat) (D : Int) : Prop := ∃ d : Int32, J r t = I r t + d ∧ d.toInt = D
def RwV (I J : cz_I) (r : Nat) (D : Nat → Int) : Prop := ∀ t : Nat, t < 8 → RwD I J r t (D t)
section CzN2
variable {I J J2 : cz_I} {r t ix : Nat} {D D' : Int}
theorem RwD.z (h : J r t = I r t) (hD : D = 0) : RwD I J r t D := ⟨0, by rw [h]; exact (Int32.add_zero _).symm, by rw [hD]; rfl⟩
theorem RwD.kp (h : RwD I J r t D) (e : J2 r t = J r t) : RwD I J2 r t D := by
  obtain ⟨d, h1, h2⟩ := h
  exact ⟨d, e.trans h1, h2⟩
theorem RwD.cg (h : RwD I J r t D) (e : D' = D) : RwD I J r t D' := e ▸ h
theorem RwD.ad {v w x : Int32} {A : Int} (h : RwD I J r t D) (hv : J r t = v) (hw : w = v + x) (e : J2 r t = w) (hx : x.toInt = A) (hD : D' = D + A) (b1 : -1000 ≤ D ∧ D ≤ 1000) (b2 : -1000 ≤ A ∧ A ≤ 1000) : RwD I J2 r t D' := by
  obtain ⟨d, h1, h2⟩ := h
  refine ⟨d + x, ?_, ?_⟩
  · rw [e, hw, ← hv, h1, Int32.add_assoc]
  · rw [ti_add (by omega) (by omega)]; omega
theorem RwD.tr (h : RwD I J r t D) (g : RwD J J2 r t D') (b1 : -1000 ≤ D ∧ D ≤ 1000) (b2 : -1000 ≤ D' ∧ D' ≤ 1000) : RwD I J2 r t (D + D') := by
  obtain ⟨d, h1, h2⟩ := h
  obtain ⟨d', g1, g2⟩ := g
  exact ⟨d + d', by rw [g1, h1, Int32.add_assoc], by rw [ti_add (by omega) (by omega)]; omega⟩
/-- by numbers, without a turn-over -/
theorem RwD.to {A : Int} (h : RwD I J r t D) (hA : (I r t).toInt = A) (b1 : -100000 ≤ A ∧ A ≤ 100000) (b2 : -1000 ≤ D ∧ D ≤ 1000) : (J r t).toInt = A + D := by
  obtain ⟨d, h1, h2⟩ := h
  rw [h1, ti_add (by omega) (by omega)]; omega
theorem an01 : ∀ a : Nat, a < 2 → ∀ b : Nat, b < 2 → (Int32.ofNat a &&& Int32.ofNat b).toInt = (if a = 1 ∧ b = 1 then 1 else 0) ∧ (Int32.ofNat a &&& (Int32.ofNat b ^^^ (-1))).toInt = (if a = 1 ∧ b = 0 then 1 else 0) := by decide
theorem an_01 {x y : Int32} (hx : 0 ≤ x.toInt ∧ x.toInt ≤ 1) (hy : 0 ≤ y.toInt ∧ y.toInt ≤ 1) : (x &&& y).toInt = if x.toInt = 1 ∧ y.toInt = 1 then 1 else 0 := by
  obtain ⟨a, ha, rfl, ea⟩ := i32_nat (n := 2) hx.1 (by omega) (by omega)
  obtain ⟨b, hb, rfl, eb⟩ := i32_nat (n := 2) hy.1 (by omega) (by omega)
  rw [(an01 a ha b hb).1, ea, eb]
  by_cases p : a = 1 ∧ b = 1
  · rw [if_pos p, if_pos (by omega)]
  · rw [if_neg p, if_neg (by omega)]
theorem ann_01 {x y n : Int32} (hx : 0 ≤ x.toInt ∧ x.toInt ≤ 1) (hy : 0 ≤ y.toInt ∧ y.toInt ≤ 1) (hn : n.toInt = -1) : (x &&& (y ^^^ n)).toInt = if x.toInt = 1 ∧ y.toInt = 0 then 1 else 0 := by
  obtain rfl : n = -1 := Int32.toInt_inj.mp (hn.trans rfl)
  obtain ⟨a, ha, rfl, ea⟩ := i32_nat (n := 2) hx.1 (by omega) (by omega)
  obtain ⟨b, hb, rfl, eb⟩ := i32_nat (n := 2) hy.1 (by omega) (by omega)
  rw [(an01 a ha b hb).2, ea, eb]
  by_cases p : a = 1 ∧ b = 0
  · rw [if_pos p, if_pos (by omega)]
  · rw [if_neg p, if_neg (by omega)]
end CzN2
section CzN3
variable {T : Nat → Nat} {cn : Nat} {K N : Nat → Nat} {d d1 : Int} {I J J1 J2 I9 : cz_I} {R R' R1 R2 : cz_R} {n al sk r k i q ix : Nat} {wi wr : List Nat} {Z : cz_N} {c : Nat → Int} {E : Nat → Nat → Int} {m : Nat}
def rdn (r : Nat) : Bool := Nat.ble 44 r && Nat.ble r 52
/-- of nights and their rows none but n's was written -/
def FrN (R : cz_R) (n : Nat) (T : Nat → Nat) (I J : cz_I) : Prop := (∀ a j, T a = 13 → ¬ a = n → J a j = I a j) ∧ ∀ a j, rdn (T a) = true → (∀ k, 3 ≤ k → k ≤ 11 → ¬ R n k = some a) → J a j = I a j
theorem FrN.rf : FrN R n T I I := ⟨fun _ _ _ _ => rfl, fun _ _ _ _ => rfl⟩
theorem FrN.tr (h : FrN R n T I J) (g : FrN R n T J J2) : FrN R n T I J2 := ⟨fun a j ta hn => (g.1 a j ta hn).trans (h.1 a j ta hn), fun a j ta hn => (g.2 a j ta hn).trans (h.2 a j ta hn)⟩
theorem FrN.put (h : FrN R n T I J) (f : ∀ a j, ¬ (a = k ∧ j = i) → J2 a j = J a j) (hk : T k = q) (hq : (Nat.beq q 13 || rdn q) = false) : FrN R n T I J2 := by
  have n13 : ¬ q = 13 := fun z => by subst z; cases hq
  have nr : ¬ rdn q = true := fun z => by rw [z, Bool.or_true] at hq; cases hq
  exact ⟨fun a j ta hn => (f a j (fun z => by rw [z.1, hk] at ta; exact n13 ta)).trans (h.1 a j ta hn), fun a j ta hn => (f a j (fun z => by rw [z.1, hk] at ta; exact nr ta)).trans (h.2 a j ta hn)⟩
theorem FrN.po (h : FrN R n T I J) (f : ∀ a j, ¬ (a = k ∧ j = i) → J2 a j = J a j) (hk : k = n) (tk : T n = 13) : FrN R n T I J2 := by
  subst hk
  exact ⟨fun a j ta hn => (f a j (fun z => hn z.1)).trans (h.1 a j ta hn), fun a j ta hn => (f a j (fun z => by rw [z.1, tk] at ta; cases ta)).trans (h.2 a j ta hn)⟩
theorem FrN.pu {s : Nat} (h : FrN R n T I J) (f : ∀ a j, ¬ (a = k ∧ j = i) → J2 a j = J a j) (h1 : 3 ≤ s) (h2 : s ≤ 11) (ho : R n s = some k) (hk : T k = q) (hq : ¬ q = 13) : FrN R n T I J2 :=
  ⟨fun a j ta hn => (f a j (fun z => by rw [z.1, hk] at ta; exact hq ta)).trans (h.1 a j ta hn), fun a j ta hn => (f a j (fun z => hn s h1 h2 (by rw [z.1]; exact ho))).trans (h.2 a j ta hn)⟩
/-- all of a row was written -/
theorem FrN.pa {s : Nat} (h : FrN R n T I J) (f : ∀ a j, ¬ a = k → J2 a j = J a j) (h1 : 3 ≤ s) (h2 : s ≤ 11) (ho : R n s = some k) (hk : T k = q) (hq : ¬ q = 13) : FrN R n T I J2 :=
  ⟨fun a j ta hn => (f a j (fun z => by rw [z, hk] at ta; exact hq ta)).trans (h.1 a j ta hn), fun a j ta hn => (f a j (fun z => hn s h1 h2 (by rw [z]; exact ho))).trans (h.2 a j ta hn)⟩
theorem FrN.st (h : FrN R n T I J) (g : St T cn K N d1 wi wr J R1 J2 R2) (hw : wi.all (fun c => !(Nat.beq (c / 64) 13 || rdn (c / 64))) = true) : FrN R n T I J2 :=
  ⟨fun a j ta hn => (g.2.1 a j (wm_p (p := fun r => !(Nat.beq r 13 || rdn r)) hw (by rw [ta]; rfl))).trans (h.1 a j ta hn), fun a j ta hn => (g.2.1 a j (wm_p (p := fun r => !(Nat.beq r 13 || rdn r)) hw (by rw [ta, Bool.or_true]; rfl))).trans (h.2 a j ta hn)⟩
theorem FrN.rc (h : FrN R n T I J) (r : ∀ k, 3 ≤ k → k ≤ 11 → R' n k = R n k) : FrN R' n T I J := ⟨h.1, fun a j ta hn => h.2 a j ta (fun k k1 k2 => by rw [← r k k1 k2]; exact hn k k1 k2)⟩
/-- what a night reads of its sky -/
def SkZ (I : cz_I) (R : cz_R) (sk : Nat) (Z : cz_N) : Prop :=
  (∀ r, R sk 2 = some r → ∀ m : Nat, (m : Int) < nzc Z 0 → (I r m).toInt = nzE Z m) ∧
  (∀ r, R sk 8 = some r → ∀ m : Nat, (m : Int) < nzc Z 0 → Bts (I r m) (fun h => nzC Z (h : Int) m)) ∧
  (∀ r, R sk 9 = some r → ∀ m : Nat, (m : Int) < nzc Z 0 → Bts (I r m) (fun h => nzS Z (h : Int) m)) ∧
  Bts (I sk 1) (fun h => if (h : Int) < nzc Z 1 then 1 else 0) ∧
  (∀ r3 r5, R sk 3 = some r3 → R sk 5 = some r5 → ∀ m : Nat, (m : Int) < nzc Z 0 → ∃ g : Nat → Int, Bts (I r5 m) g ∧ ∀ h : Nat, h < 4 → nzK Z (h : Int) m = if ¬ (I r3 m).toInt = 0 ∧ nzE Z m = 0 ∧ (h : Int) < nzc Z 1 ∧ g h = 0 then 1 else 0) ∧
  ∃ f : Nat → Int, (∀ m, f m = 0 ∨ f m = 1) ∧ (∀ m : Nat, (m : Int) < nzc Z 0 → f m = 0 → quZ Z m) ∧ (I sk 10).toInt = cnM f (nzc Z 0).toNat ∧ ∀ r, R sk 11 = some r → ∀ m : Nat, (m : Int) < nzc Z 0 → f m = 1 → (I r (cnM f m).toNat).toInt = m
def skz (q : Nat) : Bool := Nat.beq q 12 || (Nat.ble 35 q && Nat.ble q 43)
theorem SkZ.cg (h : SkZ I R sk Z) (hW : Wf T cn K N I9 R d) (ts : T sk = 12) (e : ∀ a j, skz (T a) = true → J a j = I a j) : SkZ J R sk Z := by
  obtain ⟨h1, h2, h3, h4, h5, f, f1, f2, f3, f4⟩ := h
  have k1 : ∀ a j, T a = 12 → J a j = I a j := fun a j ta => e a j (by rw [ta]; rfl)
  refine ⟨fun r hr m hm => ?_, fun r hr m hm => ?_, fun r hr m hm => ?_, ?_, fun r3 r5 hr3 hr5 m hm => ?_, f, f1, f2, ?_, fun r hr m hm hf => ?_⟩
  · rw [e r m (by rw [show T r = 35 from hW.rs ts rfl rfl hr]; rfl)]; exact h1 r hr m hm
  · rw [e r m (by rw [show T r = 41 from hW.rs ts rfl rfl hr]; rfl)]; exact h2 r hr m hm
  · rw [e r m (by rw [show T r = 42 from hW.rs ts rfl rfl hr]; rfl)]; exact h3 r hr m hm
  · rw [k1 sk 1 ts]; exact h4
  · rw [e r3 m (by rw [show T r3 = 36 from hW.rs ts rfl rfl hr3]; rfl), e r5 m (by rw [show T r5 = 38 from hW.rs ts rfl rfl hr5]; rfl)]; exact h5 r3 r5 hr3 hr5 m hm
  · rw [k1 sk 10 ts]; exact f3
  · rw [e r _ (by rw [show T r = 43 from hW.rs ts rfl rfl hr]; rfl)]; exact f4 r hr m hm hf
theorem SkZ.rc (h : SkZ I R sk Z) (r : ∀ j, R' sk j = R sk j) : SkZ I R' sk Z := by
  obtain ⟨h1, h2, h3, h4, h5, f, f1, f2, f3, f4⟩ := h
  exact ⟨fun a hr => h1 a (by rw [← r]; exact hr), fun a hr => h2 a (by rw [← r]; exact hr), fun a hr => h3 a (by rw [← r]; exact hr), h4, fun a b hr hs => h5 a b (by rw [← r]; exact hr) (by rw [← r]; exact hs), f, f1, f2, f3, fun a hr => f4 a (by rw [← r]; exact hr)⟩
theorem CVa.cg (h : CVa I R al c E) (hW : Wf T cn K N I9 R d) (ta : T al = 2) (e2 : ∀ j, J al j = I al j) (e : ∀ a j, rdc (T a) = true → J a j = I a j) : CVa J R al c E := by
  obtain ⟨h1, h2, h3, h4, h5⟩ := h
  exact ⟨by rw [e2]; exact h1, fun k hk => by rw [e2]; exact h2 k hk, by rw [e2]; exact h3, by rw [e2]; exact h4, h5.kp hW ta (e2 7) e⟩
theorem CVa.rc (h : CVa I R al c E) (hW : Wf T cn K N I9 R d) (ta : T al = 2) (r : ∀ a j, ¬ T a = 13 → R' a j = R a j) : CVa I R' al c E := by
  obtain ⟨h1, h2, h3, h4, h5⟩ := h
  exact ⟨h1, h2, h3, h4, h5.cr hW ta (fun j => r al j (by omega)) (fun a j ra => r a j (by unfold Rr at ra; omega))⟩
/-- what a night reads -/
def NgP (I : cz_I) (R : cz_R) (n : Nat) (Z : cz_N) : Prop := ∀ al sk, R n 0 = some al → R n 1 = some sk → CVa I R al (nzc Z) (nzT Z) ∧ SkZ I R sk Z ∧ (I n 2).toInt = nzM Z
def ngr (q : Nat) : Bool := Nat.beq q 2 || rdc q || skz q
theorem NgP.cg (h : NgP I R n Z) (hW : Wf T cn K N I9 R d) (tn : T n = 13) (e : ∀ a j, ngr (T a) = true → J a j = I a j) (e2 : J n 2 = I n 2) : NgP J R n Z := by
  intro al sk h0 h1
  obtain ⟨a1, a2, a3⟩ := h al sk h0 h1
  have ta : T al = 2 := hW.rs tn rfl rfl h0
  have ts : T sk = 12 := hW.rs tn rfl rfl h1
  exact ⟨a1.cg hW ta (fun j => e al j (by rw [ta]; rfl)) (fun a j ra => e a j (by unfold ngr; rw [ra, Bool.or_true, Bool.true_or])), a2.cg hW ts (fun a j ra => e a j (by unfold ngr; rw [ra, Bool.or_true])), by rw [e2]; exact a3⟩
theorem NgP.st (h : NgP I R n Z) (hW : Wf T cn K N I9 R d) (tn : T n = 13) (g : St T cn K N d1 wi wr I R1 J R2) (c : wi.all (fun c => !(ngr (c / 64))) = true) (c2 : wm wi 13 2 = false) : NgP J R n Z :=
  h.cg hW tn (fun a j ta => g.2.1 a j (wm_p (p := fun r => !(ngr r)) c (by rw [ta]; rfl))) (g.cell tn c2)
/-- rows of numbers as they must be: turners, CALLS, cheeses, the almanac, prices -/
def GdN (Z : cz_N) : Prop :=
  (0 ≤ nzc Z 0 ∧ nzc Z 0 ≤ 240) ∧ (0 ≤ nzc Z 1 ∧ nzc Z 1 ≤ 4) ∧ (0 ≤ nzc Z 3 ∧ nzc Z 3 ≤ 8) ∧ (0 ≤ nzc Z 4 ∧ nzc Z 4 ≤ 5) ∧ (0 ≤ nzc Z 5 ∧ nzc Z 5 ≤ 6) ∧
  (∀ t : Nat, (t : Int) < nzc Z 4 → (0 ≤ nzT Z (14 + t) 0 ∧ nzT Z (14 + t) 0 ≤ 3) ∧ (0 ≤ nzT Z (14 + t) 1 ∧ 0 ≤ nzT Z (14 + t) 2 ∧ nzT Z (14 + t) 2 ≤ 240) ∧ (1 ≤ nzT Z (14 + t) 3 ∧ nzT Z (14 + t) 3 ≤ 8) ∧ (1 ≤ nzT Z (14 + t) 4 ∧ nzT Z (14 + t) 4 ≤ 20) ∧ 0 ≤ nzT Z (14 + t) 5 ∧ nzT Z (14 + t) 5 ≤ 15) ∧
  (∀ k : Nat, (k : Int) < nzc Z 5 → (0 ≤ nzT Z (19 + k) 0 ∧ nzT Z (19 + k) 0 ≤ 4) ∧ (0 ≤ nzT Z (19 + k) 1 ∧ nzT Z (19 + k) 1 ≤ 239) ∧ (1 ≤ nzT Z (19 + k) 2 ∧ nzT Z (19 + k) 2 ≤ 60) ∧ 0 ≤ nzT Z (19 + k) 3 ∧ nzT Z (19 + k) 3 ≤ 99) ∧
  (∀ k : Nat, (k : Int) < nzc Z 3 → 0 ≤ nzT Z 35 k ∧ nzT Z 35 k < nzc Z 1) ∧ (0 ≤ nzT Z 29 0 ∧ nzT Z 29 0 ≤ 8) ∧ (∀ j : Nat, j < 5 → 0 ≤ nzT Z 36 j ∧ nzT Z 36 j ≤ 99) ∧ (0 ≤ nzc Z 9 ∧ nzc Z 9 < pw (nzc Z 3)) ∧ (0 ≤ nzM Z ∧ nzM Z ≤ 63) ∧ (0 ≤ nzW Z ∧ nzW Z ≤ 31) ∧ ∀ k : Nat, (k : Int) < nzc Z 3 → nzT Z 37 k = 1 - bt (nzc Z 9) (k : Int)
/-- rows of a night, minutes below M played -/
def NgR (I : cz_I) (R : cz_R) (n : Nat) (Z : cz_N) (M : Nat) : Prop :=
  (∀ r, R n 3 = some r → ∀ m : Nat, m < 240 → Nib (I r m) (fun k => if m < M ∧ (k : Int) < nzc Z 3 then nB Z m k else -2)) ∧
  (∀ r, R n 4 = some r → ∀ k : Nat, (k : Int) < nzc Z 3 → (I r k).toInt = qR Z k M) ∧
  (∀ r, R n 5 = some r → ∀ k : Nat, (k : Int) < nzc Z 3 → (I r k).toInt = qW Z k M) ∧
  (∀ r, R n 6 = some r → ∀ k : Nat, (k : Int) < nzc Z 3 → (I r k).toInt = qM Z k M) ∧
  (∀ r, R n 7 = some r → ∀ k : Nat, (k : Int) < nzc Z 3 → (I r k).toInt = qK Z k M) ∧
  (∀ r, R n 8 = some r → ∀ t : Nat, (t : Int) < nzc Z 4 → (I r t).toInt = qT Z t M) ∧
  (∀ r, R n 9 = some r → ∀ t : Nat, (t : Int) < nzc Z 4 → (I r t).toInt = qS Z t M) ∧
  (∀ r, R n 10 = some r → ∀ t : Nat, (t : Int) < nzc Z 4 → (I r t).toInt = qN Z t M) ∧
  (∀ r, R n 11 = some r → ∀ t : Nat, (t : Int) < nzc Z 4 → (I r t).toInt = nF Z M t)
theorem NgR.qu (h : NgR I R n Z m) (q : quZ Z m) : NgR I R n Z (m + 1) := by
  obtain ⟨h3, h4, h5, h6, h7, h8, h9, h10, h11⟩ := h
  refine ⟨fun r hr j hj => (h3 r hr j hj).cg (fun k hk => ?_), fun r hr k hk => by rw [qR_q q hk]; exact h4 r hr k hk, fun r hr k hk => by rw [qW_q q hk]; exact h5 r hr k hk, fun r hr k hk => by rw [qM_q q hk]; exact h6 r hr k hk, fun r hr k hk => by rw [qK_q q hk]; exact h7 r hr k hk, fun r hr k hk => by rw [qT_q q]; exact h8 r hr k hk, fun r hr k hk => by rw [qS_q q]; exact h9 r hr k hk, fun r hr k hk => by rw [qN_q q]; exact h10 r hr k hk, fun r hr k hk => by rw [nF_q q]; exact h11 r hr k hk⟩
  by_cases z : j < m ∧ (k : Int) < nzc Z 3
  · rw [if_pos z, if_pos ⟨by omega, z.2⟩]
  · rw [if_neg z]
    by_cases y : j < m + 1 ∧ (k : Int) < nzc Z 3
    · rw [if_pos y]
      obtain rfl : j = m := by omega
      exact nB_q q y.2
    · rw [if_neg y]
theorem NgR.kp (h : NgR I R n Z m) (e : ∀ r j s, 3 ≤ s → s ≤ 11 → R n s = some r → J r j = I r j) : NgR J R n Z m := by
  obtain ⟨h3, h4, h5, h6, h7, h8, h9, h10, h11⟩ := h
  exact ⟨fun r hr j hj => by rw [e r j 3 (by omega) (by omega) hr]; exact h3 r hr j hj, fun r hr k hk => by rw [e r k 4 (by omega) (by omega) hr]; exact h4 r hr k hk, fun r hr k hk => by rw [e r k 5 (by omega) (by omega) hr]; exact h5 r hr k hk, fun r hr k hk => by rw [e r k 6 (by omega) (by omega) hr]; exact h6 r hr k hk, fun r hr k hk => by rw [e r k 7 (by omega) (by omega) hr]; exact h7 r hr k hk, fun r hr k hk => by rw [e r k 8 (by omega) (by omega) hr]; exact h8 r hr k hk, fun r hr k hk => by rw [e r k 9 (by omega) (by omega) hr]; exact h9 r hr k hk, fun r hr k hk => by rw [e r k 10 (by omega) (by omega) hr]; exact h10 r hr k hk, fun r hr k hk => by rw [e r k 11 (by omega) (by omega) hr]; exact h11 r hr k hk⟩
/-- the next minute that stirs -/
theorem NgR.ad {f : Nat → Int} {mi : Nat} (f1 : ∀ m, f m = 0 ∨ f m = 1) (f2 : ∀ m : Nat, m < mi → f m = 0 → quZ Z m) : ∀ (x M : Nat), M + x = mi → NgR I R n Z M → ∀ (v : Int32), B8 v (fun k => if (k : Int) < nzc Z 3 then nV Z k M else 0) → cnM f M < cnM f mi → ∃ M', M ≤ M' ∧ M' < mi ∧ f M' = 1 ∧ cnM f M' = cnM f M ∧ NgR I R n Z M' ∧ B8 v (fun k => if (k : Int) < nzc Z 3 then nV Z k M' else 0)
  | 0, M, h, _, _, _, hc => by rw [show M = mi by omega] at hc; omega
  | x + 1, M, h, hN, v, hV, hc => by
    rcases f1 M with z | z
    · have hq := f2 M (by omega) z
      have e : cnM f (M + 1) = cnM f M := by rw [cnM, z]; omega
      obtain ⟨M', a1, a2, a3, a4, a5, a6⟩ := NgR.ad f1 f2 x (M + 1) (by omega) (hN.qu hq) v (hV.cg (fun k hk => by
        by_cases y : (k : Int) < nzc Z 3
        · rw [if_pos y, if_pos y, nV_q hq y]
        · rw [if_neg y, if_neg y])) (by rw [e]; exact hc)
      exact ⟨M', by omega, a2, a3, by rw [a4, e], a5, a6⟩
    · exact ⟨M, Nat.le_refl _, by omega, z, rfl, hN, hV⟩
/-- none is left -/
theorem NgR.en {f : Nat → Int} {mi : Nat} (f1 : ∀ m, f m = 0 ∨ f m = 1) (f2 : ∀ m : Nat, m < mi → f m = 0 → quZ Z m) : ∀ (x M : Nat), M + x = mi → NgR I R n Z M → cnM f mi ≤ cnM f M → NgR I R n Z mi
  | 0, M, h, hN, _ => by rw [show mi = M by omega]; exact hN
  | x + 1, M, h, hN, hc => by
    have mo := cnM_le (f := f) (fun k => by rcases f1 k with z | z <;> omega) mi (M + 1) (by omega)
    rcases f1 M with z | z
    · have e : cnM f (M + 1) = cnM f M := by rw [cnM, z]; omega
      exact NgR.en f1 f2 x (M + 1) (by omega) (hN.qu (f2 M (by omega) z)) (by omega)
    · have e : cnM f (M + 1) = cnM f M + 1 := by rw [cnM, z]
      omega
end CzN3
section CzN4
variable {T : Nat → Nat} {cn : Nat} {K N : Nat → Nat} {d d1 : Int} {I J J1 J2 I9 : cz_I} {R R' R1 R2 : cz_R} {n al sk r k i q ix V ob o m : Nat} {wi wr : List Nat} {Z : cz_N} {c : Nat → Int} {E : Nat → Nat → Int}
/-! an ALP's rows as the night reads them -/
theorem CVa.ct (h : CVa I R al c E) : (I al 0).toInt = c 0 ∧ (I al 1).toInt = c 1 ∧ (I al 5).toInt = c 3 ∧ (I al 9).toInt = c 4 ∧ (I al 11).toInt = c 5 ∧ (I al 7).toInt = c 9 :=
  ⟨h.1, h.2.1 1 (by omega), h.2.1 3 (by omega), h.2.1 4 (by omega), h.2.2.2.1, h.2.2.2.2.1⟩
theorem CVa.ca (h : CVa I R al c E) (hV : R al 12 = some V) (hk : (k : Int) < c 5) (h6 : c 5 ≤ 6) (ho : R V k = some ob) : (I ob 0).toInt = E (19 + k) 0 ∧ (I ob 1).toInt = E (19 + k) 1 ∧ (I ob 2).toInt = E (19 + k) 2 ∧ (I ob 3).toInt = E (19 + k) 3 := by
  have z : ∀ f : Nat, f < 4 → (I ob f).toInt = E (19 + k) f := fun f hf => h.2.2.2.2.2 (19 + k) f ob (by omega) (by unfold Db; rw [if_neg (by omega), if_neg (by omega), if_pos (by omega), if_pos (by omega)]; omega) (ObC hV (by omega) ho)
  exact ⟨z 0 (by omega), z 1 (by omega), z 2 (by omega), z 3 (by omega)⟩
theorem CVa.tu (h : CVa I R al c E) (hV : R al 10 = some V) (hk : (k : Int) < c 4) (h5 : c 4 ≤ 5) (ho : R V k = some ob) : (I ob 0).toInt = E (14 + k) 0 ∧ (I ob 1).toInt = E (14 + k) 1 ∧ (I ob 2).toInt = E (14 + k) 2 ∧ (I ob 3).toInt = E (14 + k) 3 ∧ (I ob 4).toInt = E (14 + k) 4 ∧ (I ob 5).toInt = E (14 + k) 5 := by
  have z : ∀ f : Nat, f < 6 → (I ob f).toInt = E (14 + k) f := fun f hf => h.2.2.2.2.2 (14 + k) f ob (by omega) (by unfold Db; rw [if_neg (by omega), if_pos (by omega), if_pos (by omega)]; omega) (ObT hV (by omega) ho)
  exact ⟨z 0 (by omega), z 1 (by omega), z 2 (by omega), z 3 (by omega), z 4 (by omega), z 5 (by omega)⟩
theorem CVa.hu (h : CVa I R al c E) (hr : R al 6 = some r) (hk : (k : Int) < c 3) : (I r k).toInt = E 35 k :=
  h.2.2.2.2.2 35 k r (by omega) (by unfold Db; rw [if_neg (by omega), if_neg (by omega), if_neg (by omega), if_neg (by omega), if_neg (by omega), if_neg (by omega), if_neg (by omega), if_pos rfl]; exact hk) (ObH hr)
theorem CVa.an (h : CVa I R al c E) (ho : R al 8 = some o) : (I o 0).toInt = E 29 0 :=
  h.2.2.2.2.2 29 0 o (by omega) (by unfold Db; rw [if_neg (by omega), if_neg (by omega), if_neg (by omega), if_neg (by omega), if_pos rfl]; omega) (by unfold Ob; rw [if_neg (by omega), if_neg (by omega), if_neg (by omega), if_neg (by omega), if_pos rfl]; exact ho)
theorem CVa.ar (h : CVa I R al c E) (ho : R al 8 = some o) (hr : R o 1 = some r) (hk : (k : Int) < E 29 0) : (I r k).toInt = E 34 k :=
  h.2.2.2.2.2 34 k r (by omega) (by unfold Db; rw [if_neg (by omega), if_neg (by omega), if_neg (by omega), if_neg (by omega), if_neg (by omega), if_neg (by omega), if_pos rfl]; exact hk) (by unfold Ob; rw [if_neg (by omega), if_neg (by omega), if_neg (by omega), if_neg (by omega), if_neg (by omega), if_neg (by omega), if_pos rfl, ho]; exact hr)
theorem CVa.pr (h : CVa I R al c E) (hr : R al 2 = some r) (hk : k < 5) (h0 : 1 ≤ c 0) : (I r k).toInt = E 36 k :=
  h.2.2.2.2.2 36 k r (by omega) (by unfold Db; rw [if_neg (by omega), if_neg (by omega), if_neg (by omega), if_neg (by omega), if_neg (by omega), if_neg (by omega), if_neg (by omega), if_neg (by omega), if_pos rfl, if_pos h0]; omega) (by unfold Ob; rw [if_neg (by omega), if_neg (by omega), if_neg (by omega), if_neg (by omega), if_neg (by omega), if_neg (by omega), if_neg (by omega), if_neg (by omega)]; exact hr)
theorem alZ_of {v x : Int} (h : CVa I R al (nzc Z) (nzT Z)) (ho : R al 8 = some o) (hr : R o 1 = some r) (hv : v = exI (fun k => if (I r k).toInt = x then 1 else 0) (I o 0).toInt.toNat) : v = alZ Z x := by
  rw [hv, h.an ho]
  exact exI_cg _ (fun k hk => by rw [h.ar ho hr (k := k) (by omega)])
theorem GdN.tu (h : GdN Z) {t : Nat} (ht : (t : Int) < nzc Z 4) : (0 ≤ nzT Z (14 + t) 0 ∧ nzT Z (14 + t) 0 ≤ 3) ∧ (0 ≤ nzT Z (14 + t) 1 ∧ 0 ≤ nzT Z (14 + t) 2 ∧ nzT Z (14 + t) 2 ≤ 240) ∧ (1 ≤ nzT Z (14 + t) 3 ∧ nzT Z (14 + t) 3 ≤ 8) ∧ (1 ≤ nzT Z (14 + t) 4 ∧ nzT Z (14 + t) 4 ≤ 20) ∧ 0 ≤ nzT Z (14 + t) 5 ∧ nzT Z (14 + t) 5 ≤ 15 := h.2.2.2.2.2.1 t ht
theorem GdN.ca (h : GdN Z) {k : Nat} (hk : (k : Int) < nzc Z 5) : (0 ≤ nzT Z (19 + k) 0 ∧ nzT Z (19 + k) 0 ≤ 4) ∧ (0 ≤ nzT Z (19 + k) 1 ∧ nzT Z (19 + k) 1 ≤ 239) ∧ (1 ≤ nzT Z (19 + k) 2 ∧ nzT Z (19 + k) 2 ≤ 60) ∧ 0 ≤ nzT Z (19 + k) 3 ∧ nzT Z (19 + k) 3 ≤ 99 := h.2.2.2.2.2.2.1 k hk
theorem GdN.ch (h : GdN Z) {k : Nat} (hk : (k : Int) < nzc Z 3) : 0 ≤ nzT Z 35 k ∧ nzT Z 35 k < nzc Z 1 := h.2.2.2.2.2.2.2.1 k hk
theorem GdN.ac (h : GdN Z) : 0 ≤ nzT Z 29 0 ∧ nzT Z 29 0 ≤ 8 := h.2.2.2.2.2.2.2.2.1
theorem GdN.pr (h : GdN Z) {j : Nat} (hj : j < 5) : 0 ≤ nzT Z 36 j ∧ nzT Z 36 j ≤ 99 := h.2.2.2.2.2.2.2.2.2.1 j hj
theorem pw_mo {c : Int} (hc : 0 ≤ c) : ∀ d : Nat, pw c ≤ pw (c + d)
  | 0 => by rw [show c + ((0 : Nat) : Int) = c by omega]; exact Int.le_refl _
  | d + 1 => by
    have z := pw_mo hc d
    have y := pw_on (q := c + d) (by omega)
    have x := pw_pos (c + d)
    rw [show c + ((d + 1 : Nat) : Int) = c + d + 1 by omega, y]; omega
theorem bt_hi {a c : Int} {k : Nat} (h0 : 0 ≤ a) (h1 : a < pw c) (hc : 0 ≤ c) (hk : c ≤ (k : Int)) : bt a (k : Int) = 0 := by
  have z := pw_mo hc ((k : Int) - c).toNat
  rw [show c + (((k : Int) - c).toNat : Int) = k by omega] at z
  unfold bt; rw [Int.ediv_eq_zero_of_lt h0 (Int.lt_of_lt_of_le h1 z)]; rfl
theorem GdN.up (h : GdN Z) : 0 ≤ nzc Z 9 ∧ nzc Z 9 ≤ 255 := by
  obtain ⟨h1, h2⟩ := h.2.2.2.2.2.2.2.2.2.2.1
  have c3 := h.2.2.1
  have z := pw_mo c3.1 (8 - nzc Z 3).toNat
  rw [show nzc Z 3 + ((8 - nzc Z 3).toNat : Int) = 8 by omega, show pw 8 = 256 from by decide] at z
  exact ⟨h1, by omega⟩
theorem GdN.ub (h : GdN Z) : ∀ k : Nat, k < 8 → ¬ (k : Int) < nzc Z 3 → bt (nzc Z 9) (k : Int) = 0 := fun k _ hk => bt_hi h.2.2.2.2.2.2.2.2.2.2.1.1 h.2.2.2.2.2.2.2.2.2.2.1.2 h.2.2.1.1 (by omega)
theorem GdN.ms (h : GdN Z) : 0 ≤ nzM Z ∧ nzM Z ≤ 63 := h.2.2.2.2.2.2.2.2.2.2.2.1
theorem GdN.ws (h : GdN Z) : 0 ≤ nzW Z ∧ nzW Z ≤ 31 := h.2.2.2.2.2.2.2.2.2.2.2.2.1
theorem GdN.dn (h : GdN Z) {k : Nat} (hk : (k : Int) < nzc Z 3) : nzT Z 37 k = 1 - nV Z k 0 := h.2.2.2.2.2.2.2.2.2.2.2.2.2 k hk
theorem GdN.cs (h : GdN Z) : (0 ≤ nzc Z 0 ∧ nzc Z 0 ≤ 240) ∧ (0 ≤ nzc Z 1 ∧ nzc Z 1 ≤ 4) ∧ (0 ≤ nzc Z 3 ∧ nzc Z 3 ≤ 8) ∧ (0 ≤ nzc Z 4 ∧ nzc Z 4 ≤ 5) ∧ (0 ≤ nzc Z 5 ∧ nzc Z 5 ≤ 6) := ⟨h.1, h.2.1, h.2.2.1, h.2.2.2.1, h.2.2.2.2.1⟩
end CzN4
section CzN5
variable {I J J2 I9 : cz_I} {r t ix : Nat} {b g f : Nat → Int} {l l' H n c3 D A x : Int} {e : Nat → Int} {v w o c y : Int32} {Z : cz_N}
theorem cnM_s {g : Nat → Int} {l l' : Int} (h0 : 0 ≤ l) (hl : l' = l + 1) : cnM g l'.toNat = cnM g l.toNat + g l.toNat := by rw [show l'.toNat = l.toNat + 1 by omega]; rfl
theorem if01 {p : Prop} [Decidable p] : (if p then (1 : Int) else 0) = 0 ∨ (if p then (1 : Int) else 0) = 1 := by
  by_cases h : p
  · exact Or.inr (if_pos h)
  · exact Or.inl (if_neg h)
theorem if01' {g : Nat → Int} (h : ∀ k, g k = 0 ∨ g k = 1) (k : Nat) : g k = 0 ∨ g k = 1 := h k
theorem RwS.no {g : Nat → Int} (h : RwD I J r t (cnM g l.toNat)) (h0 : 0 ≤ l) (hl : l' = l + 1) (hg : g l.toNat = 0) : RwD I J r t (cnM g l'.toNat) := h.cg (by rw [cnM_s h0 hl, hg]; omega)
theorem RwS.ye {g : Nat → Int} {v w x : Int32} (h : RwD I J r t (cnM g l.toNat)) (h0 : 0 ≤ l) (h8 : l ≤ 8) (hl : l' = l + 1) (gb : ∀ k, g k = 0 ∨ g k = 1) (hv : J r t = v) (hw : w = v + x) (e : J2 r t = w) (hx : x.toInt = g l.toNat) : RwD I J2 r t (cnM g l'.toNat) :=
  h.ad hv hw e hx (cnM_s h0 hl) (by have z := cnM_b (g := g) l.toNat (fun k _ => gb k); omega) (by have := gb l.toNat; omega)
/-! one turner's cheeses, one by one -/
theorem TS1 {n' : Int} (h : n = tqN b H e l.toNat) (h0 : 0 ≤ l) (hl : l' = l + 1) (hn : n' = n + tqG b H e l.toNat) : n' = tqN b H e l'.toNat := by
  rw [show l'.toNat = l.toNat + 1 by omega, tqN_s, ← h, hn]
theorem TS2n (h : B8 v (fun k => if (k : Int) < l ∧ g k = 1 then 1 else 0)) (h0 : 0 ≤ l) (hl : l' = l + 1) (hg : g l.toNat = 0) : B8 v (fun k => if (k : Int) < l' ∧ g k = 1 then 1 else 0) := h.cg (fun k hk => by
  by_cases z : k = l.toNat
  · subst z; rw [if_neg (fun w => by omega), if_neg (fun w => by omega)]
  · by_cases y : (k : Int) < l ∧ g k = 1
    · rw [if_pos y, if_pos ⟨by omega, y.2⟩]
    · rw [if_neg y, if_neg (fun w => y ⟨by omega, w.2⟩)])
theorem TS2y (h : B8 v (fun k => if (k : Int) < l ∧ g k = 1 then 1 else 0)) (h0 : 0 ≤ l) (h8 : l < 8) (hl : l' = l + 1) (hg : g l.toNat = 1) (hw : w = v ||| (o <<< (c &&& 31))) (ho : o.toInt = 1) (hc : c.toInt = l) : B8 w (fun k => if (k : Int) < l' ∧ g k = 1 then 1 else 0) := by
  rw [hw]
  refine (h.or (B8.sh (c := l.toNat) ho (by omega) (by omega))).cg (fun k hk => ?_)
  by_cases z : k = l.toNat
  · subst z
    rw [if_pos ⟨by omega, hg⟩]
    show 1 = if _ ∨ (if l.toNat = l.toNat then (1 : Int) else 0) = 1 then (1 : Int) else 0
    rw [if_pos (Or.inr (if_pos rfl))]
  · by_cases y : (k : Int) < l ∧ g k = 1
    · rw [if_pos ⟨by omega, y.2⟩]
      show 1 = if (if (k : Int) < l ∧ g k = 1 then (1 : Int) else 0) = 1 ∨ _ then (1 : Int) else 0
      rw [if_pos (Or.inl (if_pos y))]
    · rw [if_neg (fun w => y ⟨by omega, w.2⟩)]
      show 0 = if (if (k : Int) < l ∧ g k = 1 then (1 : Int) else 0) = 1 ∨ (if k = l.toNat then (1 : Int) else 0) = 1 then (1 : Int) else 0
      rw [if_neg y, if_neg z, if_neg (by decide)]
theorem TS3n (h : Nib w (fun k => if (k : Int) < c3 then (if (k : Int) < l then f k else b k) else -2)) (h0 : 0 ≤ l) (hl : l' = l + 1) (hg : f l.toNat = b l.toNat) : Nib w (fun k => if (k : Int) < c3 then (if (k : Int) < l' then f k else b k) else -2) := h.cg (fun k hk => by
  by_cases q : (k : Int) < c3
  · rw [if_pos q, if_pos q]
    by_cases z : k = l.toNat
    · subst z; rw [if_pos (by omega), if_neg (by omega)]; exact hg
    · by_cases y : (k : Int) < l
      · rw [if_pos y, if_pos (by omega)]
      · rw [if_neg y, if_neg (by omega)]
  · rw [if_neg q, if_neg q])
theorem TS3y {x y : Int32} {u : Int} (h : Nib w (fun k => if (k : Int) < c3 then (if (k : Int) < l then f k else b k) else -2)) (h0 : 0 ≤ l) (h8 : l < 8) (hc : l < c3) (hl : l' = l + 1) (hb : b l.toNat = -2) (hf : f l.toNat = u) (u0 : 0 ≤ u) (u4 : u ≤ 4) (hx : x.toInt = u + 1) (hy : y.toInt = 4 * l) : Nib (w ||| (x <<< (y &&& 31))) (fun k => if (k : Int) < c3 then (if (k : Int) < l' then f k else b k) else -2) := by
  refine (h.up (c := l.toNat) (t := u) (by omega) ?_ u0 u4 hx (by omega)).cg (fun k hk => ?_)
  · show (if ((l.toNat : Nat) : Int) < c3 then (if ((l.toNat : Nat) : Int) < l then f l.toNat else b l.toNat) else -2) = -2
    rw [if_pos (by omega), if_neg (by omega)]; exact hb
  · show (if (k : Int) < c3 then (if (k : Int) < l' then f k else b k) else -2) = if k = l.toNat then u else (if (k : Int) < c3 then (if (k : Int) < l then f k else b k) else -2)
    by_cases z : k = l.toNat
    · subst z; rw [if_pos rfl, if_pos (by omega), if_pos (by omega)]; exact hf
    · rw [if_neg z]
      by_cases q : (k : Int) < c3
      · rw [if_pos q, if_pos q]
        by_cases y : (k : Int) < l
        · rw [if_pos y, if_pos (by omega)]
        · rw [if_neg y, if_neg (by omega)]
      · rw [if_neg q, if_neg q]
theorem TSen (h : n = tqN b H e l.toNat) (h0 : 0 ≤ l) (hl : l ≤ c3) (hd : c3 ≤ l ∨ H ≤ n) : n = tqN b H e c3.toNat ∧ ∀ k : Nat, l ≤ (k : Int) → (k : Int) < c3 → tqG b H e k = 0 := by
  rcases hd with z | z
  · exact ⟨by rw [show c3.toNat = l.toNat by omega]; exact h, fun k h1 h2 => by omega⟩
  · refine ⟨?_, fun k h1 h2 => tqG_st (n := l.toNat) (by omega) (by omega)⟩
    rw [show c3.toNat = l.toNat + (c3.toNat - l.toNat) by omega, tqN_st (by omega)]; exact h
theorem TS2e (h : B8 v (fun k => if (k : Int) < l ∧ tqG b H e k = 1 then 1 else 0)) (hl : l ≤ c3) (q : ∀ k : Nat, l ≤ (k : Int) → (k : Int) < c3 → tqG b H e k = 0) : B8 v (fun k => if (k : Int) < c3 ∧ tqG b H e k = 1 then 1 else 0) := h.cg (fun k hk => by
  by_cases y : (k : Int) < l ∧ tqG b H e k = 1
  · rw [if_pos y, if_pos ⟨by omega, y.2⟩]
  · rw [if_neg y, if_neg (fun w => by
      by_cases z : (k : Int) < l
      · exact y ⟨z, w.2⟩
      · have := q k (by omega) w.1; omega)])
theorem TS3e {u : Int} (h : Nib w (fun k => if (k : Int) < c3 then (if (k : Int) < l then tqB u b H e k else b k) else -2)) (q : ∀ k : Nat, l ≤ (k : Int) → (k : Int) < c3 → tqG b H e k = 0) : Nib w (fun k => if (k : Int) < c3 then tqB u b H e k else -2) := h.cg (fun k hk => by
  by_cases z : (k : Int) < c3
  · rw [if_pos z, if_pos z]
    by_cases y : (k : Int) < l
    · rw [if_pos y]
    · rw [if_neg y]; unfold tqB; rw [q k (by omega) z, if_neg (by decide)]
  · rw [if_neg z, if_neg z])
theorem TS4e (hl : l ≤ c3) (h0 : 0 ≤ l) (q : ∀ k : Nat, l ≤ (k : Int) → (k : Int) < c3 → g k = 0) : cnM g c3.toNat = cnM g l.toNat := by
  have z : ∀ d : Nat, l + d ≤ c3 → cnM g (l.toNat + d) = cnM g l.toNat := fun d => by
    induction d with
    | zero => intro _; rfl
    | succ d ih => intro hd; rw [show l.toNat + (d + 1) = l.toNat + d + 1 by omega, cnM, ih (by omega), q _ (by omega) (by omega)]; omega
  rw [show c3.toNat = l.toNat + (c3.toNat - l.toNat) by omega]
  exact z _ (by omega)
theorem tqB_1 {u : Int} {k : Nat} (h : tqG b H e k = 1) : tqB u b H e k = u := if_pos h
theorem tqB_n {u : Int} {k : Nat} (h : tqG b H e k = 0) : tqB u b H e k = b k := if_neg (by omega)
end CzN5
theorem b4_and : ∀ a : Nat, a < 16 → ∀ b : Nat, b < 16 → 0 ≤ (Int32.ofNat a &&& Int32.ofNat b).toInt ∧ (Int32.ofNat a &&& Int32.ofNat b).toInt ≤ 15 ∧ ∀ h : Nat, h < 4 → bt (Int32.ofNat a &&& Int32.ofNat b).toInt (h : Int) = if bt (a : Int) (h : Int) = 1 ∧ bt (b : Int) (h : Int) = 1 then 1 else 0 := by decide +kernel
section CzN6
variable {I J J2 I9 : cz_I} {r t ix : Nat} {f : Nat → Int} {l l' c3 c4 m x u : Int} {v w o c y : Int32} {Z : cz_N}
theorem and15h (hv : v = w &&& y) (hw : 0 ≤ w.toInt ∧ w.toInt ≤ 15) (hy : 0 ≤ y.toInt ∧ y.toInt ≤ 15) : 0 ≤ v.toInt ∧ v.toInt ≤ 15 ∧ ∀ h : Nat, h < 4 → bt v.toInt (h : Int) = if bt w.toInt (h : Int) = 1 ∧ bt y.toInt (h : Int) = 1 then 1 else 0 := by
  obtain ⟨a, ha, rfl, ea⟩ := i32_nat (n := 16) hw.1 (by omega) (by omega)
  obtain ⟨b, hb, rfl, eb⟩ := i32_nat (n := 16) hy.1 (by omega) (by omega)
  rw [hv, ea, eb]; exact b4_and a ha b hb
theorem akZ_1 {t : Nat} (h1 : bt (nzW Z) (t : Int) = 1) (h2 : f t ≤ m) (h3 : awZ Z t m = 1) : akZ Z m f t = 1 := if_pos ⟨h1, h2, h3⟩
theorem akZ_n {t : Nat} (h : bt (nzW Z) (t : Int) = 1 → f t ≤ m → awZ Z t m = 1 → False) : akZ Z m f t = 0 := if_neg (fun z => h z.1 z.2.1 z.2.2)
theorem if1 {p : Prop} [Decidable p] (h : (if p then (1 : Int) else 0) = 1) : p := by
  by_cases q : p
  · exact q
  · rw [if_neg q] at h; omega
/-- nobody turns there -/
theorem elZ_n {t k : Nat} {H : Int} (hU : ∀ h : Nat, (h : Int) < nzc Z 1 → bt H (h : Int) = if bt (nzT Z (14 + t) 5) (h : Int) = 1 ∧ noZ Z t (h : Int) m = 1 then 1 else 0) (h0 : H = 0) (hG : GdN Z) (hk : (k : Int) < nzc Z 3) : ¬ elZ Z t m k = 1 := by
  intro q
  have b := hG.ch hk
  have z := hU (nzT Z 35 k).toNat (by omega)
  rw [h0, bt_z, show (((nzT Z 35 k).toNat : Nat) : Int) = nzT Z 35 k by omega] at z
  unfold elZ at q
  by_cases y : bt (nzT Z (14 + t) 5) (nzT Z 35 k) = 1 ∧ noZ Z t (nzT Z 35 k) m = 1
  · rw [if_pos y] at z; omega
  · rw [if_neg y] at q; omega
theorem mBi_s (u k : Nat) : mB Z m f (u + 1) k = if akZ Z m f u = 1 then tqB (u : Int) (mB Z m f u) (nzT Z (14 + u) 3) (elZ Z u m) k else mB Z m f u k := rfl
theorem mB_sk {t : Nat} (h : akZ Z m f t = 0 ∨ ∀ k : Nat, (k : Int) < nzc Z 3 → ¬ elZ Z t m k = 1) : ∀ k : Nat, (k : Int) < nzc Z 3 → mB Z m f (t + 1) k = mB Z m f t k ∧ mG Z m f t k = 0 := by
  intro k hk
  rcases h with h | h
  · rw [mBi_s, mG, if_neg (by omega), if_neg (by omega)]; exact ⟨rfl, rfl⟩
  · have g : tqG (mB Z m f t) (nzT Z (14 + t) 3) (elZ Z t m) k = 0 := tqG_n (fun z => h k hk z.2.2)
    rw [mBi_s, mG]
    by_cases a : akZ Z m f t = 1
    · rw [if_pos a, if_pos a, tqB_n g, g]; exact ⟨rfl, rfl⟩
    · rw [if_neg a, if_neg a]; exact ⟨rfl, rfl⟩
theorem mB_tk {t : Nat} (h : akZ Z m f t = 1) (k : Nat) : mB Z m f (t + 1) k = tqB (t : Int) (mB Z m f t) (nzT Z (14 + t) 3) (elZ Z t m) k := by rw [mBi_s, if_pos h]
theorem mG_tk {t : Nat} (h : akZ Z m f t = 1) : mG Z m f t = tqG (mB Z m f t) (nzT Z (14 + t) 3) (elZ Z t m) := by funext k; rw [mG, if_pos h]
theorem mK_tk {t : Nat} (h : akZ Z m f t = 1) : mK Z m f t = tqN (mB Z m f t) (nzT Z (14 + t) 3) (elZ Z t m) (nzc Z 3).toNat := by unfold mK; rw [mG_tk h, tqN_cn]
theorem mS_tk {t : Nat} (h : akZ Z m f t = 1) : mS Z m f t = cnM (fun k => if tqG (mB Z m f t) (nzT Z (14 + t) 3) (elZ Z t m) k = 1 ∧ nzC Z (nzT Z 35 k) m = 1 then 1 else 0) (nzc Z 3).toNat := by unfold mS; rw [mG_tk h]
theorem mK_sk {t : Nat} (h : ∀ k : Nat, (k : Int) < nzc Z 3 → mB Z m f (t + 1) k = mB Z m f t k ∧ mG Z m f t k = 0) : mK Z m f t = 0 := cnM_0 _ (fun k hk => (h k (by omega)).2)
theorem mS_sk {t : Nat} (h : ∀ k : Nat, (k : Int) < nzc Z 3 → mB Z m f (t + 1) k = mB Z m f t k ∧ mG Z m f t k = 0) : mS Z m f t = 0 := cnM_0 _ (fun k hk => if_neg (fun z => by have := (h k (by omega)).2; omega))
theorem mS_b (h8 : nzc Z 3 ≤ 8) (u : Nat) : 0 ≤ mS Z m f u ∧ mS Z m f u ≤ 8 := by
  have z := cnM_b (g := fun k => if mG Z m f u k = 1 ∧ nzC Z (nzT Z 35 k) m = 1 then 1 else 0) (nzc Z 3).toNat (fun k _ => if01)
  unfold mS; omega
/-! the turners, one by one -/
theorem TA1n (h : B8 v (fun k => if (k : Int) < nzc Z 3 ∧ ¬ mB Z m f l.toNat k = -2 then 1 else 0)) (h0 : 0 ≤ l) (hl : l' = l + 1) (q : ∀ k : Nat, (k : Int) < nzc Z 3 → mB Z m f (l.toNat + 1) k = mB Z m f l.toNat k ∧ mG Z m f l.toNat k = 0) : B8 v (fun k => if (k : Int) < nzc Z 3 ∧ ¬ mB Z m f l'.toNat k = -2 then 1 else 0) := h.cg (fun k hk => by
  rw [show l'.toNat = l.toNat + 1 by omega]
  by_cases z : (k : Int) < nzc Z 3
  · rw [(q k z).1]
  · rw [if_neg (fun w => z w.1), if_neg (fun w => z w.1)])
theorem TA1y (h : B8 v (fun k => if (k : Int) < nzc Z 3 ∧ ¬ mB Z m f l.toNat k = -2 then 1 else 0)) (h0 : 0 ≤ l) (hl : l' = l + 1) (a : akZ Z m f l.toNat = 1) (hw : B8 w (fun k => if (k : Int) < nzc Z 3 ∧ tqG (mB Z m f l.toNat) (nzT Z (14 + l.toNat) 3) (elZ Z l.toNat m) k = 1 then 1 else 0)) (ho : o = v ||| w) : B8 o (fun k => if (k : Int) < nzc Z 3 ∧ ¬ mB Z m f l'.toNat k = -2 then 1 else 0) := by
  rw [ho]
  refine (h.or hw).cg (fun k hk => ?_)
  rw [show l'.toNat = l.toNat + 1 by omega, mB_tk a]
  show _ = if (if (k : Int) < nzc Z 3 ∧ ¬ mB Z m f l.toNat k = -2 then (1 : Int) else 0) = 1 ∨ (if (k : Int) < nzc Z 3 ∧ tqG (mB Z m f l.toNat) (nzT Z (14 + l.toNat) 3) (elZ Z l.toNat m) k = 1 then (1 : Int) else 0) = 1 then (1 : Int) else 0
  have hC : ((k : Int) < nzc Z 3 ∧ ¬ tqB ((l.toNat : Nat) : Int) (mB Z m f l.toNat) (nzT Z (14 + l.toNat) 3) (elZ Z l.toNat m) k = -2) ↔ (((k : Int) < nzc Z 3 ∧ ¬ mB Z m f l.toNat k = -2) ∨ ((k : Int) < nzc Z 3 ∧ tqG (mB Z m f l.toNat) (nzT Z (14 + l.toNat) 3) (elZ Z l.toNat m) k = 1)) := by
    have g := tqG_01 (b := mB Z m f l.toNat) (h := nzT Z (14 + l.toNat) 3) (e := elZ Z l.toNat m) k
    constructor
    · intro w
      rcases g with y | y
      · rw [tqB_n y] at w; exact Or.inl w
      · exact Or.inr ⟨w.1, y⟩
    · intro w
      rcases w with w | w
      · rcases g with y | y
        · rw [tqB_n y]; exact w
        · rw [tqB_1 y]; exact ⟨w.1, by omega⟩
      · rw [tqB_1 w.2]; exact ⟨w.1, by omega⟩
  by_cases z : ((k : Int) < nzc Z 3 ∧ ¬ tqB ((l.toNat : Nat) : Int) (mB Z m f l.toNat) (nzT Z (14 + l.toNat) 3) (elZ Z l.toNat m) k = -2)
  · rw [if_pos z]
    rcases hC.mp z with w | w
    · rw [if_pos (Or.inl (if_pos w))]
    · rw [if_pos (Or.inr (if_pos w))]
  · rw [if_neg z, if_neg (fun q => z (hC.mpr (by
      rcases q with q | q
      · exact Or.inl (if1 q)
      · exact Or.inr (if1 q))))]
theorem TA2n (h : Nib v (fun k => if (k : Int) < nzc Z 3 then mB Z m f l.toNat k else -2)) (h0 : 0 ≤ l) (hl : l' = l + 1) (q : ∀ k : Nat, (k : Int) < nzc Z 3 → mB Z m f (l.toNat + 1) k = mB Z m f l.toNat k ∧ mG Z m f l.toNat k = 0) : Nib v (fun k => if (k : Int) < nzc Z 3 then mB Z m f l'.toNat k else -2) := h.cg (fun k hk => by
  rw [show l'.toNat = l.toNat + 1 by omega]
  by_cases z : (k : Int) < nzc Z 3
  · rw [if_pos z, if_pos z, (q k z).1]
  · rw [if_neg z, if_neg z])
theorem TA2y (h : Nib v (fun k => if (k : Int) < nzc Z 3 then tqB l (mB Z m f l.toNat) (nzT Z (14 + l.toNat) 3) (elZ Z l.toNat m) k else -2)) (h0 : 0 ≤ l) (hl : l' = l + 1) (a : akZ Z m f l.toNat = 1) : Nib v (fun k => if (k : Int) < nzc Z 3 then mB Z m f l'.toNat k else -2) := h.cg (fun k hk => by
  rw [show l'.toNat = l.toNat + 1 by omega, mB_tk a, show ((l.toNat : Nat) : Int) = l by omega])
theorem TA3n {g : Nat → Int} (h : ∀ u : Nat, (u : Int) < c4 → RwD I J r u (if (u : Int) < l then g u else 0)) (h0 : 0 ≤ l) (hl : l' = l + 1) (hg : g l.toNat = 0) : ∀ u : Nat, (u : Int) < c4 → RwD I J r u (if (u : Int) < l' then g u else 0) := fun u hu => (h u hu).cg (by
  by_cases z : u = l.toNat
  · subst z; rw [if_pos (by omega), if_neg (by omega)]; exact hg
  · by_cases y : (u : Int) < l
    · rw [if_pos y, if_pos (by omega)]
    · rw [if_neg y, if_neg (by omega)])
theorem TA3y {g : Nat → Int} {A : Int} (h : ∀ u : Nat, (u : Int) < c4 → RwD I J r u (if (u : Int) < l then g u else 0)) (h0 : 0 ≤ l) (h4 : l < c4) (hl : l' = l + 1) (k : RwD J J2 r l.toNat A ∧ ∀ j, ¬ j = l.toNat → J2 r j = J r j) (hg : A = g l.toNat) (b : 0 ≤ g l.toNat ∧ g l.toNat ≤ 8) : ∀ u : Nat, (u : Int) < c4 → RwD I J2 r u (if (u : Int) < l' then g u else 0) := fun u hu => by
  by_cases z : u = l.toNat
  · subst z
    have e := (h _ hu).tr k.1 (by rw [if_neg (by omega)]; omega) (by omega)
    exact e.cg (by rw [if_pos (by omega), if_neg (by omega)]; omega)
  · exact ((h u hu).kp (k.2 u z)).cg (by
      by_cases y : (u : Int) < l
      · rw [if_pos y, if_pos (by omega)]
      · rw [if_neg y, if_neg (by omega)])
theorem TA6n {p : Nat → Int} (h : ∀ u : Nat, (u : Int) < c4 → (J r u).toInt = if (u : Int) < l ∧ 0 < p u then m + nzT Z (14 + u) 4 else f u) (h0 : 0 ≤ l) (hl : l' = l + 1) (hp : p l.toNat = 0) : ∀ u : Nat, (u : Int) < c4 → (J r u).toInt = if (u : Int) < l' ∧ 0 < p u then m + nzT Z (14 + u) 4 else f u := fun u hu => by
  rw [h u hu]
  by_cases z : u = l.toNat
  · subst z; rw [if_neg (fun w => by omega), if_neg (fun w => by omega)]
  · by_cases y : (u : Int) < l ∧ 0 < p u
    · rw [if_pos y, if_pos ⟨by omega, y.2⟩]
    · rw [if_neg y, if_neg (fun w => y ⟨by omega, w.2⟩)]
theorem TA6y {p : Nat → Int} {A : Int} (h : ∀ u : Nat, (u : Int) < c4 → (J r u).toInt = if (u : Int) < l ∧ 0 < p u then m + nzT Z (14 + u) 4 else f u) (h0 : 0 ≤ l) (h4 : l < c4) (hl : l' = l + 1) (k : (J2 r l.toNat).toInt = (if 0 < A then m + nzT Z (14 + l.toNat) 4 else (J r l.toNat).toInt) ∧ ∀ j, ¬ j = l.toNat → J2 r j = J r j) (hp : A = p l.toNat) : ∀ u : Nat, (u : Int) < c4 → (J2 r u).toInt = if (u : Int) < l' ∧ 0 < p u then m + nzT Z (14 + u) 4 else f u := fun u hu => by
  by_cases z : u = l.toNat
  · subst z
    have e := h _ hu
    rw [if_neg (fun w => by omega)] at e
    rw [k.1, hp]
    by_cases y : 0 < p l.toNat
    · rw [if_pos y, if_pos ⟨by omega, y⟩]
    · rw [if_neg y, if_neg (fun w => y w.2)]; exact e
  · rw [k.2 u z, h u hu]
    by_cases y : (u : Int) < l ∧ 0 < p u
    · rw [if_pos y, if_pos ⟨by omega, y.2⟩]
    · rw [if_neg y, if_neg (fun w => y ⟨by omega, w.2⟩)]
end CzN6
section CzN7
variable {T : Nat → Nat} {cn : Nat} {K N : Nat → Nat} {d d1 : Int} {I J J2 I9 : cz_I} {R R2 : cz_R} {n al sk r t m k i q : Nat} {wi wr : List Nat} {b u : Nat → Int} {f g : Nat → Int} {l l' c1 c3 x A D : Int} {v w o y : Int32} {Z : cz_N}
theorem b8of {x : Int} (h : x = 0 ∨ x = 1) : 0 ≤ x ∧ x ≤ 8 := by omega
/-- who lies up at first -/
theorem UpZ (h : v.toInt = nzc Z 9) (h1 : 0 ≤ nzc Z 9 ∧ nzc Z 9 ≤ 255) (hb : ∀ k : Nat, k < 8 → ¬ (k : Int) < nzc Z 3 → bt (nzc Z 9) (k : Int) = 0) : B8 v (fun k => if (k : Int) < nzc Z 3 then nV Z k 0 else 0) := ⟨by omega, by omega, fun k hk => by
  rw [h]
  show bt (nzc Z 9) (k : Int) = if (k : Int) < nzc Z 3 then nV Z k 0 else 0
  by_cases z : (k : Int) < nzc Z 3
  · rw [if_pos z]; rfl
  · rw [if_neg z]; exact hb k hk z⟩
theorem RwD.one {A : Int} {v w x : Int32} (hv : J r t = v) (hw : w = v + x) (e : J2 r t = w) (hx : x.toInt = A) : RwD J J2 r t A := ⟨x, by rw [e, hw, hv], hx⟩
/-- where lightning cracks -/
theorem ckZ {g : Nat → Int} {n3 e K : Int} {h : Nat} (b : Bts v (fun j => if (if (j : Int) < c1 then (1 : Int) else 0) = 1 ∧ g j = 0 then 1 else 0)) (z : K = if ¬ n3 = 0 ∧ e = 0 ∧ (h : Int) < c1 ∧ g h = 0 then 1 else 0) (h3 : ¬ n3 = 0) (he : e = 0) (hh : h < 4) : bt v.toInt (h : Int) = K := by
  rw [b.2.2 h hh, z]
  show (if (if (h : Int) < c1 then (1 : Int) else 0) = 1 ∧ g h = 0 then (1 : Int) else 0) = _
  by_cases q : (h : Int) < c1 ∧ g h = 0
  · rw [if_pos q.1, if_pos ⟨rfl, q.2⟩, if_pos ⟨h3, he, q.1, q.2⟩]
  · have e2 : ¬ (¬ n3 = 0 ∧ e = 0 ∧ (h : Int) < c1 ∧ g h = 0) := fun w => q ⟨w.2.2.1, w.2.2.2⟩
    have e1 : ¬ ((if (h : Int) < c1 then (1 : Int) else 0) = 1 ∧ g h = 0) := fun w => q ⟨if1 w.1, w.2⟩
    rw [if_neg e1, if_neg e2]
theorem NgP.mk (hA : CVa I R al (nzc Z) (nzT Z)) (hS : SkZ I R sk Z) (g : St T cn K N d1 wi wr I R J R2) (hW : Wf T cn K N I R d) (tn : T n = 13) (ta : T al = 2) (ts : T sk = 12) (h0 : R2 n 0 = some al) (h1 : R2 n 1 = some sk) (h2 : (J n 2).toInt = nzM Z) (c : wi.all (fun c => !(ngr (c / 64))) = true) (cr : wr.all (fun c => Nat.beq (c / 64) 13) = true) : NgP J R2 n Z := by
  intro al' sk' g0 g1
  obtain rfl := Option.some.inj (h0.symm.trans g0)
  obtain rfl := Option.some.inj (h1.symm.trans g1)
  have e : ∀ a j, ngr (T a) = true → J a j = I a j := fun a j ta => g.2.1 a j (wm_p (p := fun r => !(ngr r)) c (by rw [ta]; rfl))
  have r := R13 g cr
  exact ⟨(hA.cg hW ta (fun j => e al j (by rw [ta]; rfl)) (fun a j ra => e a j (by unfold ngr; rw [ra, Bool.or_true, Bool.true_or]))).rc hW ta r, (hS.cg hW ts (fun a j ra => e a j (by unfold ngr; rw [ra, Bool.or_true]))).rc (fun j => r sk j (by omega)), h2⟩
theorem nV_01 (k : Nat) : ∀ M, nV Z k M = 0 ∨ nV Z k M = 1
  | 0 => by rw [nV]; exact bt_01 _ _
  | M + 1 => by
    have z := nV_01 k M
    rw [nV]; split <;> omega
/-- up behind a minute's turns -/
theorem TUp (hU : B8 v (fun k => if (k : Int) < nzc Z 3 then nV Z k m else 0)) (hD : B8 w (fun k => if (k : Int) < nzc Z 3 ∧ ¬ nB Z m k = -2 then 1 else 0)) (ho : o = v ^^^ w) : B8 o (fun k => if (k : Int) < nzc Z 3 then nV Z k (m + 1) else 0) := by
  rw [ho]
  refine (hU.xor hD).cg (fun k hk => ?_)
  show _ = if (if (k : Int) < nzc Z 3 then nV Z k m else 0) = (if (k : Int) < nzc Z 3 ∧ ¬ nB Z m k = -2 then (1 : Int) else 0) then (0 : Int) else 1
  by_cases z : (k : Int) < nzc Z 3
  · rw [if_pos z, if_pos z, nV]
    have y := nV_01 (Z := Z) k m
    by_cases p : nB Z m k = -2
    · have e : (if (k : Int) < nzc Z 3 ∧ ¬ nB Z m k = -2 then (1 : Int) else 0) = 0 := if_neg (fun w => w.2 p)
      rw [if_pos p, e]
      rcases y with y | y
      · rw [y, if_pos rfl]
      · rw [y, if_neg (by decide)]
    · have e : (if (k : Int) < nzc Z 3 ∧ ¬ nB Z m k = -2 then (1 : Int) else 0) = 1 := if_pos ⟨z, p⟩
      rw [if_neg p, e]
      rcases y with y | y
      · rw [y, if_neg (by decide)]; rfl
      · rw [y, if_pos rfl]; rfl
  · have e : (if (k : Int) < nzc Z 3 ∧ ¬ nB Z m k = -2 then (1 : Int) else 0) = 0 := if_neg (fun w => z w.1)
    rw [if_neg z, if_neg z, e, if_pos rfl]
/-- what a minute's turns write of a night's rows -/
def NgA (I J : cz_I) (R : cz_R) (n : Nat) (Z : cz_N) (m : Nat) : Prop :=
  (∀ r, R n 3 = some r → Nib (J r m) (fun k => if (k : Int) < nzc Z 3 then nB Z m k else -2) ∧ ∀ j, ¬ j = m → J r j = I r j) ∧
  (∀ r, R n 8 = some r → ∀ t : Nat, (t : Int) < nzc Z 4 → RwD I J r t (if 0 < m then mK Z (m : Int) (nF Z m) t else 0)) ∧
  (∀ r, R n 9 = some r → ∀ t : Nat, (t : Int) < nzc Z 4 → RwD I J r t (if 0 < m then mS Z (m : Int) (nF Z m) t else 0)) ∧
  (∀ r, R n 10 = some r → ∀ t : Nat, (t : Int) < nzc Z 4 → RwD I J r t (if 0 < m ∧ 0 < mK Z (m : Int) (nF Z m) t then 1 else 0)) ∧
  (∀ r, R n 11 = some r → ∀ t : Nat, (t : Int) < nzc Z 4 → (J r t).toInt = nF Z (m + 1) t)
/-- what a minute's judging writes -/
def NgJ (I J : cz_I) (R : cz_R) (n : Nat) (Z : cz_N) (m : Nat) : Prop :=
  (∀ r, R n 4 = some r → ∀ k : Nat, (k : Int) < nzc Z 3 → RwD I J r k (if ¬ nB Z m k = -2 ∧ nzC Z (nzT Z 35 k) m = 1 then 1 else 0)) ∧
  (∀ r, R n 5 = some r → ∀ k : Nat, (k : Int) < nzc Z 3 → RwD I J r k (if ¬ nB Z m k = -2 ∧ ¬ nzC Z (nzT Z 35 k) m = 1 then 1 else 0)) ∧
  (∀ r, R n 6 = some r → ∀ k : Nat, (k : Int) < nzc Z 3 → RwD I J r k (if nB Z m k = -2 ∧ nzC Z (nzT Z 35 k) m = 1 then 1 else 0)) ∧
  (∀ r, R n 7 = some r → ∀ k : Nat, (k : Int) < nzc Z 3 → RwD I J r k (if nV Z k (m + 1) = 1 ∧ nzK Z (nzT Z 35 k) m = 1 then 1 else 0))
theorem cnM_bd {g : Nat → Int} {c : Int} (h : ∀ k, 0 ≤ g k ∧ g k ≤ c) : ∀ n : Nat, 0 ≤ cnM g n ∧ cnM g n ≤ c * n
  | 0 => by rw [cnM]; omega
  | n + 1 => by
    have z := cnM_bd h n
    have y := h n
    rw [cnM, show ((n + 1 : Nat) : Int) = n + 1 by omega, Int.mul_add, Int.mul_one]; omega
theorem NgR.go (h : NgR I R n Z m) (hA : NgA I J R n Z m) (hJ : NgJ J J2 R n Z m) (eA : ∀ r j s, 4 ≤ s → s ≤ 7 → R n s = some r → J r j = I r j) (eJ : ∀ r j s, s = 3 ∨ (8 ≤ s ∧ s ≤ 11) → R n s = some r → J2 r j = J r j) (hm : m < 240) (h8 : nzc Z 3 ≤ 8) : NgR J2 R n Z (m + 1) := by
  obtain ⟨h3, h4, h5, h6, h7, h8', h9, h10, h11⟩ := h
  obtain ⟨a3, a8, a9, a10, a11⟩ := hA
  obtain ⟨j4, j5, j6, j7⟩ := hJ
  have one : ∀ {r k : Nat} {D A : Int}, RwD J J2 r k D → (J r k).toInt = A → (0 ≤ A ∧ A ≤ 1 * (m : Nat)) → (D = 0 ∨ D = 1) → (J2 r k).toInt = A + D := fun {r k D A} e hA hb hd => e.to hA (by omega) (by omega)
  have two : ∀ {r k : Nat} {D A : Int}, RwD I J r k D → (I r k).toInt = A → (0 ≤ A ∧ A ≤ 8 * (m : Nat)) → (0 ≤ D ∧ D ≤ 8) → (J r k).toInt = A + D := fun {r k D A} e hA hb hd => e.to hA (by omega) (by omega)
  have b01 : ∀ {p : Prop} [Decidable p], 0 ≤ (if p then (1 : Int) else 0) ∧ (if p then (1 : Int) else 0) ≤ 1 := fun {p} _ => by rcases if01 (p := p) with z | z <;> omega
  have bK : ∀ j t : Nat, 0 ≤ (if 0 < j then mK Z (j : Int) (nF Z j) t else 0) ∧ (if 0 < j then mK Z (j : Int) (nF Z j) t else 0) ≤ 8 := fun j t => by
    have z := mK_b (Z := Z) (mi := (j : Int)) (f := nF Z j) h8 t
    split <;> omega
  have bS : ∀ j t : Nat, 0 ≤ (if 0 < j then mS Z (j : Int) (nF Z j) t else 0) ∧ (if 0 < j then mS Z (j : Int) (nF Z j) t else 0) ≤ 8 := fun j t => by
    have z := mS_b (Z := Z) (m := j) (f := nF Z j) h8 t
    split <;> omega
  refine ⟨fun r hr j hj => ?_, fun r hr k hk => ?_, fun r hr k hk => ?_, fun r hr k hk => ?_, fun r hr k hk => ?_, fun r hr t ht => ?_, fun r hr t ht => ?_, fun r hr t ht => ?_, fun r hr t ht => ?_⟩
  · rw [eJ r j 3 (Or.inl rfl) hr]
    obtain ⟨y1, y2⟩ := a3 r hr
    by_cases z : j = m
    · subst z
      exact y1.cg (fun k hk => by
        by_cases q : (k : Int) < nzc Z 3
        · rw [if_pos ⟨by omega, q⟩, if_pos q]
        · rw [if_neg (fun w => q w.2), if_neg q])
    · rw [y2 j z]
      exact (h3 r hr j hj).cg (fun k hk => by
        by_cases q : j < m ∧ (k : Int) < nzc Z 3
        · rw [if_pos q, if_pos ⟨by omega, q.2⟩]
        · rw [if_neg q, if_neg (fun w => q ⟨by omega, w.2⟩)])
  · unfold qR; rw [cnM]
    exact one (j4 r hr k hk) ((congrArg Int32.toInt (eA r k 4 (by omega) (by omega) hr)).trans (h4 r hr k hk)) (cnM_bd (fun _ => b01) m) if01
  · unfold qW; rw [cnM]
    exact one (j5 r hr k hk) ((congrArg Int32.toInt (eA r k 5 (by omega) (by omega) hr)).trans (h5 r hr k hk)) (cnM_bd (fun _ => b01) m) if01
  · unfold qM; rw [cnM]
    exact one (j6 r hr k hk) ((congrArg Int32.toInt (eA r k 6 (by omega) (by omega) hr)).trans (h6 r hr k hk)) (cnM_bd (fun _ => b01) m) if01
  · unfold qK; rw [cnM]
    exact one (j7 r hr k hk) ((congrArg Int32.toInt (eA r k 7 (by omega) (by omega) hr)).trans (h7 r hr k hk)) (cnM_bd (fun _ => b01) m) if01
  · rw [eJ r t 8 (by omega) hr]; unfold qT; rw [cnM]
    exact two (a8 r hr t ht) (h8' r hr t ht) (cnM_bd (fun j => bK j t) m) (bK m t)
  · rw [eJ r t 9 (by omega) hr]; unfold qS; rw [cnM]
    exact two (a9 r hr t ht) (h9 r hr t ht) (cnM_bd (fun j => bS j t) m) (bS m t)
  · rw [eJ r t 10 (by omega) hr]; unfold qN; rw [cnM]
    exact two (a10 r hr t ht) (h10 r hr t ht) (cnM_bd (c := 8) (fun _ => ⟨b01.1, Int.le_trans b01.2 (by decide)⟩) m) ⟨b01.1, Int.le_trans b01.2 (by decide)⟩
  · rw [eJ r t 11 (by omega) hr]; exact a11 r hr t ht
/-- minute 0: nobody turns -/
theorem NgA.z (h : NgR I R n Z 0) : NgA I I R n Z 0 :=
  ⟨fun r hr => ⟨(h.1 r hr 0 (by omega)).cg (fun k hk => by
    by_cases q : (k : Int) < nzc Z 3
    · rw [if_pos q, if_neg (fun w => absurd w.1 (by omega))]; exact if_pos rfl
    · rw [if_neg q, if_neg (fun w => q w.2)]), fun _ _ => rfl⟩, fun r hr t ht => RwD.z rfl (if_neg (by omega)), fun r hr t ht => RwD.z rfl (if_neg (by omega)), fun r hr t ht => RwD.z rfl (if_neg (by omega)), fun r hr t ht => by
    rw [h.2.2.2.2.2.2.2.2 r hr t ht, nF_s, if_neg (by omega)]⟩
theorem nB_pos {m : Nat} (h : 0 < m) (k : Nat) : nB Z m k = mB Z (m : Int) (nF Z m) (nzc Z 4).toNat k := if_neg (by omega)
theorem nB_z (k : Nat) : nB Z 0 k = -2 := if_pos rfl
/-- a later minute, out of what turnAll says -/
theorem NgA.tn {mi : Int} (h0 : 0 < m) (em : (m : Int) = mi) (p3 : ∀ r, R n 3 = some r → Nib (J r m) (fun k => if (k : Int) < nzc Z 3 then mB Z mi (nF Z m) (nzc Z 4).toNat k else -2) ∧ ∀ j, ¬ j = m → J r j = I r j)
    (p8 : ∀ r, R n 8 = some r → ∀ t : Nat, (t : Int) < nzc Z 4 → RwD I J r t (mK Z mi (nF Z m) t)) (p9 : ∀ r, R n 9 = some r → ∀ t : Nat, (t : Int) < nzc Z 4 → RwD I J r t (mS Z mi (nF Z m) t)) (p10 : ∀ r, R n 10 = some r → ∀ t : Nat, (t : Int) < nzc Z 4 → RwD I J r t ((fun u => if 0 < mK Z mi (nF Z m) u then 1 else 0) t))
    (p11 : ∀ r, R n 11 = some r → ∀ t : Nat, (t : Int) < nzc Z 4 → (J r t).toInt = if 0 < mK Z mi (nF Z m) t then mi + nzT Z (14 + t) 4 else nF Z m t) : NgA I J R n Z m := by
  subst em
  refine ⟨fun r hr => ⟨(p3 r hr).1.cg (fun k hk => by rw [nB_pos h0]), (p3 r hr).2⟩, fun r hr t ht => (p8 r hr t ht).cg (if_pos h0), fun r hr t ht => (p9 r hr t ht).cg (if_pos h0), fun r hr t ht => (p10 r hr t ht).cg ?_, fun r hr t ht => ?_⟩
  · show (if 0 < m ∧ 0 < mK Z (m : Int) (nF Z m) t then (1 : Int) else 0) = if 0 < mK Z (m : Int) (nF Z m) t then 1 else 0
    by_cases q : 0 < mK Z (m : Int) (nF Z m) t
    · rw [if_pos ⟨h0, q⟩, if_pos q]
    · rw [if_neg (fun w => q w.2), if_neg q]
  · rw [p11 r hr t ht, nF_s]
    by_cases q : 0 < mK Z (m : Int) (nF Z m) t
    · rw [if_pos q, if_pos ⟨by omega, q⟩]
    · rw [if_neg q, if_neg (fun w => q w.2)]
theorem NgJ.of {mi : Int} (em : (m : Int) = mi) (p4 : ∀ r, R n 4 = some r → ∀ k : Nat, (k : Int) < nzc Z 3 → RwD I J r k ((fun k => if ¬ nB Z m k = -2 ∧ nzC Z (nzT Z 35 k) mi = 1 then 1 else 0) k)) (p5 : ∀ r, R n 5 = some r → ∀ k : Nat, (k : Int) < nzc Z 3 → RwD I J r k ((fun k => if ¬ nB Z m k = -2 ∧ ¬ nzC Z (nzT Z 35 k) mi = 1 then 1 else 0) k)) (p6 : ∀ r, R n 6 = some r → ∀ k : Nat, (k : Int) < nzc Z 3 → RwD I J r k ((fun k => if nB Z m k = -2 ∧ nzC Z (nzT Z 35 k) mi = 1 then 1 else 0) k))
    (p7 : ∀ r, R n 7 = some r → ∀ k : Nat, (k : Int) < nzc Z 3 → RwD I J r k ((fun k => if (fun k => nV Z k (m + 1)) k = 1 ∧ nzK Z (nzT Z 35 k) mi = 1 then 1 else 0) k)) : NgJ I J R n Z m := by
  subst em
  exact ⟨p4, p5, p6, p7⟩
/-- nothing is played yet -/
theorem NgR.z (z3 : ∀ r, R n 3 = some r → ∀ j : Nat, j < 240 → I r j = 0) (z8 : ∀ s r, 4 ≤ s → s ≤ 7 → R n s = some r → ∀ j : Nat, j < 8 → I r j = 0) (z5 : ∀ s r, 8 ≤ s → s ≤ 11 → R n s = some r → ∀ j : Nat, j < 5 → I r j = 0) (h3 : nzc Z 3 ≤ 8) (h4 : nzc Z 4 ≤ 5) : NgR I R n Z 0 :=
  ⟨fun r hr j hj => (Nib.z (by rw [z3 r hr j hj]; rfl)).cg (fun k hk => by rw [if_neg (fun w => absurd w.1 (by omega))]), fun r hr k hk => by rw [z8 4 r (by omega) (by omega) hr k (by omega)]; rfl, fun r hr k hk => by rw [z8 5 r (by omega) (by omega) hr k (by omega)]; rfl, fun r hr k hk => by rw [z8 6 r (by omega) (by omega) hr k (by omega)]; rfl, fun r hr k hk => by rw [z8 7 r (by omega) (by omega) hr k (by omega)]; rfl, fun r hr k hk => by rw [z5 8 r (by omega) (by omega) hr k (by omega)]; rfl, fun r hr k hk => by rw [z5 9 r (by omega) (by omega) hr k (by omega)]; rfl, fun r hr k hk => by rw [z5 10 r (by omega) (by omega) hr k (by omega)]; rfl, fun r hr k hk => by rw [z5 11 r (by omega) (by omega) hr k (by omega)]; rfl⟩
end CzN7
set_option maxHeartbeats 1000000 in
theorem f_X10_bitX {l : Launch} {cn : Nat} {K N : Nat → Nat} {I0 : cz_I} {R0 : cz_R} {L0 : cz_L} {x0 x1 : Int32} (h0 : 0 ≤ x0.toInt ∧ x0.toInt ≤ 255) (h1 : 0 ≤ x1.toInt ∧ x1.toInt ≤ 7) : ConE l mX10_bit [.int x0, .int x1] cn K N I0 R0 L0 (ca_i (fun v cn' K' N' I' R' L' => cn = cn' ∧ K = K' ∧ N = N' ∧ I0 = I' ∧ R0 = R' ∧ L0 = L' ∧ (v.toInt = (bt x0.toInt x1.toInt)) ∧ True)) := by
  refine ConE.of (by decide +kernel) rfl (Nat.le_of_ble_eq_true rfl) rfl (fun X hX hZ hE => ?_)
  subst hX
  refine tr_iload_n dX10_bit_0 rfl ?_
  refine tr_iload_n dX10_bit_1 rfl ?_
  refine tr_iushr dX10_bit_2 ?_
  refine tr_iconst (v := 1) dX10_bit_3 rfl ?_
  refine tr_iand dX10_bit_4 ?_
  refine tr_iret hZ dX10_bit_5 rfl (by decide) (by decide) ⟨_, rfl, rfl, rfl, rfl, rfl, rfl, rfl, ?_, trivial⟩
  obtain ⟨a, ha, rfl, ea⟩ := i32_nat (n := 256) h0.1 (by omega) (by omega)
  obtain ⟨b, hb2, rfl, eb⟩ := i32_nat (n := 8) h1.1 (by omega) (by omega)
  rw [ea, eb]
  exact bt_X a ha b hb2

/-! ===== THE NIGHT of the reference ===== -/
section CzNm
variable {T : Nat → Nat} {cn : Nat} {K N : Nat → Nat} {d d1 : Int} {I J J1 J2 I9 : cz_I} {R R' R1 R2 : cz_R} {m b a r k t i q ix : Nat} {wi wr : List Nat} {Z : cz_N} {c : Nat → Int} {E : Nat → Nat → Int}
theorem AlM.tuN {f : Nat} (h : AlM I R b c E) (ha : R b (20 + f) = some a) (hf : f < 6) (ht : (t : Int) < c 4) (h5 : c 4 ≤ 5) : (I a t).toInt = E (14 + t) f := by
  have z := h.2 (14 + t) f a (by omega) (by unfold Dbm Db; rw [if_neg (by omega), if_neg (by omega), if_neg (by omega), if_pos (by omega), if_pos (by omega)]; omega) (by unfold mrs; rw [if_neg (by omega), if_pos (by omega)]; exact ha)
  unfold mri at z; rw [if_neg (by omega), if_pos (by omega), show 14 + t - 14 = t by omega] at z; exact z
theorem AlM.caN {f : Nat} (h : AlM I R b c E) (ha : R b (26 + f) = some a) (hf : f < 4) (hk : (k : Int) < c 5) (h6 : c 5 ≤ 6) : (I a k).toInt = E (19 + k) f := by
  have z := h.2 (19 + k) f a (by omega) (by unfold Dbm Db; rw [if_neg (by omega), if_neg (by omega), if_neg (by omega), if_neg (by omega), if_pos (by omega), if_pos (by omega)]; omega) (by unfold mrs; rw [if_neg (by omega), if_neg (by omega), if_pos (by omega)]; exact ha)
  unfold mri at z; rw [if_neg (by omega), if_neg (by omega), if_pos (by omega), show 19 + k - 19 = k by omega] at z; exact z
theorem AlM.hu (h : AlM I R b c E) (ha : R b 15 = some a) (hk : (k : Int) < c 3) : (I a k).toInt = E 35 k := by
  have z := h.2 35 k a (by omega) (by unfold Dbm Db; rw [if_neg (by omega), if_neg (by omega), if_neg (by omega), if_neg (by omega), if_neg (by omega), if_neg (by omega), if_neg (by omega), if_neg (by omega), if_neg (by omega), if_pos rfl]; exact hk) ha
  exact z
theorem AlM.ar (h : AlM I R b c E) (ha : R b 16 = some a) (hk : (k : Int) < E 29 0) : (I a k).toInt = E 34 k := by
  have z := h.2 34 k a (by omega) (by unfold Dbm Db; rw [if_neg (by omega), if_neg (by omega), if_neg (by omega), if_neg (by omega), if_neg (by omega), if_neg (by omega), if_neg (by omega), if_neg (by omega), if_pos rfl]; exact hk) ha
  exact z
theorem AlM.pr (h : AlM I R b c E) (ha : R b 10 = some a) (hk : k < 5) (h0 : 1 ≤ c 0) : (I a k).toInt = E 36 k := by
  have z := h.2 36 k a (by omega) (by unfold Dbm Db; rw [if_neg (by omega), if_neg (by omega), if_neg (by omega), if_neg (by omega), if_neg (by omega), if_neg (by omega), if_neg (by omega), if_neg (by omega), if_neg (by omega), if_neg (by omega), if_pos rfl, if_pos h0]; omega) ha
  exact z
theorem AlM.dn (h : AlM I R b c E) (ha : R b 19 = some a) (hk : (k : Int) < c 3) : (I a k).toInt = E 37 k := by
  have z := h.2 37 k a (by omega) (by unfold Dbm; rw [if_neg (by omega), if_pos rfl]; exact hk) ha
  exact z
/-- what the reference's night reads -/
def NmA (I : cz_I) (R : cz_R) (m : Nat) (Z : cz_N) : Prop := ∀ b, R m 3 = some b → (∀ k, k < 7 → (I b k).toInt = nzc Z k) ∧ AlM I R b (nzc Z) (nzT Z)
def NmK (I : cz_I) (R : cz_R) (m : Nat) (Z : cz_N) : Prop :=
  (∀ r, R m 24 = some r → ∀ k : Nat, (k : Int) < nzc Z 0 → (I r k).toInt = nzE Z k) ∧
  (∀ r, R m 22 = some r → ∀ h k : Int, 0 ≤ h → h < nzc Z 1 → 0 ≤ k → k < nzc Z 0 → nzC Z h k = if 0 < k ∧ ¬ (I r (240 * h + k).toNat).toInt = (I r (240 * h + k - 1).toNat).toInt then 1 else 0) ∧
  (∀ r, R m 23 = some r → ∀ h k : Int, 0 ≤ h → h < nzc Z 1 → 0 ≤ k → k < nzc Z 0 → nzS Z h k = if 0 < k ∧ ¬ (I r (240 * h + k).toNat).toInt = (I r (240 * h + k - 1).toNat).toInt then 1 else 0) ∧
  (∀ r24 r25 r26, R m 24 = some r24 → R m 25 = some r25 → R m 26 = some r26 → ∀ h k : Nat, (h : Int) < nzc Z 1 → (k : Int) < nzc Z 0 → nzK Z h k = if ¬ (I r25 k).toInt = 0 ∧ (I r24 k).toInt = 0 ∧ (I r26 (240 * h + k)).toInt = 0 then 1 else 0)
def NmP (I : cz_I) (R : cz_R) (m : Nat) (Z : cz_N) : Prop := NmA I R m Z ∧ NmK I R m Z
def nmr (q : Nat) : Bool := Nat.beq q 14 || rdm q || (Nat.ble 82 q && Nat.ble q 86)
theorem NmP.st (h : NmP I R m Z) (hW : Wf T cn K N I9 R d) (tm : T m = 15) (g : St T cn K N d1 wi wr I R1 J R2) (cw : wi.all (fun c => !(nmr (c / 64))) = true) : NmP J R m Z := by
  have e : ∀ a j, nmr (T a) = true → J a j = I a j := fun a j ta => g.2.1 a j (wm_p (p := fun r => !(nmr r)) cw (by rw [ta]; rfl))
  refine ⟨fun b hb => ?_, fun r hr k hk => ?_, fun r hr h' k h0 h1 k0 k1 => ?_, fun r hr h' k h0 h1 k0 k1 => ?_, fun r24 r25 r26 h24 h25 h26 h' k h1 k1 => ?_⟩
  · have tb : T b = 14 := hW.rsN tm rfl hb
    obtain ⟨a1, a2⟩ := h.1 b hb
    exact ⟨fun k hk => by rw [e b k (by rw [tb]; rfl)]; exact a1 k hk, a2.kp hW tb (e b 8 (by rw [tb]; rfl)) (fun a j ra => e a j (by unfold nmr; rw [ra, Bool.or_true, Bool.true_or]))⟩
  · rw [e r k (by rw [show T r = 84 from hW.rs tm rfl rfl hr]; rfl)]; exact h.2.1 r hr k hk
  · have t : T r = 82 := hW.rs tm rfl rfl hr
    rw [e r _ (by rw [t]; rfl), e r _ (by rw [t]; rfl)]; exact h.2.2.1 r hr h' k h0 h1 k0 k1
  · have t : T r = 83 := hW.rs tm rfl rfl hr
    rw [e r _ (by rw [t]; rfl), e r _ (by rw [t]; rfl)]; exact h.2.2.2.1 r hr h' k h0 h1 k0 k1
  · rw [e r24 k (by rw [show T r24 = 84 from hW.rs tm rfl rfl h24]; rfl), e r25 k (by rw [show T r25 = 85 from hW.rs tm rfl rfl h25]; rfl), e r26 _ (by rw [show T r26 = 86 from hW.rs tm rfl rfl h26]; rfl)]; exact h.2.2.2.2 r24 r25 r26 h24 h25 h26 h' k h1 k1
theorem NmP.put (h : NmP I R m Z) (hW : Wf T cn K N I9 R d) (tm : T m = 15) (f : ∀ a j, ¬ (a = k ∧ j = i) → J a j = I a j) (tk : T k = q) (hq : nmr q = false) : NmP J R m Z := by
  have e : ∀ a j, nmr (T a) = true → J a j = I a j := fun a j ta => f a j (fun z => by rw [z.1, tk, hq] at ta; cases ta)
  refine ⟨fun b hb => ?_, fun r hr k hk => ?_, fun r hr h' k h0 h1 k0 k1 => ?_, fun r hr h' k h0 h1 k0 k1 => ?_, fun r24 r25 r26 h24 h25 h26 h' k h1 k1 => ?_⟩
  · have tb : T b = 14 := hW.rsN tm rfl hb
    obtain ⟨a1, a2⟩ := h.1 b hb
    exact ⟨fun k hk => by rw [e b k (by rw [tb]; rfl)]; exact a1 k hk, a2.kp hW tb (e b 8 (by rw [tb]; rfl)) (fun a j ra => e a j (by unfold nmr; rw [ra, Bool.or_true, Bool.true_or]))⟩
  · rw [e r k (by rw [show T r = 84 from hW.rs tm rfl rfl hr]; rfl)]; exact h.2.1 r hr k hk
  · have t : T r = 82 := hW.rs tm rfl rfl hr
    rw [e r _ (by rw [t]; rfl), e r _ (by rw [t]; rfl)]; exact h.2.2.1 r hr h' k h0 h1 k0 k1
  · have t : T r = 83 := hW.rs tm rfl rfl hr
    rw [e r _ (by rw [t]; rfl), e r _ (by rw [t]; rfl)]; exact h.2.2.2.1 r hr h' k h0 h1 k0 k1
  · rw [e r24 k (by rw [show T r24 = 84 from hW.rs tm rfl rfl h24]; rfl), e r25 k (by rw [show T r25 = 85 from hW.rs tm rfl rfl h25]; rfl), e r26 _ (by rw [show T r26 = 86 from hW.rs tm rfl rfl h26]; rfl)]; exact h.2.2.2.2 r24 r25 r26 h24 h25 h26 h' k h1 k1
end CzNm
section CzNm2
variable {I J J2 I9 : cz_I} {r : Nat} {b f : Nat → Int} {l l' m c3 : Int} {n ix : Nat} {v : Int32}
/-- row of turns: minute m of the first cheeses -/
def TbR (J : cz_I) (r : Nat) (m c3 : Int) (f : Nat → Int) : Prop := ∀ k : Nat, (k : Int) < c3 → (J r (240 * k + m.toNat)).toInt = f k
def TbO (I J : cz_I) (r : Nat) (m : Int) : Prop := ∀ j : Nat, ¬ (j : Int) % 240 = m → J r j = I r j
theorem TbO.rf : TbO I I r m := fun _ _ => rfl
theorem TbO.tr (h : TbO I J r m) (g : TbO J J2 r m) : TbO I J2 r m := fun j hj => (g j hj).trans (h j hj)
theorem TbO.w (h : TbO I J r m) (hx : (ix : Int) % 240 = m) (f : ∀ j, ¬ j = ix → J2 r j = J r j) : TbO I J2 r m := fun j hj => (f j (fun z => hj (by rw [z]; exact hx))).trans (h j hj)
theorem TbO.kp (h : TbO I J r m) (f : ∀ j, J2 r j = J r j) : TbO I J2 r m := fun j hj => (f j).trans (h j hj)
theorem TbR.cg {g : Nat → Int} (h : TbR J r m c3 f) (e : ∀ k : Nat, (k : Int) < c3 → g k = f k) : TbR J r m c3 g := fun k hk => (h k hk).trans (e k hk).symm
theorem TbR.kp (h : TbR J r m c3 f) (e : ∀ j, J2 r j = J r j) : TbR J2 r m c3 f := fun k hk => by rw [e]; exact h k hk
theorem TbR.no {g : Nat → Int} (h : TbR J r m c3 (fun k => if (k : Int) < l then f k else g k)) (h0 : 0 ≤ l) (hl : l' = l + 1) (hg : f l.toNat = g l.toNat) : TbR J r m c3 (fun k => if (k : Int) < l' then f k else g k) := h.cg (fun k _ => by
  by_cases z : k = l.toNat
  · subst z; rw [if_pos (by omega), if_neg (by omega)]; exact hg
  · by_cases y : (k : Int) < l
    · rw [if_pos y, if_pos (by omega)]
    · rw [if_neg y, if_neg (by omega)])
theorem TbR.ye {g : Nat → Int} (h : TbR J r m c3 (fun k => if (k : Int) < l then f k else g k)) (h0 : 0 ≤ l) (hl : l' = l + 1) (m0 : 0 ≤ m) (m1 : m < 240) (hx : (ix : Int) = 240 * l + m) (e : J2 r ix = v) (hv : v.toInt = f l.toNat) (o : ∀ j, ¬ j = ix → J2 r j = J r j) : TbR J2 r m c3 (fun k => if (k : Int) < l' then f k else g k) := fun k hk => by
  by_cases z : k = l.toNat
  · subst z
    rw [show 240 * l.toNat + m.toNat = ix by omega, e, hv]
    show f l.toNat = if ((l.toNat : Nat) : Int) < l' then f l.toNat else g l.toNat
    rw [if_pos (by omega)]
  · rw [o _ (by omega), h k hk]
    show (if (k : Int) < l then f k else g k) = if (k : Int) < l' then f k else g k
    by_cases y : (k : Int) < l
    · rw [if_pos y, if_pos (by omega)]
    · rw [if_neg y, if_neg (by omega)]
theorem TbR.e {u H : Int} {e : Nat → Int} (h : TbR J r m c3 (fun k => if (k : Int) < l then tqB u b H e k else b k)) (q : ∀ k : Nat, l ≤ (k : Int) → (k : Int) < c3 → tqG b H e k = 0) : TbR J r m c3 (tqB u b H e) := h.cg (fun k hk => by
  by_cases y : (k : Int) < l
  · rw [if_pos y]
  · rw [if_neg y]; unfold tqB; rw [q k (by omega) hk, if_neg (by decide)])
end CzNm2
section CzNm3
variable {T : Nat → Nat} {cn : Nat} {K N : Nat → Nat} {d d1 : Int} {I J J2 I9 : cz_I} {R R2 : cz_R} {m r a M : Nat} {Z : cz_N} {mi l l' : Int} {v : Int32}
/-- rows of the reference's night, minutes below M played -/
def NmR (I : cz_I) (R : cz_R) (m : Nat) (Z : cz_N) (M : Nat) : Prop :=
  (∀ r, R m 27 = some r → ∀ j k : Nat, j < M → (k : Int) < nzc Z 3 → (I r (240 * k + j)).toInt = nB Z j k) ∧
  (∀ r, R m 33 = some r → ∀ j k : Nat, j < M → (k : Int) < nzc Z 3 → (I r (240 * k + j)).toInt = nV Z k (j + 1)) ∧
  (∀ r, R m 29 = some r → ∀ k : Nat, (k : Int) < nzc Z 3 → (I r k).toInt = qR Z k M) ∧
  (∀ r, R m 31 = some r → ∀ k : Nat, (k : Int) < nzc Z 3 → (I r k).toInt = qW Z k M) ∧
  (∀ r, R m 30 = some r → ∀ k : Nat, (k : Int) < nzc Z 3 → (I r k).toInt = qM Z k M) ∧
  (∀ r, R m 32 = some r → ∀ k : Nat, (k : Int) < nzc Z 3 → (I r k).toInt = qK Z k M) ∧
  (∀ r, R m 28 = some r → ∀ t : Nat, (t : Int) < nzc Z 4 → (I r t).toInt = nF Z M t)
theorem NmR.kp (h : NmR I R m Z M) (e : ∀ r j s, 27 ≤ s → s ≤ 33 → R m s = some r → J r j = I r j) : NmR J R m Z M := by
  obtain ⟨h1, h2, h3, h4, h5, h6, h7⟩ := h
  exact ⟨fun r hr j k hj hk => by rw [e r _ 27 (by omega) (by omega) hr]; exact h1 r hr j k hj hk, fun r hr j k hj hk => by rw [e r _ 33 (by omega) (by omega) hr]; exact h2 r hr j k hj hk, fun r hr k hk => by rw [e r _ 29 (by omega) (by omega) hr]; exact h3 r hr k hk, fun r hr k hk => by rw [e r _ 31 (by omega) (by omega) hr]; exact h4 r hr k hk, fun r hr k hk => by rw [e r _ 30 (by omega) (by omega) hr]; exact h5 r hr k hk, fun r hr k hk => by rw [e r _ 32 (by omega) (by omega) hr]; exact h6 r hr k hk, fun r hr k hk => by rw [e r _ 28 (by omega) (by omega) hr]; exact h7 r hr k hk⟩
theorem NmR.z (z28 : ∀ r, R m 28 = some r → ∀ u : Nat, (u : Int) < nzc Z 4 → (I r u).toInt = 0) (z : ∀ s r, 29 ≤ s → s ≤ 32 → R m s = some r → ∀ u : Nat, (u : Int) < nzc Z 3 → (I r u).toInt = 0) : NmR I R m Z 0 :=
  ⟨fun r hr j k hj => absurd hj (Nat.not_lt_zero _), fun r hr j k hj => absurd hj (Nat.not_lt_zero _), fun r hr k hk => z 29 r (by omega) (by omega) hr k hk, fun r hr k hk => z 31 r (by omega) (by omega) hr k hk, fun r hr k hk => z 30 r (by omega) (by omega) hr k hk, fun r hr k hk => z 32 r (by omega) (by omega) hr k hk, fun r hr t ht => z28 r hr t ht⟩
/-- row of minute mi, below l -/
def TbL (J : cz_I) (r : Nat) (mi l : Int) (f : Nat → Int) : Prop := ∀ k : Nat, (k : Int) < l → (J r (240 * k + mi.toNat)).toInt = f k
theorem TbL.ye {f : Nat → Int} {ix : Nat} (h : TbL J r mi l f) (h0 : 0 ≤ l) (hl : l' = l + 1) (m0 : 0 ≤ mi) (m1 : mi < 240) (hx : (ix : Int) = 240 * l + mi) (e : (J2 r ix).toInt = f l.toNat) (o : ∀ j, ¬ j = ix → J2 r j = J r j) : TbL J2 r mi l' f := fun k hk => by
  by_cases z : k = l.toNat
  · subst z; rw [show 240 * l.toNat + mi.toNat = ix by omega]; exact e
  · rw [o _ (by omega)]; exact h k (by omega)
theorem ZrL {r ix : Nat} (h : ∀ u : Nat, (u : Int) < l → (J r u).toInt = 0) (h0 : 0 ≤ l) (hl : l' = l + 1) (hx : (ix : Int) = l) (e : (J2 r ix).toInt = 0) (o : ∀ j, ¬ j = ix → J2 r j = J r j) : ∀ u : Nat, (u : Int) < l' → (J2 r u).toInt = 0 := fun u hu => by
  by_cases z : u = ix
  · subst z; exact e
  · rw [o u z]; exact h u (by omega)
/-- a minute more -/
theorem NmR.go (h : NmR I R m Z M) (em : (M : Int) = mi) (hM : M < 240)
    (a27 : ∀ r, R m 27 = some r → TbR J r mi (nzc Z 3) (nB Z M) ∧ TbO I J r mi) (a33 : ∀ r, R m 33 = some r → TbL J r mi (nzc Z 3) (fun k => nV Z k (M + 1)) ∧ TbO I J r mi)
    (a29 : ∀ r, R m 29 = some r → ∀ k : Nat, (k : Int) < nzc Z 3 → RwD I J r k (if ¬ nB Z M k = -2 ∧ nzC Z (nzT Z 35 k) mi = 1 then 1 else 0)) (a31 : ∀ r, R m 31 = some r → ∀ k : Nat, (k : Int) < nzc Z 3 → RwD I J r k (if ¬ nB Z M k = -2 ∧ ¬ nzC Z (nzT Z 35 k) mi = 1 then 1 else 0)) (a30 : ∀ r, R m 30 = some r → ∀ k : Nat, (k : Int) < nzc Z 3 → RwD I J r k (if nB Z M k = -2 ∧ nzC Z (nzT Z 35 k) mi = 1 then 1 else 0)) (a32 : ∀ r, R m 32 = some r → ∀ k : Nat, (k : Int) < nzc Z 3 → RwD I J r k (if nV Z k (M + 1) = 1 ∧ nzK Z (nzT Z 35 k) mi = 1 then 1 else 0))
    (a28 : ∀ r, R m 28 = some r → ∀ t : Nat, (t : Int) < nzc Z 4 → (J r t).toInt = nF Z (M + 1) t) : NmR J R m Z (M + 1) := by
  subst em
  obtain ⟨h1, h2, h3, h4, h5, h6, h7⟩ := h
  have one : ∀ {r k : Nat} {D A : Int}, RwD I J r k D → (I r k).toInt = A → (0 ≤ A ∧ A ≤ 1 * (M : Nat)) → (D = 0 ∨ D = 1) → (J r k).toInt = A + D := fun {r k D A} e hA hb hd => e.to hA (by omega) (by omega)
  have b01 : ∀ {p : Prop} [Decidable p], 0 ≤ (if p then (1 : Int) else 0) ∧ (if p then (1 : Int) else 0) ≤ 1 := fun {p} _ => by rcases if01 (p := p) with z | z <;> omega
  refine ⟨fun r hr j k hj hk => ?_, fun r hr j k hj hk => ?_, fun r hr k hk => ?_, fun r hr k hk => ?_, fun r hr k hk => ?_, fun r hr k hk => ?_, a28⟩
  · by_cases z : j = M
    · subst z
      have y := (a27 r hr).1 k hk
      rw [show ((j : Int)).toNat = j by omega] at y; exact y
    · rw [(a27 r hr).2 _ (by omega)]; exact h1 r hr j k (by omega) hk
  · by_cases z : j = M
    · subst z
      have y := (a33 r hr).1 k hk
      rw [show ((j : Int)).toNat = j by omega] at y; exact y
    · rw [(a33 r hr).2 _ (by omega)]; exact h2 r hr j k (by omega) hk
  · unfold qR; rw [cnM]; exact one (a29 r hr k hk) (h3 r hr k hk) (cnM_bd (fun _ => b01) M) if01
  · unfold qW; rw [cnM]; exact one (a31 r hr k hk) (h4 r hr k hk) (cnM_bd (fun _ => b01) M) if01
  · unfold qM; rw [cnM]; exact one (a30 r hr k hk) (h5 r hr k hk) (cnM_bd (fun _ => b01) M) if01
  · unfold qK; rw [cnM]; exact one (a32 r hr k hk) (h6 r hr k hk) (cnM_bd (fun _ => b01) M) if01
theorem TbR.sk {f : Nat → Int} {mj : Int} {t : Nat} {c3 : Int} (h : TbR J r mi c3 (mB Z mj f t)) (q : ∀ k : Nat, (k : Int) < c3 → mB Z mj f (t + 1) k = mB Z mj f t k) : TbR J r mi c3 (mB Z mj f (t + 1)) := h.cg q
theorem nF_of (hM : ((M : Nat) : Int) = mi) (t : Nat) : nF Z (M + 1) t = if 0 < M ∧ 0 < mK Z mi (nF Z M) t then mi + nzT Z (14 + t) 4 else nF Z M t := by subst hM; rfl
/-- notes of the cheeses, one by one -/
theorem TCn {g : Nat → Int} {c3 : Int} (h : ∀ u : Nat, (u : Int) < c3 → RwD I J r u (if (u : Int) < l then g u else 0)) (h0 : 0 ≤ l) (h4 : l < c3) (hl : l' = l + 1) (k : RwD J J2 r l.toNat (g l.toNat) ∧ ∀ j, ¬ j = l.toNat → J2 r j = J r j) (b : 0 ≤ g l.toNat ∧ g l.toNat ≤ 8) : ∀ u : Nat, (u : Int) < c3 → RwD I J2 r u (if (u : Int) < l' then g u else 0) := TA3y h h0 h4 hl k rfl b
theorem mulB {x y : Int32} {A B : Int} (hx : x.toInt = A) (hy : y.toInt = B) (a : 0 ≤ A ∧ A ≤ 99) (b : 0 ≤ B ∧ B ≤ 240) : (x * y).toInt = A * B ∧ 0 ≤ A * B ∧ A * B ≤ 23760 := by
  have h0 : 0 ≤ A * B := Int.mul_nonneg a.1 b.1
  have h1 : A * B ≤ 99 * 240 := Int.mul_le_mul a.2 b.2 b.1 (by decide)
  have h2 : A * B ≤ 23760 := h1
  refine ⟨?_, h0, h2⟩
  subst hx hy
  rw [Int32.toInt_mul]; exact cz_bm (by omega) (by omega)
theorem qR_b (k M : Nat) : 0 ≤ qR Z k M ∧ qR Z k M ≤ (M : Int) := cnM_b M (fun _ _ => if01)
theorem qW_b (k M : Nat) : 0 ≤ qW Z k M ∧ qW Z k M ≤ (M : Int) := cnM_b M (fun _ _ => if01)
theorem qM_b (k M : Nat) : 0 ≤ qM Z k M ∧ qM Z k M ≤ (M : Int) := cnM_b M (fun _ _ => if01)
theorem qK_b (k M : Nat) : 0 ≤ qK Z k M ∧ qK Z k M ≤ (M : Int) := cnM_b M (fun _ _ => if01)
/-- a price, out of its four products -/
theorem pzZ_of {k : Nat} {v w : Int} (hw : w = nzT Z 36 0 + nzT Z 36 1 * qR Z k (nzc Z 0).toNat - nzT Z 36 2 * qM Z k (nzc Z 0).toNat - nzT Z 36 3 * qK Z k (nzc Z 0).toNat - nzT Z 36 4 * qW Z k (nzc Z 0).toNat) (hv : (w < 0 ∧ v = 0) ∨ (0 ≤ w ∧ v = w)) : v = pzZ Z k := by
  unfold pzZ
  rw [← hw]
  rcases hv with ⟨h, e⟩ | ⟨h, e⟩
  · rw [if_pos h]; exact e
  · rw [if_neg (by omega)]; exact e
end CzNm3
/-! ===== a night under a sky ===== -/
def crZ (X : Nat → Nat → Int) (lo : Int) (n : Nat) (c1 h m : Int) : Int := if hx X 4 lo m n = 1 ∧ hx X 1 lo m n = 0 ∧ h < c1 ∧ hh X 3 lo m h n = 0 then 1 else 0
def mkZ (X : Nat → Nat → Int) (lo : Int) (n : Nat) (E : Nat → Nat → Int) (c : Nat → Int) (cl th : Int) : cz_N := (skC X lo n (c 1), skT X lo n (c 1), crZ X lo n (c 1), fun m => hx X 1 lo m n, E, c, cl, th)
/-- where something stirs: al a minute of the almanac -/
def stI (X : Nat → Nat → Int) (lo : Int) (n : Nat) (c1 : Int) (al : Int → Int) (m : Nat) : Int := if (skC X lo n c1 0 m = 1 ∨ skC X lo n c1 1 m = 1 ∨ skC X lo n c1 2 m = 1 ∨ skC X lo n c1 3 m = 1) ∨ (skT X lo n c1 0 m = 1 ∨ skT X lo n c1 1 m = 1 ∨ skT X lo n c1 2 m = 1 ∨ skT X lo n c1 3 m = 1) ∨ hx X 4 lo m n = 1 ∨ al m = 1 then 1 else 0
/-- the list of the minutes in which f is 1 -/
def StR (I : cz_I) (R : cz_R) (sk : Nat) (mi : Int) (f : Nat → Int) : Prop := (I sk 10).toInt = cnM f mi.toNat ∧ ∀ r, R sk 11 = some r → ∀ m : Nat, (m : Int) < mi → f m = 1 → (I r (cnM f m).toNat).toInt = m
section CzN8
variable {T : Nat → Nat} {cn : Nat} {K N : Nat → Nat} {d d1 : Int} {I J J2 I9 : cz_I} {R R' R2 : cz_R} {sk r m n al o b : Nat} {X : Nat → Nat → Int} {lo c1 mi cl th : Int} {E : Nat → Nat → Int} {c : Nat → Int} {f g : Nat → Int} {v : Int32}
theorem bts_n (h : Bts v g) (g01 : ∀ k, g k = 0 ∨ g k = 1) : (¬ v.toInt = 0) ↔ (g 0 = 1 ∨ g 1 = 1 ∨ g 2 = 1 ∨ g 3 = 1) := by
  obtain ⟨h0, h1, h2⟩ := h
  have e0 := h2 0 (by omega)
  have e1 := h2 1 (by omega)
  have e2 := h2 2 (by omega)
  have e3 := h2 3 (by omega)
  rw [← e0, ← e1, ← e2, ← e3]
  unfold bt pw
  show ¬ v.toInt = 0 ↔ v.toInt / 2 ^ 0 % 2 = 1 ∨ v.toInt / 2 ^ 1 % 2 = 1 ∨ v.toInt / 2 ^ 2 % 2 = 1 ∨ v.toInt / 2 ^ 3 % 2 = 1
  rw [show (2 : Int) ^ 0 = 1 from rfl, show (2 : Int) ^ 1 = 2 from rfl, show (2 : Int) ^ 2 = 4 from rfl, show (2 : Int) ^ 3 = 8 from rfl]
  omega
theorem stI_01 (X : Nat → Nat → Int) (lo : Int) (n : Nat) (c1 : Int) (al : Int → Int) (m : Nat) : stI X lo n c1 al m = 0 ∨ stI X lo n c1 al m = 1 := if01
theorem skT_01 (X : Nat → Nat → Int) (lo : Int) (n : Nat) (c1 h m : Int) : skT X lo n c1 h m = 0 ∨ skT X lo n c1 h m = 1 := if01
theorem skC_o1 (X : Nat → Nat → Int) (lo : Int) (n : Nat) (c1 h m : Int) : skC X lo n c1 h m = 0 ∨ skC X lo n c1 h m = 1 := if01
theorem StR.cg (h : StR I R sk mi f) (e : ∀ m : Nat, (m : Int) < mi → g m = f m) : StR I R sk mi g := by
  have s : ∀ k : Nat, (k : Int) ≤ mi → cnM g k = cnM f k := fun k hk => cnM_cg k (fun j hj => e j (by omega))
  refine ⟨?_, fun r hr m hm hf => ?_⟩
  · by_cases z : 0 ≤ mi
    · rw [s mi.toNat (by omega)]; exact h.1
    · rw [show mi.toNat = 0 by omega]; have y := h.1; rw [show mi.toNat = 0 by omega] at y; exact y
  · rw [s m (by omega)]; exact h.2 r hr m hm (by rw [← e m hm]; exact hf)
/-- a quiet minute, by the pure sky -/
theorem quZ_of {al : Int → Int} (hG : ∀ k : Nat, (k : Int) < c 3 → 0 ≤ E 35 k ∧ E 35 k ≤ 3) (ha : ∀ x : Int, al x = alZ (mkZ X lo n E c cl th) x) (h : stI X lo n (c 1) al m = 0) : quZ (mkZ X lo n E c cl th) m := by
  have hn : ¬ ((skC X lo n (c 1) 0 m = 1 ∨ skC X lo n (c 1) 1 m = 1 ∨ skC X lo n (c 1) 2 m = 1 ∨ skC X lo n (c 1) 3 m = 1) ∨ (skT X lo n (c 1) 0 m = 1 ∨ skT X lo n (c 1) 1 m = 1 ∨ skT X lo n (c 1) 2 m = 1 ∨ skT X lo n (c 1) 3 m = 1) ∨ hx X 4 lo m n = 1 ∨ al m = 1) := fun w => by unfold stI at h; rw [if_pos w] at h; omega
  refine ⟨fun k hk => ?_, fun w => hn (Or.inr (Or.inr (Or.inr ((ha _).trans w))))⟩
  have hk : (k : Int) < c 3 := hk
  have b := hG k hk
  have hc : ∀ x : Int, 0 ≤ x → x ≤ 3 → skC X lo n (c 1) x m = 0 ∧ skT X lo n (c 1) x m = 0 := fun x x0 x3 => by
    have y : x = 0 ∨ x = 1 ∨ x = 2 ∨ x = 3 := by omega
    have a1 := skC_o1 X lo n (c 1) x m
    have a2 := skT_01 X lo n (c 1) x m
    rcases y with rfl | rfl | rfl | rfl <;> exact ⟨by omega, by omega⟩
  obtain ⟨z1, z2⟩ := hc (E 35 k) b.1 b.2
  refine ⟨z1, z2, ?_⟩
  show crZ X lo n (c 1) (E 35 k) m = 0
  unfold crZ; rw [if_neg (fun w => hn (Or.inr (Or.inr (Or.inl w.1))))]
/-- the class's sky, as a night reads it -/
theorem SkZ.of {al : Int → Int} (h : SkF I R sk (c 0) (c 1) lo X n (c 0)) (hB : Bts (I sk 1) (fun j => if (j : Int) < c 1 then 1 else 0)) (hS : StR I R sk (c 0) (stI X lo n (c 1) al)) (hG : ∀ k : Nat, (k : Int) < c 3 → 0 ≤ E 35 k ∧ E 35 k ≤ 3) (ha : ∀ x : Int, al x = alZ (mkZ X lo n E c cl th) x) : SkZ I R sk (mkZ X lo n E c cl th) := by
  obtain ⟨h2, h3, h4, h5, h6, h7, h8, h9⟩ := h
  refine ⟨h2, h8, h9, hB, fun r3 r5 hr3 hr5 m hm => ⟨_, h5 r5 hr5 m hm, fun y hy => ?_⟩, stI X lo n (c 1) al, fun m => if01, fun m _ hf => quZ_of hG ha hf, hS.1, fun r hr m hm hf => hS.2 r hr m hm hf⟩
  have e := h3 r3 hr3 m hm
  have b := hx_b X 4 lo m n
  show crZ X lo n (c 1) (y : Int) m = if ¬ (I r3 m).toInt = 0 ∧ hx X 1 lo m n = 0 ∧ (y : Int) < c 1 ∧ hh X 3 lo (m : Int) (y : Int) n = 0 then 1 else 0
  rw [e]
  unfold crZ
  by_cases q : hx X 4 lo m n = 1
  · by_cases p : hx X 1 lo m n = 0 ∧ (y : Int) < c 1 ∧ hh X 3 lo (m : Int) (y : Int) n = 0
    · rw [if_pos ⟨q, p⟩, if_pos ⟨by omega, p⟩]
    · rw [if_neg (fun w => p w.2), if_neg (fun w => p w.2)]
  · rw [if_neg (fun w => q w.1), if_neg (fun w => by have := w.1; omega)]
/-- the reference's sky -/
theorem NmK.of (h : SkM I R m (c 0) (c 1) lo X n (c 0) (c 0) 0) : NmK I R m (mkZ X lo n E c cl th) := by
  refine ⟨fun r hr k hk => h.2.1 r hr k hk, fun r hr x k x0 x1 k0 k1 => (h.ch hr x0 x1 k0 k1 rfl).symm, fun r hr x k x0 x1 k0 k1 => (h.se hr x0 x1 k0 k1 rfl).symm, fun r24 r25 r26 h24 h25 h26 x k hx' hk => ?_⟩
  have a := h.2.1 r24 h24 k hk
  have b := h.2.2.1 r25 h25 k hk
  have e := h.2.2.2.1 r26 h26 x k hx' hk
  have hx' : (x : Int) < c 1 := hx'
  have b4 := hx_b X 4 lo k n
  show crZ X lo n (c 1) (x : Int) k = _
  rw [a, b, e]
  unfold crZ
  by_cases q : hx X 4 lo k n = 1 ∧ hx X 1 lo k n = 0 ∧ hh X 3 lo k x n = 0
  · rw [if_pos ⟨q.1, q.2.1, hx', q.2.2⟩, if_pos ⟨by omega, q.2.1, q.2.2⟩]
  · rw [if_neg (fun w => q ⟨w.1, w.2.1, w.2.2.2⟩), if_neg (fun w => q ⟨by omega, w.2.1, w.2.2⟩)]
end CzN8
section CzN9
variable {T : Nat → Nat} {cn : Nat} {K N : Nat → Nat} {d d1 : Int} {I J J2 I9 : cz_I} {R R' R2 : cz_R} {sk r m n ix r3 r8 r9 : Nat} {X : Nat → Nat → Int} {lo c1 mi l l' cnt cnt' A : Int} {f g : Nat → Int} {al : Int → Int}
def StL (I : cz_I) (r : Nat) (cnt l : Int) (f : Nat → Int) : Prop := cnt = cnM f l.toNat ∧ ∀ m : Nat, (m : Int) < l → f m = 1 → (I r (cnM f m).toNat).toInt = m
theorem StL.kp (h : StL I r cnt l f) (e : ∀ j, J r j = I r j) : StL J r cnt l f := ⟨h.1, fun m hm hf => by rw [e]; exact h.2 m hm hf⟩
theorem StL.no (h : StL I r cnt l f) (h0 : 0 ≤ l) (hl : l' = l + 1) (hf : f l.toNat = 0) (hc : cnt' = cnt) : StL I r cnt' l' f :=
  ⟨by rw [cnM_s h0 hl, hf, ← h.1, hc]; omega, fun m hm f1 => by
    by_cases z : m = l.toNat
    · subst z; omega
    · exact h.2 m (by omega) f1⟩
theorem StL.ye (h : StL I r cnt l f) (f01 : ∀ k, f k = 0 ∨ f k = 1) (h0 : 0 ≤ l) (hl : l' = l + 1) (hf : f l.toNat = 1) (hc : cnt' = cnt + 1) (hx : (ix : Int) = cnt) (e : (J r ix).toInt = l) (o : ∀ j, ¬ j = ix → J r j = I r j) : StL J r cnt' l' f :=
  ⟨by rw [cnM_s h0 hl, hf, ← h.1, hc], fun m hm f1 => by
    by_cases z : m = l.toNat
    · subst z; rw [show (cnM f l.toNat).toNat = ix by have := h.1; omega, e]; omega
    · have y := cnM_le (f := f) (fun k => by rcases f01 k with w | w <;> omega) l.toNat (m + 1) (by omega)
      rw [cnM, f1] at y
      have y0 := (cnM_b (g := f) m (fun k _ => f01 k)).1
      have hc := h.1
      rw [o _ (by omega)]; exact h.2 m (by omega) f1⟩
theorem StL.fin (h : StL I r cnt l f) (hl : l = mi) (hc : (I sk 10).toInt = cnt) (d : R sk 11 = some r) : StR I R sk mi f := by
  subst hl
  exact ⟨hc.trans h.1, fun r' hr m hm hf => by obtain rfl := Option.some.inj (d.symm.trans hr); exact h.2 m hm hf⟩
theorem stI_of (h : SkF I R sk mi c1 lo X n mi) (d3 : R sk 3 = some r3) (d8 : R sk 8 = some r8) (d9 : R sk 9 = some r9) (hm : (m : Int) < mi) (ha : al m = A) : stI X lo n c1 al m = if ¬ (I r8 m).toInt = 0 ∨ ¬ (I r9 m).toInt = 0 ∨ ¬ (I r3 m).toInt = 0 ∨ A = 1 then 1 else 0 := by
  have a : (¬ (I r8 m).toInt = 0) ↔ (skC X lo n c1 0 (m : Int) = 1 ∨ skC X lo n c1 1 (m : Int) = 1 ∨ skC X lo n c1 2 (m : Int) = 1 ∨ skC X lo n c1 3 (m : Int) = 1) := bts_n (h.2.2.2.2.2.2.1 r8 d8 m hm) (fun k => skC_o1 X lo n c1 k m)
  have b : (¬ (I r9 m).toInt = 0) ↔ (skT X lo n c1 0 (m : Int) = 1 ∨ skT X lo n c1 1 (m : Int) = 1 ∨ skT X lo n c1 2 (m : Int) = 1 ∨ skT X lo n c1 3 (m : Int) = 1) := bts_n (h.2.2.2.2.2.2.2 r9 d9 m hm) (fun k => skT_01 X lo n c1 k m)
  have e := h.2.1 r3 d3 m hm
  have e4 := hx_b X 4 lo m n
  unfold stI
  rw [ha, e]
  have c4 : (¬ hx X 4 lo (m : Int) n = 0) ↔ hx X 4 lo (m : Int) n = 1 := by omega
  by_cases q : ¬ (I r8 m).toInt = 0 ∨ ¬ (I r9 m).toInt = 0 ∨ ¬ hx X 4 lo (m : Int) n = 0 ∨ A = 1
  · rw [if_pos q]
    rcases q with q | q | q | q
    · rw [if_pos (Or.inl (a.mp q))]
    · rw [if_pos (Or.inr (Or.inl (b.mp q)))]
    · rw [if_pos (Or.inr (Or.inr (Or.inl (c4.mp q))))]
    · rw [if_pos (Or.inr (Or.inr (Or.inr q)))]
  · rw [if_neg q, if_neg (fun w => q (by
      rcases w with w | w | w | w
      · exact Or.inl (a.mpr w)
      · exact Or.inr (Or.inl (b.mpr w))
      · exact Or.inr (Or.inr (Or.inl (c4.mpr w)))
      · exact Or.inr (Or.inr (Or.inr w))))]
end CzN9
/-! ===== the class's own night ===== -/
def alE (E : Nat → Nat → Int) (x : Int) : Int := exI (fun k => if E 34 k = x then 1 else 0) (E 29 0).toNat
section CzN10
variable {T : Nat → Nat} {cn : Nat} {K N : Nat → Nat} {d d1 : Int} {I J J1 J2 I9 : cz_I} {R R1 R2 : cz_R} {x sk al nw n k i q o : Nat} {X E : Nat → Nat → Int} {c : Nat → Int} {wi wr : List Nat}
/-- its sky's huts and the minutes that stir; its night -/
def StW (I : cz_I) (R : cz_R) (x : Nat) (X E : Nat → Nat → Int) (c : Nat → Int) : Prop := ∀ sk al nw, R x 8 = some sk → R x 2 = some al → R x 6 = some nw → Bts (I sk 1) (fun j => if (j : Int) < c 1 then 1 else 0) ∧ StR I R sk (c 0) (stI X (-1) ((I al 3).toInt.toNat + (I nw 2).toInt.toNat) (c 1) (alE E))
def NgZ (I : cz_I) (al nw : Nat) (X E : Nat → Nat → Int) (c : Nat → Int) : cz_N := mkZ X (-1) ((I al 3).toInt.toNat + (I nw 2).toInt.toNat) E c (I nw 0).toInt (pw (c 4) - 1)
def NgW (I : cz_I) (R : cz_R) (x : Nat) (X E : Nat → Nat → Int) (c : Nat → Int) : Prop := ∀ n al sk nw, R x 10 = some n → R x 2 = some al → R x 8 = some sk → R x 6 = some nw → R n 0 = some al ∧ R n 1 = some sk ∧ (I n 2).toInt = (I nw 0).toInt ∧ NgR I R n (NgZ I al nw X E c) (c 0).toNat
def NgQ (I : cz_I) (R : cz_R) (x : Nat) (X E : Nat → Nat → Int) (c : Nat → Int) : Prop := ((I x 9).toInt = 1 → StW I R x X E c) ∧ ((I x 11).toInt = 1 → (I x 9).toInt = 1 ∧ NgW I R x X E c)
/-- two nights share nothing -/
def DjN (R : cz_R) (x : Nat) : Prop := ∀ a b, R x 10 = some a → R x 14 = some b → ¬ a = b ∧ ∀ k l r, 3 ≤ k → k ≤ 11 → 3 ≤ l → l ≤ 11 → R a k = some r → ¬ R b l = some r
def ngs (q : Nat) : Bool := Nat.beq q 2 || Nat.beq q 8 || Nat.beq q 12 || Nat.beq q 13 || (Nat.ble 43 q && Nat.ble q 52)
/-- what the rows of the own night, sky, of x, alp and now are decides -/
theorem StW.cg (h : StW I R x X E c) (hW : Wf T cn K N I9 R d) (tx : T x = 1) (e2 : ∀ al, R x 2 = some al → J al 3 = I al 3) (e8 : ∀ nw, R x 6 = some nw → J nw 2 = I nw 2) (es : ∀ sk, R x 8 = some sk → J sk 1 = I sk 1 ∧ J sk 10 = I sk 10 ∧ ∀ r, R sk 11 = some r → ∀ j, J r j = I r j) : StW J R x X E c := by
  intro sk al nw h8 h2 h6
  obtain ⟨a, b1, b2⟩ := h sk al nw h8 h2 h6
  obtain ⟨s1, s10, s11⟩ := es sk h8
  rw [s1, e2 al h2, e8 nw h6]
  exact ⟨a, by rw [s10]; exact b1, fun r hr m hm hf => by rw [s11 r hr]; exact b2 r hr m hm hf⟩
theorem NgW.cg (h : NgW I R x X E c) (e2 : ∀ al, R x 2 = some al → J al 3 = I al 3) (e8 : ∀ nw, R x 6 = some nw → J nw 2 = I nw 2 ∧ J nw 0 = I nw 0) (en : ∀ n, R x 10 = some n → J n 2 = I n 2 ∧ ∀ k, 3 ≤ k → k ≤ 11 → ∀ r, R n k = some r → ∀ j, J r j = I r j) : NgW J R x X E c := by
  intro n al sk nw h10 h2 h8 h6
  obtain ⟨a, b, e, f⟩ := h n al sk nw h10 h2 h8 h6
  obtain ⟨n2, nr⟩ := en n h10
  have z : NgZ J al nw X E c = NgZ I al nw X E c := by unfold NgZ; rw [e2 al h2, (e8 nw h6).1, (e8 nw h6).2]
  rw [z]
  exact ⟨a, b, by rw [n2, (e8 nw h6).2]; exact e, f.kp (fun r j s s1 s2 hr => nr s s1 s2 r hr j)⟩
theorem NgQ.cg (h : NgQ I R x X E c) (hW : Wf T cn K N I9 R d) (tx : T x = 1) (e9 : J x 9 = I x 9) (e11 : J x 11 = I x 11) (e : ∀ a j, ngs (T a) = true → J a j = I a j) : NgQ J R x X E c := by
  have rd : ∀ a k, T a = k → ngs k = true → ∀ j, J a j = I a j := fun a k ta hk j => e a j (by rw [ta]; exact hk)
  have e2 : ∀ al, R x 2 = some al → J al 3 = I al 3 := fun al h2 => rd al 2 (hW.rs tx rfl rfl h2) rfl 3
  have e8 : ∀ nw, R x 6 = some nw → J nw 2 = I nw 2 ∧ J nw 0 = I nw 0 := fun nw h6 => ⟨rd nw 8 (hW.rs tx rfl rfl h6) rfl 2, rd nw 8 (hW.rs tx rfl rfl h6) rfl 0⟩
  refine ⟨fun h9 => (h.1 (by rw [← e9]; exact h9)).cg hW tx e2 (fun nw h6 => (e8 nw h6).1) (fun sk h8 => ?_), fun h11 => ?_⟩
  · have ts : T sk = 12 := hW.rs tx rfl rfl h8
    exact ⟨rd sk 12 ts rfl 1, rd sk 12 ts rfl 10, fun r hr j => rd r 43 (hW.rs ts rfl rfl hr) rfl j⟩
  · obtain ⟨a, b⟩ := h.2 (by rw [← e11]; exact h11)
    refine ⟨by rw [e9]; exact a, b.cg e2 e8 (fun n h10 => ?_)⟩
    have tn : T n = 13 := hW.rs tx rfl rfl h10
    refine ⟨rd n 13 tn rfl 2, fun k k1 k2 r hr j => ?_⟩
    have hk : k = 3 ∨ k = 4 ∨ k = 5 ∨ k = 6 ∨ k = 7 ∨ k = 8 ∨ k = 9 ∨ k = 10 ∨ k = 11 := by omega
    rcases hk with rfl | rfl | rfl | rfl | rfl | rfl | rfl | rfl | rfl
    · exact rd r 44 (hW.rs tn rfl rfl hr) rfl j
    · exact rd r 45 (hW.rs tn rfl rfl hr) rfl j
    · exact rd r 46 (hW.rs tn rfl rfl hr) rfl j
    · exact rd r 47 (hW.rs tn rfl rfl hr) rfl j
    · exact rd r 48 (hW.rs tn rfl rfl hr) rfl j
    · exact rd r 49 (hW.rs tn rfl rfl hr) rfl j
    · exact rd r 50 (hW.rs tn rfl rfl hr) rfl j
    · exact rd r 51 (hW.rs tn rfl rfl hr) rfl j
    · exact rd r 52 (hW.rs tn rfl rfl hr) rfl j
theorem NgQ.st (h : NgQ I R x X E c) (hW : Wf T cn K N I9 R d) (tx : T x = 1) (g : St T cn K N d1 wi wr I R1 J R2) (cw : wi.all (fun c => !(ngs (c / 64))) = true) (c9 : wm wi 1 9 = false) (c11 : wm wi 1 11 = false) : NgQ J R x X E c :=
  h.cg hW tx (g.cell tx c9) (g.cell tx c11) (fun a j ta => g.2.1 a j (wm_p (p := fun r => !(ngs r)) cw (by rw [ta]; rfl)))
theorem NgQ.put (h : NgQ I R x X E c) (hW : Wf T cn K N I9 R d) (tx : T x = 1) (f : ∀ a j, ¬ (a = k ∧ j = i) → J a j = I a j) (hk : T k = q) (hq : ngs q = false) (n9 : ¬ (x = k ∧ 9 = i)) (n11 : ¬ (x = k ∧ 11 = i)) : NgQ J R x X E c :=
  h.cg hW tx (f x 9 n9) (f x 11 n11) (fun a j ta => f a j (fun z => by rw [z.1, hk, hq] at ta; cases ta))
/-- the other sky was built -/
theorem NgQ.fs (h : NgQ I R x X E c) (hW : Wf T cn K N I9 R d) (tx : T x = 1) (g : St T cn K N d1 wi wr I R1 J R2) (hD : DjS R x) (ho : R x 13 = some o) (fr : FrS R o T I J) (cw : wi.all (fun c => !(Nat.beq (c / 64) 2 || Nat.beq (c / 64) 8 || Nat.beq (c / 64) 13 || (Nat.ble 44 (c / 64) && Nat.ble (c / 64) 52))) = true) (c9 : wm wi 1 9 = false) (c11 : wm wi 1 11 = false) : NgQ J R x X E c := by
  have e : ∀ a j, (Nat.beq (T a) 2 || Nat.beq (T a) 8 || Nat.beq (T a) 13 || (Nat.ble 44 (T a) && Nat.ble (T a) 52)) = true → J a j = I a j := fun a j ta => g.2.1 a j (wm_p (p := fun r => !(Nat.beq r 2 || Nat.beq r 8 || Nat.beq r 13 || (Nat.ble 44 r && Nat.ble r 52))) cw (by rw [ta]; rfl))
  have rd : ∀ a k, T a = k → (Nat.beq k 2 || Nat.beq k 8 || Nat.beq k 13 || (Nat.ble 44 k && Nat.ble k 52)) = true → ∀ j, J a j = I a j := fun a k ta hk j => e a j (by rw [ta]; exact hk)
  have e2 : ∀ al, R x 2 = some al → J al 3 = I al 3 := fun al h2 => rd al 2 (hW.rs tx rfl rfl h2) rfl 3
  have e8 : ∀ nw, R x 6 = some nw → J nw 2 = I nw 2 ∧ J nw 0 = I nw 0 := fun nw h6 => ⟨rd nw 8 (hW.rs tx rfl rfl h6) rfl 2, rd nw 8 (hW.rs tx rfl rfl h6) rfl 0⟩
  refine ⟨fun h9 => (h.1 (by rw [← g.cell tx c9]; exact h9)).cg hW tx e2 (fun nw h6 => (e8 nw h6).1) (fun sk h8 => ?_), fun h11 => ?_⟩
  · have ts : T sk = 12 := hW.rs tx rfl rfl h8
    obtain ⟨dn, dr⟩ := hD sk o h8 ho
    refine ⟨fr.1 sk 1 ts dn, fr.1 sk 10 ts dn, fun r hr j => fr.2 r j (by rw [show T r = 43 from hW.rs ts rfl rfl hr]; rfl) (fun l l1 l2 hl => dr 11 l r (by omega) (by omega) l1 l2 hr hl)⟩
  · obtain ⟨a, b⟩ := h.2 (by rw [← g.cell tx c11]; exact h11)
    refine ⟨by rw [g.cell tx c9]; exact a, b.cg e2 e8 (fun n h10 => ?_)⟩
    have tn : T n = 13 := hW.rs tx rfl rfl h10
    refine ⟨rd n 13 tn rfl 2, fun k k1 k2 r hr j => ?_⟩
    have hk : k = 3 ∨ k = 4 ∨ k = 5 ∨ k = 6 ∨ k = 7 ∨ k = 8 ∨ k = 9 ∨ k = 10 ∨ k = 11 := by omega
    rcases hk with rfl | rfl | rfl | rfl | rfl | rfl | rfl | rfl | rfl
    · exact rd r 44 (hW.rs tn rfl rfl hr) rfl j
    · exact rd r 45 (hW.rs tn rfl rfl hr) rfl j
    · exact rd r 46 (hW.rs tn rfl rfl hr) rfl j
    · exact rd r 47 (hW.rs tn rfl rfl hr) rfl j
    · exact rd r 48 (hW.rs tn rfl rfl hr) rfl j
    · exact rd r 49 (hW.rs tn rfl rfl hr) rfl j
    · exact rd r 50 (hW.rs tn rfl rfl hr) rfl j
    · exact rd r 51 (hW.rs tn rfl rfl hr) rfl j
    · exact rd r 52 (hW.rs tn rfl rfl hr) rfl j
/-- places of nights alone were pointed elsewhere -/
theorem NgQ.rc (h : NgQ I R x X E c) (hW : Wf T cn K N I9 R d) (tx : T x = 1) (r : ∀ a j, ¬ T a = 13 → R1 a j = R a j) (rn : ∀ n, R x 10 = some n → ∀ j, R1 n j = R n j) : NgQ I R1 x X E c := by
  have rx : ∀ j, R1 x j = R x j := fun j => r x j (by omega)
  refine ⟨fun h9 sk al nw h8 h2 h6 => ?_, fun h11 => ?_⟩
  · rw [rx] at h8 h2 h6
    have ts : T sk = 12 := hW.rs tx rfl rfl h8
    obtain ⟨a, b1, b2⟩ := h.1 h9 sk al nw h8 h2 h6
    exact ⟨a, b1, fun r' hr => b2 r' (by rw [← r sk 11 (by omega)]; exact hr)⟩
  · obtain ⟨a, b⟩ := h.2 h11
    refine ⟨a, fun n al sk nw h10 h2 h8 h6 => ?_⟩
    rw [rx] at h10 h2 h8 h6
    obtain ⟨b1, b2, b3, b4⟩ := b n al sk nw h10 h2 h8 h6
    have e := rn n h10
    obtain ⟨q3, q4, q5, q6, q7, q8, q9, q10, q11⟩ := b4
    exact ⟨by rw [e]; exact b1, by rw [e]; exact b2, b3, ⟨fun r hr => q3 r ((e 3).symm.trans hr), fun r hr => q4 r ((e 4).symm.trans hr), fun r hr => q5 r ((e 5).symm.trans hr), fun r hr => q6 r ((e 6).symm.trans hr), fun r hr => q7 r ((e 7).symm.trans hr), fun r hr => q8 r ((e 8).symm.trans hr), fun r hr => q9 r ((e 9).symm.trans hr), fun r hr => q10 r ((e 10).symm.trans hr), fun r hr => q11 r ((e 11).symm.trans hr)⟩⟩
/-- the other night was played -/
theorem NgQ.fn (h : NgQ I R x X E c) (hW : Wf T cn K N I9 R d) (tx : T x = 1) (g : St T cn K N d1 wi wr I R J R1) (hD : DjN R x) (ho : R x 14 = some o) (fr : FrN R o T I J) (r : ∀ a j, ¬ a = o → R1 a j = R a j) (cw : wi.all (fun c => !(Nat.beq (c / 64) 2 || Nat.beq (c / 64) 8 || Nat.beq (c / 64) 12 || Nat.beq (c / 64) 43)) = true) (c9 : wm wi 1 9 = false) (c11 : wm wi 1 11 = false) : NgQ J R1 x X E c := by
  have e : ∀ a j, (Nat.beq (T a) 2 || Nat.beq (T a) 8 || Nat.beq (T a) 12 || Nat.beq (T a) 43) = true → J a j = I a j := fun a j ta => g.2.1 a j (wm_p (p := fun r => !(Nat.beq r 2 || Nat.beq r 8 || Nat.beq r 12 || Nat.beq r 43)) cw (by rw [ta]; rfl))
  have rd : ∀ a k, T a = k → (Nat.beq k 2 || Nat.beq k 8 || Nat.beq k 12 || Nat.beq k 43) = true → ∀ j, J a j = I a j := fun a k ta hk j => e a j (by rw [ta]; exact hk)
  have e2 : ∀ al, R x 2 = some al → J al 3 = I al 3 := fun al h2 => rd al 2 (hW.rs tx rfl rfl h2) rfl 3
  have e8 : ∀ nw, R x 6 = some nw → J nw 2 = I nw 2 ∧ J nw 0 = I nw 0 := fun nw h6 => ⟨rd nw 8 (hW.rs tx rfl rfl h6) rfl 2, rd nw 8 (hW.rs tx rfl rfl h6) rfl 0⟩
  have to : T o = 13 := hW.rs tx rfl rfl ho
  have z : NgQ J R x X E c := by
    refine ⟨fun h9 => (h.1 (by rw [← g.cell tx c9]; exact h9)).cg hW tx e2 (fun nw h6 => (e8 nw h6).1) (fun sk h8 => ?_), fun h11 => ?_⟩
    · have ts : T sk = 12 := hW.rs tx rfl rfl h8
      exact ⟨rd sk 12 ts rfl 1, rd sk 12 ts rfl 10, fun r hr j => rd r 43 (hW.rs ts rfl rfl hr) rfl j⟩
    · obtain ⟨a, b⟩ := h.2 (by rw [← g.cell tx c11]; exact h11)
      refine ⟨by rw [g.cell tx c9]; exact a, b.cg e2 e8 (fun n h10 => ?_)⟩
      have tn : T n = 13 := hW.rs tx rfl rfl h10
      obtain ⟨dn, dr⟩ := hD n o h10 ho
      refine ⟨fr.1 n 2 tn dn, fun k k1 k2 r hr j => fr.2 r j ?_ (fun l l1 l2 hl => dr k l r k1 k2 l1 l2 hr hl)⟩
      have hk : k = 3 ∨ k = 4 ∨ k = 5 ∨ k = 6 ∨ k = 7 ∨ k = 8 ∨ k = 9 ∨ k = 10 ∨ k = 11 := by omega
      rcases hk with rfl | rfl | rfl | rfl | rfl | rfl | rfl | rfl | rfl
      · rw [show T r = 44 from hW.rs tn rfl rfl hr]; rfl
      · rw [show T r = 45 from hW.rs tn rfl rfl hr]; rfl
      · rw [show T r = 46 from hW.rs tn rfl rfl hr]; rfl
      · rw [show T r = 47 from hW.rs tn rfl rfl hr]; rfl
      · rw [show T r = 48 from hW.rs tn rfl rfl hr]; rfl
      · rw [show T r = 49 from hW.rs tn rfl rfl hr]; rfl
      · rw [show T r = 50 from hW.rs tn rfl rfl hr]; rfl
      · rw [show T r = 51 from hW.rs tn rfl rfl hr]; rfl
      · rw [show T r = 52 from hW.rs tn rfl rfl hr]; rfl
  exact z.rc hW tx (fun a j ha => r a j (fun w => ha (by rw [w]; exact to))) (fun n h10 j => r n j (hD n o h10 ho).1)
theorem DjN.rc (h : DjN R x) (hW : Wf T cn K N I9 R d) (tx : T x = 1) (rx : ∀ j, R1 x j = R x j) (r : ∀ a j, T a = 13 → 3 ≤ j → j ≤ 11 → R1 a j = R a j) : DjN R1 x := by
  intro a b h10 h14
  rw [rx] at h10 h14
  have ta : T a = 13 := hW.rs tx rfl rfl h10
  have tb : T b = 13 := hW.rs tx rfl rfl h14
  obtain ⟨z1, z2⟩ := h a b h10 h14
  exact ⟨z1, fun k l q k1 k2 l1 l2 hk hl => z2 k l q k1 k2 l1 l2 (by rw [← r a k ta k1 k2]; exact hk) (by rw [← r b l tb l1 l2]; exact hl)⟩
/-- a night was played under the own sky: what it reads -/
theorem SkZ.cl {cl cl' th th' : Int} {lo : Int} {n : Nat} (h : SkZ I R sk (mkZ X lo n E c cl th)) : SkZ I R sk (mkZ X lo n E c cl' th') := h
end CzN10
section CzN11
variable {T : Nat → Nat} {cn : Nat} {K N : Nat → Nat} {d d1 : Int} {I J I9 : cz_I} {R R1 R2 : cz_R} {x sk al nw n k i q o : Nat} {X E : Nat → Nat → Int} {c : Nat → Int} {wi wr : List Nat} {v w : Int32}
/-- tables and counts as they must be, whatever CALLS are made and turners there -/
def GdE (c : Nat → Int) (E : Nat → Nat → Int) : Prop := ∀ (X : Nat → Nat → Int) (lo : Int) (n : Nat) (cl th : Int), 0 ≤ cl ∧ cl ≤ 63 → 0 ≤ th ∧ th ≤ 31 → GdN (mkZ X lo n E c cl th)
theorem GdE.n0 (h : GdE c E) : GdN (mkZ E00 0 0 E c 0 0) := h E00 0 0 0 0 ⟨by decide, by decide⟩ ⟨by decide, by decide⟩
theorem GdE.hut (h : GdE c E) : ∀ k : Nat, (k : Int) < c 3 → 0 ≤ E 35 k ∧ E 35 k ≤ 3 := fun k hk => by
  have a := h.n0.ch (k := k) hk
  have b := h.n0.cs.2.1
  have a2 : 0 ≤ E 35 k ∧ E 35 k < c 1 := a
  have b2 : 0 ≤ c 1 ∧ c 1 ≤ 4 := b
  omega
theorem pw_all {c : Int} (h0 : 0 ≤ c) (h5 : c ≤ 5) : 0 ≤ pw c - 1 ∧ pw c - 1 ≤ 31 := by
  have e : c = 0 ∨ c = 1 ∨ c = 2 ∨ c = 3 ∨ c = 4 ∨ c = 5 := by omega
  rcases e with rfl | rfl | rfl | rfl | rfl | rfl <;> decide
theorem GdE.c4 (h : GdE c E) : 0 ≤ c 4 ∧ c 4 ≤ 5 := h.n0.cs.2.2.2.1
theorem GdE.own (h : GdE c E) {cl : Int} (hc : 0 ≤ cl ∧ cl ≤ 63) (X : Nat → Nat → Int) (lo : Int) (n : Nat) : GdN (mkZ X lo n E c cl (pw (c 4) - 1)) := h X lo n cl _ hc (pw_all h.c4.1 h.c4.2)
theorem SkZ.own (hS : SkW I R x X) (hT : StW I R x X E c) (h8 : R x 8 = some sk) (h2 : R x 2 = some al) (h6 : R x 6 = some nw) (hA : CVa I R al c E) (hG : GdE c E) : SkZ I R sk (NgZ I al nw X E c) := by
  obtain ⟨a, b⟩ := hT sk al nw h8 h2 h6
  have z := hS sk al nw h8 h2 h6
  rw [hA.ct.1, hA.ct.2.1] at z
  exact SkZ.of z a b hG.hut (fun _ => rfl)
theorem NgP.own (hQ : NgQ I R x X E c) (hK : SkQ I R x X) (h11 : (I x 11).toInt = 1) (h10 : R x 10 = some n) (h8 : R x 8 = some sk) (h2 : R x 2 = some al) (h6 : R x 6 = some nw) (hA : CVa I R al c E) (hG : GdE c E) : NgP I R n (NgZ I al nw X E c) ∧ NgR I R n (NgZ I al nw X E c) (c 0).toNat := by
  obtain ⟨h9, hW'⟩ := hQ.2 h11
  obtain ⟨r0, r1, r2, r3⟩ := hW' n al sk nw h10 h2 h8 h6
  have z := SkZ.own (hK h9) (hQ.1 h9) h8 h2 h6 hA hG
  refine ⟨fun al' sk' g0 g1 => ?_, r3⟩
  obtain rfl := Option.some.inj (r0.symm.trans g0)
  obtain rfl := Option.some.inj (r1.symm.trans g1)
  exact ⟨hA, z, r2⟩
theorem R13w {a j : Nat} (g : St T cn K N d wi wr I R J R1) (c : ∀ j : Nat, j < 12 → 3 ≤ j → wm wr 13 j = false) (ta : T a = 13) (h3 : 3 ≤ j) (h11 : j ≤ 11) : R1 a j = R a j := g.rcell ta (c j (by omega) h3)
theorem DjN.st (h : DjN R x) (hW : Wf T cn K N I9 R d1) (tx : T x = 1) (g : St T cn K N d wi wr I R J R1) (c1 : wr.all (fun c => Nat.beq (c / 64) 13) = true) (c2 : ∀ j : Nat, j < 12 → 3 ≤ j → wm wr 13 j = false) : DjN R1 x :=
  h.rc hW tx (fun j => R13 g c1 x j (by omega)) (fun a j ta h3 h11 => R13w g c2 ta h3 h11)
theorem CVa.gs (h : CVa I R al c E) (hW : Wf T cn K N I R d) (ta : T al = 2) (g : St T cn K N d1 wi wr I R J R1) (c1 : wr.all (fun c => Nat.beq (c / 64) 13) = true) (c2 : wi.all (fun c => !(Nat.beq (c / 64) 2 || rdc (c / 64))) = true) : CVa J R1 al c E :=
  (h.cg hW ta (fun j => g.2.1 al j (wm_p (p := fun r => !(Nat.beq r 2 || rdc r)) c2 (by rw [ta]; rfl))) (fun a j ra => g.2.1 a j (wm_p (p := fun r => !(Nat.beq r 2 || rdc r)) c2 (by rw [ra, Bool.or_true]; rfl)))).rc hW ta (R13 g c1)
/-- the night was played under the own sky -/
theorem NgQ.pl {cl th : Int} (hT : StW J R2 x X E c) (e9 : (J x 9).toInt = 1) (r10 : R2 x 10 = some n) (r2 : R2 x 2 = some al) (r8 : R2 x 8 = some sk) (r6 : R2 x 6 = some nw) (p0 : R2 n 0 = some al) (p1 : R2 n 1 = some sk) (p2 : (J n 2).toInt = (J nw 0).toInt) (p3 : NgR J R2 n (NgZ J al nw X E c) (c 0).toNat) : NgQ J R2 x X E c :=
  ⟨fun _ => hT, fun _ => ⟨e9, fun n' al' sk' nw' g10 g2 g8 g6 => by
    obtain rfl := Option.some.inj (r10.symm.trans g10)
    obtain rfl := Option.some.inj (r2.symm.trans g2)
    obtain rfl := Option.some.inj (r8.symm.trans g8)
    obtain rfl := Option.some.inj (r6.symm.trans g6)
    exact ⟨p0, p1, p2, p3⟩⟩⟩
/-- the sky was built anew: no night stands -/
theorem NgQ.skb (h : NgQ I R x X E c) (n9 : ¬ (I x 9).toInt = 1) (e11 : J x 11 = I x 11) (hT : StW J R x X E c) : NgQ J R x X E c :=
  ⟨fun _ => hT, fun h11 => absurd (h.2 (by rw [← e11]; exact h11)).1 n9⟩
theorem StW.bld (hW : Wf T cn K N I9 R d) (tx : T x = 1) (d8 : R x 8 = some sk) (d2 : R x 2 = some al) (d6 : R x 6 = some nw) (hA : CVa I R al c E) (g : St T cn K N d1 wi wr I R1 J R2) (cw : wi.all (fun c => !(Nat.beq (c / 64) 2 || Nat.beq (c / 64) 8)) = true) (hB : Bts (J sk 1) (fun j => if (j : Int) < (I al 1).toInt then 1 else 0)) (hv : v.toInt = -1) (hS : ∀ oA rA, R al 8 = some oA → R oA 1 = some rA → StR J R sk (I al 0).toInt (stI X v.toInt ((I al 3).toInt.toNat + (I nw 2).toInt.toNat) (I al 1).toInt (fun x => exI (fun j => if (I rA j).toInt = x then 1 else 0) (I oA 0).toInt.toNat))) : StW J R x X E c := by
  intro s a n h8 h2 h6
  obtain rfl := Option.some.inj (d8.symm.trans h8)
  obtain rfl := Option.some.inj (d2.symm.trans h2)
  obtain rfl := Option.some.inj (d6.symm.trans h6)
  have t2 : T al = 2 := hW.rs tx rfl rfl h2
  have t6 : T nw = 8 := hW.rs tx rfl rfl h6
  obtain ⟨c0, c1', -⟩ := hA.ct
  have e3 : J al 3 = I al 3 := g.2.1 al 3 (wm_p (p := fun r => !(Nat.beq r 2 || Nat.beq r 8)) cw (by rw [t2]; rfl))
  have e6 : J nw 2 = I nw 2 := g.2.1 nw 2 (wm_p (p := fun r => !(Nat.beq r 2 || Nat.beq r 8)) cw (by rw [t6]; rfl))
  rw [c1'] at hB
  refine ⟨hB, ?_⟩
  obtain ⟨oA, h8', to⟩ := rf2_8 hW t2
  obtain ⟨rA, hr, -⟩ := rf6_1 hW to
  have z := hS oA rA h8' hr
  rw [c0, c1', hv] at z
  rw [e3, e6]
  refine z.cg (fun m hm => ?_)
  have ea : (fun x => exI (fun j => if (I rA j).toInt = x then 1 else 0) (I oA 0).toInt.toNat) = alE E := funext (fun x => by
    unfold alE
    rw [hA.an h8']
    exact exI_cg _ (fun k hk => by rw [hA.ar h8' hr (k := k) (by omega)]))
  rw [ea]
theorem allT {o v p : Int32} (ho : o.toInt = 1) (hp : p.toInt = 1) (h0 : 0 ≤ v.toInt) (h5 : v.toInt ≤ 5) : ((o <<< (v &&& 31)) - p).toInt = pw v.toInt - 1 := by
  obtain rfl : o = 1 := Int32.toInt_inj.mp (ho.trans rfl)
  obtain rfl : p = 1 := Int32.toInt_inj.mp (hp.trans rfl)
  obtain ⟨a, ha, rfl, ea⟩ := i32_nat (n := 6) h0 (by omega) (by omega)
  rw [ea]
  exact (by decide : ∀ a : Nat, a < 6 → (((1 : Int32) <<< (Int32.ofNat a &&& 31)) - 1).toInt = pw (a : Int) - 1) a ha
theorem NgR.rc {Z : cz_N} {M : Nat} (h : NgR I R n Z M) (r : ∀ k, 3 ≤ k → k ≤ 11 → R1 n k = R n k) : NgR I R1 n Z M := by
  obtain ⟨q3, q4, q5, q6, q7, q8, q9, q10, q11⟩ := h
  exact ⟨fun a hr => q3 a ((r 3 (by omega) (by omega)).symm.trans hr), fun a hr => q4 a ((r 4 (by omega) (by omega)).symm.trans hr), fun a hr => q5 a ((r 5 (by omega) (by omega)).symm.trans hr), fun a hr => q6 a ((r 6 (by omega) (by omega)).symm.trans hr), fun a hr => q7 a ((r 7 (by omega) (by omega)).symm.trans hr), fun a hr => q8 a ((r 8 (by omega) (by omega)).symm.trans hr), fun a hr => q9 a ((r 9 (by omega) (by omega)).symm.trans hr), fun a hr => q10 a ((r 10 (by omega) (by omega)).symm.trans hr), fun a hr => q11 a ((r 11 (by omega) (by omega)).symm.trans hr)⟩
/-- behind presentNight's play -/
theorem NgQ.pn {J2 : cz_I} {vc vt : Int32} (hQ : NgQ I R x X E c) (h9 : (I x 9).toInt = 1) (hW : Wf T cn K N I9 R d) (tx : T x = 1) (g : St T cn K N d1 wi wr I R J R1) (cw : wi.all (fun c => !(Nat.beq (c / 64) 1 || Nat.beq (c / 64) 2 || Nat.beq (c / 64) 8 || Nat.beq (c / 64) 12 || Nat.beq (c / 64) 43)) = true) (c1 : wr.all (fun c => Nat.beq (c / 64) 13) = true) (c2 : ∀ j : Nat, j < 12 → 3 ≤ j → wm wr 13 j = false) (d10 : R x 10 = some n) (d2 : R x 2 = some al) (d8 : R x 8 = some sk) (d6 : R x 6 = some nw) (p0 : R1 n 0 = some al) (p1 : R1 n 1 = some sk) (p2 : J n 2 = vc) (hv : I nw 0 = vc) (ht : vt.toInt = pw (c 4) - 1) (p3 : NgR J R n (mkZ X (-1) ((I al 3).toInt.toNat + (I nw 2).toInt.toNat) E c vc.toInt vt.toInt) (c 0).toNat) (f : ∀ a j, ¬ (a = x ∧ j = 11) → J2 a j = J a j) : NgQ J2 R1 x X E c := by
  have r := R13 g c1
  have rx : ∀ j, R1 x j = R x j := fun j => r x j (by omega)
  have tn : T n = 13 := hW.rs tx rfl rfl d10
  have ta : T al = 2 := hW.rs tx rfl rfl d2
  have ts : T sk = 12 := hW.rs tx rfl rfl d8
  have tw : T nw = 8 := hW.rs tx rfl rfl d6
  have e0 : ∀ a j, (Nat.beq (T a) 1 || Nat.beq (T a) 2 || Nat.beq (T a) 8 || Nat.beq (T a) 12 || Nat.beq (T a) 43) = true → J a j = I a j := fun a j z => g.2.1 a j (wm_p (p := fun r => !(Nat.beq r 1 || Nat.beq r 2 || Nat.beq r 8 || Nat.beq r 12 || Nat.beq r 43)) cw (by rw [z]; rfl))
  have fo : ∀ a j k, T a = k → ¬ k = 1 → J2 a j = J a j := fun a j k hk hn => f a j (fun z => hn (by rw [← hk, z.1]; exact tx))
  have eal : J2 al 3 = I al 3 := (fo al 3 2 ta (by decide)).trans (e0 al 3 (by rw [ta]; rfl))
  have enw : ∀ j, J2 nw j = I nw j := fun j => (fo nw j 8 tw (by decide)).trans (e0 nw j (by rw [tw]; rfl))
  have e9 : J2 x 9 = I x 9 := (f x 9 (fun z => absurd z.2 (by decide))).trans (e0 x 9 (by rw [tx]; rfl))
  have hT : StW J2 R1 x X E c := by
    intro sk' al' nw' h8 h2 h6
    rw [rx] at h8 h2 h6
    obtain rfl := Option.some.inj (d8.symm.trans h8)
    obtain rfl := Option.some.inj (d2.symm.trans h2)
    obtain rfl := Option.some.inj (d6.symm.trans h6)
    obtain ⟨a, b1, b2⟩ := hQ.1 h9 sk al nw d8 d2 d6
    have es : ∀ j, J2 sk j = I sk j := fun j => (fo sk j 12 ts (by decide)).trans (e0 sk j (by rw [ts]; rfl))
    rw [es 1, eal, enw 2]
    refine ⟨a, by rw [es 10]; exact b1, fun q hq m hm hf => ?_⟩
    rw [r sk 11 (by omega)] at hq
    have tq : T q = 43 := hW.rs ts rfl rfl hq
    rw [(fo q _ 43 tq (by decide)).trans (e0 q _ (by rw [tq]; rfl))]; exact b2 q hq m hm hf
  refine NgQ.pl (cl := 0) (th := 0) hT (by rw [e9]; exact h9) ((rx 10).trans d10) ((rx 2).trans d2) ((rx 8).trans d8) ((rx 6).trans d6) p0 p1 ?_ ?_
  · rw [fo n 2 13 tn (by decide), p2, enw 0, hv]
  · have z : NgZ J2 al nw X E c = mkZ X (-1) ((I al 3).toInt.toNat + (I nw 2).toInt.toNat) E c vc.toInt vt.toInt := by unfold NgZ; rw [eal, enw 2, enw 0, hv, ht]
    rw [z]
    refine (p3.rc (fun k k1 k2 => R13w g c2 tn k1 k2)).kp (fun q j s s1 s2 hq => ?_)
    have hq' : R n s = some q := (R13w g c2 tn s1 s2).symm.trans hq
    have hk : s = 3 ∨ s = 4 ∨ s = 5 ∨ s = 6 ∨ s = 7 ∨ s = 8 ∨ s = 9 ∨ s = 10 ∨ s = 11 := by omega
    rcases hk with rfl | rfl | rfl | rfl | rfl | rfl | rfl | rfl | rfl
    · exact fo q j 44 (hW.rs tn rfl rfl hq') (by decide)
    · exact fo q j 45 (hW.rs tn rfl rfl hq') (by decide)
    · exact fo q j 46 (hW.rs tn rfl rfl hq') (by decide)
    · exact fo q j 47 (hW.rs tn rfl rfl hq') (by decide)
    · exact fo q j 48 (hW.rs tn rfl rfl hq') (by decide)
    · exact fo q j 49 (hW.rs tn rfl rfl hq') (by decide)
    · exact fo q j 50 (hW.rs tn rfl rfl hq') (by decide)
    · exact fo q j 51 (hW.rs tn rfl rfl hq') (by decide)
    · exact fo q j 52 (hW.rs tn rfl rfl hq') (by decide)
end CzN11
section CzN12
variable {T : Nat → Nat} {cn : Nat} {K N : Nat → Nat} {d d1 : Int} {I J I9 : cz_I} {R R1 R2 : cz_R} {x sk al nw n k i q o : Nat} {X E : Nat → Nat → Int} {c : Nat → Int} {wi wr : List Nat} {Z : cz_N} {m : Nat}
theorem nbN {w x y s q : Int32} {f : Nat → Int} {k : Nat} (h : Nib w f) (hk : k < 8) (hy : y.toInt = 4 * (k : Int)) (hs : s = (w.toUInt32 >>> (y.toUInt32 &&& Int32.toUInt32 31)).toInt32) (hq : q = s &&& x) (hx : x.toInt = 15) : q.toInt = if f k = -2 then 0 else f k + 1 := by
  obtain rfl : x = 15 := Int32.toInt_inj.mp (hx.trans rfl)
  have ey : y = Int32.ofNat (4 * k) := by
    have z := (by decide : ∀ k : Nat, k < 8 → (Int32.ofNat (4 * k)).toInt = 4 * (k : Int)) k hk
    exact Int32.toInt_inj.mp (hy.trans z.symm)
  have z := h k hk
  rw [hq, hs, ey]; exact z
theorem tqB_b {b : Nat → Int} {h t : Int} {e : Nat → Int} (ht : 0 ≤ t ∧ t ≤ 4) (hb : b k = -2 ∨ (0 ≤ b k ∧ b k ≤ 4)) : tqB t b h e k = -2 ∨ (0 ≤ tqB t b h e k ∧ tqB t b h e k ≤ 4) := by
  unfold tqB; split
  · exact Or.inr ht
  · exact hb
theorem mB_b {mi : Int} {f : Nat → Int} : ∀ u : Nat, u ≤ 5 → mB Z mi f u k = -2 ∨ (0 ≤ mB Z mi f u k ∧ mB Z mi f u k ≤ 4)
  | 0, _ => Or.inl rfl
  | u + 1, hu => by
    have ih := mB_b (mi := mi) (f := f) u (by omega)
    rw [mBi_s]; split
    · exact tqB_b ⟨by omega, by omega⟩ ih
    · exact ih
theorem nB_b (h5 : nzc Z 4 ≤ 5) : nB Z m k = -2 ∨ (0 ≤ nB Z m k ∧ nB Z m k ≤ 4) := by
  unfold nB; split
  · exact Or.inl rfl
  · exact mB_b _ (by omega)
/-- one of the first bits -/
theorem B8.uq {v w : Int32} {f : Nat → Int} (h : B8 v f) (g : B8 w f) : v.toInt = w.toInt := by
  obtain ⟨h0, h1, h2⟩ := h
  obtain ⟨g0, g1, g2⟩ := g
  have e : ∀ k : Nat, k < 8 → bt v.toInt (k : Int) = bt w.toInt (k : Int) := fun k hk => (h2 k hk).trans (g2 k hk).symm
  have a0 := e 0 (by omega)
  have a1 := e 1 (by omega)
  have a2 := e 2 (by omega)
  have a3 := e 3 (by omega)
  have a4 := e 4 (by omega)
  have a5 := e 5 (by omega)
  have a6 := e 6 (by omega)
  have a7 := e 7 (by omega)
  unfold bt pw at a0 a1 a2 a3 a4 a5 a6 a7
  have p0 : (2 : Int) ^ ((0 : Nat) : Int).toNat = 1 := rfl
  have p1 : (2 : Int) ^ ((1 : Nat) : Int).toNat = 2 := rfl
  have p2 : (2 : Int) ^ ((2 : Nat) : Int).toNat = 4 := rfl
  have p3 : (2 : Int) ^ ((3 : Nat) : Int).toNat = 8 := rfl
  have p4 : (2 : Int) ^ ((4 : Nat) : Int).toNat = 16 := rfl
  have p5 : (2 : Int) ^ ((5 : Nat) : Int).toNat = 32 := rfl
  have p6 : (2 : Int) ^ ((6 : Nat) : Int).toNat = 64 := rfl
  have p7 : (2 : Int) ^ ((7 : Nat) : Int).toNat = 128 := rfl
  rw [p0] at a0
  rw [p1] at a1
  rw [p2] at a2
  rw [p3] at a3
  rw [p4] at a4
  rw [p5] at a5
  rw [p6] at a6
  rw [p7] at a7
  omega
theorem xr01 {x y z : Int32} (hx : 0 ≤ x.toInt ∧ x.toInt ≤ 1) (hy : 0 ≤ y.toInt ∧ y.toInt ≤ 1) (h : z = x ^^^ y) : z.toInt = if x.toInt = y.toInt then 0 else 1 := by
  obtain ⟨a, ha, rfl, ea⟩ := i32_nat (n := 2) hx.1 (by omega) (by omega)
  obtain ⟨b, hb, rfl, eb⟩ := i32_nat (n := 2) hy.1 (by omega) (by omega)
  rw [h, ea, eb]
  exact (by decide : ∀ a : Nat, a < 2 → ∀ b : Nat, b < 2 → (Int32.ofNat a ^^^ Int32.ofNat b).toInt = if (a : Int) = (b : Int) then 0 else 1) a ha b hb
theorem nV_s (k M : Nat) : nV Z k (M + 1) = if nB Z M k = -2 then nV Z k M else 1 - nV Z k M := rfl
/-- whether a cheese has all the veins of slice i, and no other -/
def fiZ (Z : cz_N) (i k : Nat) : Int := if qR Z k (nzc Z 0).toNat + qW Z k (nzc Z 0).toNat = nzT Z (25 + i) 0 ∧ exI (fun j => if nB Z (nzT Z (30 + i) j).toNat k = -2 then 1 else 0) (nzT Z (25 + i) 0).toNat = 0 then 1 else 0
theorem fiZ_01 (i k : Nat) : fiZ Z i k = 0 ∨ fiZ Z i k = 1 := if01
theorem CVa.sl {V ob : Nat} (h : CVa I R al c E) (hV : R al 14 = some V) (hi : (i : Int) < c 6) (h4 : c 6 ≤ 4) (ho : R V i = some ob) : (I ob 0).toInt = E (25 + i) 0 ∧ ∀ r, R ob 1 = some r → ∀ j : Nat, (j : Int) < E (25 + i) 0 → (I r j).toInt = E (30 + i) j := by
  refine ⟨h.2.2.2.2.2 (25 + i) 0 ob (by omega) (by unfold Db; rw [if_neg (by omega), if_neg (by omega), if_neg (by omega), if_pos (by omega), if_pos (by omega)]; omega) (ObS hV (by omega) ho), fun r hr j hj => h.2.2.2.2.2 (30 + i) j r (by omega) (by unfold Db; rw [if_neg (by omega), if_neg (by omega), if_neg (by omega), if_neg (by omega), if_neg (by omega), if_pos (by omega), if_pos (by omega), show 30 + i - 5 = 25 + i by omega]; exact hj) (ObSa hV (by omega) ho hr)⟩
end CzN12
/-! ===== what is asked of a night ===== -/
def chZ (Z : cz_N) (k : Nat) (w : Int) : Int := if w = 0 then nzT Z 35 k else if w = 1 then qR Z k (nzc Z 0).toNat + qW Z k (nzc Z 0).toNat else if w = 2 then qR Z k (nzc Z 0).toNat else if w = 3 then qM Z k (nzc Z 0).toNat else if w = 4 then qW Z k (nzc Z 0).toNat else if w = 5 then qK Z k (nzc Z 0).toNat else pzZ Z k
def wkZ (Z : cz_N) (t : Nat) (w : Int) : Int := if w = 0 then qT Z t (nzc Z 0).toNat else if w = 1 then qS Z t (nzc Z 0).toNat else if w = 2 then qN Z t (nzc Z 0).toNat else cnM (fun m => awZ Z t (m : Int)) (nzc Z 0).toNat
def vnF (Z : cz_N) (k : Nat) : Nat → Int := fun m => if nB Z m k = -2 then 0 else 1
/-- the first that is 1, -2: none -/
def fst1 (f : Nat → Int) : Nat → Int
  | 0 => -2
  | n + 1 => if fst1 f n = -2 then (if f n = 1 then (n : Int) else -2) else fst1 f n
/-- the EVENT of a vein: the first that begins or ends in its minute -/
def evZ (X : Nat → Nat → Int) (m : Int) : Nat → Int := fun e => if X e 2 = m ∨ X e 3 = m then 1 else 0
def CauZ (Z : cz_N) (X : Nat → Nat → Int) (n k : Nat) (i v : Int) : Prop := ∃ m, Chg (vnF Z k) (nzc Z 0) i m ∧ ((m = -1 ∧ v = -1) ∨ (0 ≤ m ∧ v = fst1 (evZ X m) n))
/-- all but one -/
def wOu (n t : Int) : Int := (Int32.ofInt n &&& (((1 : Int32) <<< (Int32.ofInt t &&& 31)) ^^^ (-1))).toInt
section CzN13
variable {T : Nat → Nat} {cn : Nat} {K N : Nat → Nat} {d d1 : Int} {I J J1 I9 : cz_I} {R R1 R2 : cz_R} {x sk al nw n k i q o b : Nat} {X E : Nat → Nat → Int} {c : Nat → Int} {wi wr : List Nat} {Z : cz_N} {m : Nat}
theorem fst1_s {f : Nat → Int} {n : Nat} (h : fst1 f n = -2) (e : ¬ f n = 1) : fst1 f (n + 1) = -2 := by rw [fst1, if_pos h, if_neg e]
theorem fst1_1 {f : Nat → Int} {k : Nat} (h : fst1 f k = -2) (e : f k = 1) : ∀ n : Nat, k < n → fst1 f n = (k : Int)
  | 0, hk => absurd hk (Nat.not_lt_zero _)
  | n + 1, hk => by
    rw [fst1]
    by_cases z : k = n
    · subst z; rw [if_pos h, if_pos e]
    · have y := fst1_1 h e n (by omega)
      rw [if_neg (by omega)]; exact y
theorem CauZ.uq {v w : Int} {n k : Nat} {i : Int} (h : CauZ Z X n k i v) (g : CauZ Z X n k i w) : v = w := by
  obtain ⟨m, a, b⟩ := h
  obtain ⟨m', a', b'⟩ := g
  have e := Chg.uq (fun k => by unfold vnF; split <;> omega) a a'
  subst e
  rcases b with ⟨b1, b2⟩ | ⟨b1, b2⟩ <;> rcases b' with ⟨c1, c2⟩ | ⟨c1, c2⟩ <;> omega
theorem wOu_of {a b p o t v q' : Int32} {n : Int} (ha : a.toInt = n) (ho : o.toInt = 1) (hb : b = p ^^^ q') (hq : q'.toInt = -1) (hp : p = o <<< (t &&& 31)) (hv : v = a &&& b) : v.toInt = wOu n t.toInt := by
  obtain rfl : o = 1 := Int32.toInt_inj.mp (ho.trans rfl)
  obtain rfl : q' = -1 := Int32.toInt_inj.mp (hq.trans rfl)
  unfold wOu
  rw [← ha, Int32.ofInt_toInt, Int32.ofInt_toInt, hv, hb, hp]
theorem wOu_b {n t : Int} (h0 : 0 ≤ n) (h5 : n ≤ 5) (t0 : 0 ≤ t) (t5 : t < n) : 0 ≤ wOu (pw n - 1) t ∧ wOu (pw n - 1) t ≤ 31 := by
  obtain ⟨a, rfl⟩ : ∃ a : Nat, n = (a : Int) := ⟨n.toNat, by omega⟩
  obtain ⟨b, rfl⟩ : ∃ b : Nat, t = (b : Int) := ⟨t.toNat, by omega⟩
  exact (by decide +kernel : ∀ a : Nat, a < 6 → ∀ b : Nat, b < 6 → 0 ≤ wOu (pw (a : Int) - 1) (b : Int) ∧ wOu (pw (a : Int) - 1) (b : Int) ≤ 31) a (by omega) b (by omega)
/-- slices as they must be -/
def GdS (c : Nat → Int) (E : Nat → Nat → Int) : Prop := ∀ i j : Nat, (i : Int) < c 6 → (j : Int) < E (25 + i) 0 → E (30 + i) j < c 0
theorem slH {V ob : Nat} (h : CVa I R al c E) (hG : GdS c E) (hV : R al 14 = some V) (hi : (i : Int) < c 6) (h4 : c 6 ≤ 4) (ho : R V i = some ob) : (I ob 0).toInt = E (25 + i) 0 ∧ ∀ r, R ob 1 = some r → ∀ j : Nat, (j : Int) < E (25 + i) 0 → (I r j).toInt = E (30 + i) j ∧ E (30 + i) j < c 0 := by
  obtain ⟨a, b⟩ := h.sl hV hi h4 ho
  exact ⟨a, fun r hr j hj => ⟨b r hr j hj, hG i j hi hj⟩⟩
/-- the other night stays what it was, though the own one is played -/
theorem NgP.oth (h : NgP I R o Z) (hR : NgR I R o Z m) (hD : DjN R x) (h10 : R x 10 = some n) (h14 : R x 14 = some o) (hW : Wf T cn K N I9 R d) (tx : T x = 1) (fr : FrN R n T I J) (r : ∀ a j, ¬ a = n → R1 a j = R a j) (hn : ∀ al sk, R o 0 = some al → R o 1 = some sk → CVa J R1 al (nzc Z) (nzT Z) ∧ SkZ J R1 sk Z) : NgP J R1 o Z ∧ NgR J R1 o Z m := by
  obtain ⟨hno, dr⟩ := hD n o h10 h14
  have to : T o = 13 := hW.rs tx rfl rfl h14
  have ro : ∀ j, R1 o j = R o j := fun j => r o j (fun z => hno z.symm)
  refine ⟨fun al sk h0 h1 => ?_, ?_⟩
  · rw [ro] at h0 h1
    obtain ⟨a, b⟩ := hn al sk h0 h1
    exact ⟨a, b, by rw [fr.1 o 2 to (fun z => hno z.symm)]; exact (h al sk h0 h1).2.2⟩
  · refine (hR.rc (fun k _ _ => ro k)).kp (fun q j s s1 s2 hq => fr.2 q j ?_ (fun l l1 l2 hl => dr l s q l1 l2 s1 s2 hl ((ro s).symm.trans hq)))
    have hq' : R o s = some q := (ro s).symm.trans hq
    have hk : s = 3 ∨ s = 4 ∨ s = 5 ∨ s = 6 ∨ s = 7 ∨ s = 8 ∨ s = 9 ∨ s = 10 ∨ s = 11 := by omega
    rcases hk with rfl | rfl | rfl | rfl | rfl | rfl | rfl | rfl | rfl
    · rw [show T q = 44 from hW.rs to rfl rfl hq']; rfl
    · rw [show T q = 45 from hW.rs to rfl rfl hq']; rfl
    · rw [show T q = 46 from hW.rs to rfl rfl hq']; rfl
    · rw [show T q = 47 from hW.rs to rfl rfl hq']; rfl
    · rw [show T q = 48 from hW.rs to rfl rfl hq']; rfl
    · rw [show T q = 49 from hW.rs to rfl rfl hq']; rfl
    · rw [show T q = 50 from hW.rs to rfl rfl hq']; rfl
    · rw [show T q = 51 from hW.rs to rfl rfl hq']; rfl
    · rw [show T q = 52 from hW.rs to rfl rfl hq']; rfl
end CzN13
section CzN15
variable {T : Nat → Nat} {cn : Nat} {K N : Nat → Nat} {d d1 : Int} {I J I9 : cz_I} {R R1 R2 : cz_R} {x sk al nw n : Nat} {X E : Nat → Nat → Int} {c : Nat → Int} {lo cl th : Int}
/-- a sky that was built: what a night reads of it -/
theorem SkZ.bld (hW : Wf T cn K N I9 R d) (t2 : T al = 2) (hA : CVa I R al c E) (hG : GdE c E) (hF : SkF J R sk (I al 0).toInt (I al 1).toInt lo X n (I al 0).toInt) (hB : Bts (J sk 1) (fun j => if (j : Int) < (I al 1).toInt then 1 else 0)) (hS : ∀ oA rA, R al 8 = some oA → R oA 1 = some rA → StR J R sk (I al 0).toInt (stI X lo n (I al 1).toInt (fun x => exI (fun j => if (I rA j).toInt = x then 1 else 0) (I oA 0).toInt.toNat))) : SkZ J R sk (mkZ X lo n E c cl th) := by
  obtain ⟨c0, c1, -⟩ := hA.ct
  obtain ⟨oA, h8, to⟩ := rf2_8 hW t2
  obtain ⟨rA, hr, -⟩ := rf6_1 hW to
  have z := hS oA rA h8 hr
  rw [c0, c1] at z hF
  rw [c1] at hB
  have ea : (fun x => exI (fun j => if (I rA j).toInt = x then 1 else 0) (I oA 0).toInt.toNat) = alE E := funext (fun x => by
    unfold alE
    rw [hA.an h8]
    exact exI_cg _ (fun k hk => by rw [hA.ar h8 hr (k := k) (by omega)]))
  rw [ea] at z
  exact SkZ.of hF hB z hG.hut (fun _ => rfl)
end CzN15
/-! ===== the best ===== -/
def pcI (n : Int) : Int := bt n 0 + bt n 1 + bt n 2 + bt n 3 + bt n 4 + bt n 5
def bsP (f : Nat → Int) : Nat → Int × Int
  | 0 => (0, -100000)
  | n + 1 => if (bsP f n).2 < f n ∨ (f n = (bsP f n).2 ∧ pcI n < pcI (bsP f n).1) then ((n : Int), f n) else bsP f n
def byF (g : Nat → Int) : Nat → Int
  | 0 => -2
  | n + 1 => if (byF g n = -2 ∨ pcI n < pcI (byF g n)) ∧ g n = 1 then (n : Int) else byF g n
/-- a night with these CALLS made -/
def wkF (X E : Nat → Nat → Int) (c : Nat → Int) (n : Nat) : Nat → Int := fun cl => toZ (mkZ X (-1) n E c (cl : Int) (pw (c 4) - 1))
def byG (X E : Nat → Nat → Int) (c : Nat → Int) (n i : Nat) : Nat → Int := fun cl => exI (fiZ (mkZ X (-1) n E c (cl : Int) (pw (c 4) - 1)) i) (c 3).toNat
def bcE (x : Int32) : Int32 := ((((((((x - (((x).toUInt32 >>> (((1 : Int32)).toUInt32 &&& Int32.toUInt32 31)).toInt32 &&& (1431655765 : Int32))) &&& (858993459 : Int32)) + ((((x - (((x).toUInt32 >>> (((1 : Int32)).toUInt32 &&& Int32.toUInt32 31)).toInt32 &&& (1431655765 : Int32)))).toUInt32 >>> (((2 : Int32)).toUInt32 &&& Int32.toUInt32 31)).toInt32 &&& (858993459 : Int32))) + (((((x - (((x).toUInt32 >>> (((1 : Int32)).toUInt32 &&& Int32.toUInt32 31)).toInt32 &&& (1431655765 : Int32))) &&& (858993459 : Int32)) + ((((x - (((x).toUInt32 >>> (((1 : Int32)).toUInt32 &&& Int32.toUInt32 31)).toInt32 &&& (1431655765 : Int32)))).toUInt32 >>> (((2 : Int32)).toUInt32 &&& Int32.toUInt32 31)).toInt32 &&& (858993459 : Int32)))).toUInt32 >>> (((4 : Int32)).toUInt32 &&& Int32.toUInt32 31)).toInt32) &&& (252645135 : Int32)) + (((((((x - (((x).toUInt32 >>> (((1 : Int32)).toUInt32 &&& Int32.toUInt32 31)).toInt32 &&& (1431655765 : Int32))) &&& (858993459 : Int32)) + ((((x - (((x).toUInt32 >>> (((1 : Int32)).toUInt32 &&& Int32.toUInt32 31)).toInt32 &&& (1431655765 : Int32)))).toUInt32 >>> (((2 : Int32)).toUInt32 &&& Int32.toUInt32 31)).toInt32 &&& (858993459 : Int32))) + (((((x - (((x).toUInt32 >>> (((1 : Int32)).toUInt32 &&& Int32.toUInt32 31)).toInt32 &&& (1431655765 : Int32))) &&& (858993459 : Int32)) + ((((x - (((x).toUInt32 >>> (((1 : Int32)).toUInt32 &&& Int32.toUInt32 31)).toInt32 &&& (1431655765 : Int32)))).toUInt32 >>> (((2 : Int32)).toUInt32 &&& Int32.toUInt32 31)).toInt32 &&& (858993459 : Int32)))).toUInt32 >>> (((4 : Int32)).toUInt32 &&& Int32.toUInt32 31)).toInt32) &&& (252645135 : Int32))).toUInt32 >>> (((8 : Int32)).toUInt32 &&& Int32.toUInt32 31)).toInt32) + ((((((((x - (((x).toUInt32 >>> (((1 : Int32)).toUInt32 &&& Int32.toUInt32 31)).toInt32 &&& (1431655765 : Int32))) &&& (858993459 : Int32)) + ((((x - (((x).toUInt32 >>> (((1 : Int32)).toUInt32 &&& Int32.toUInt32 31)).toInt32 &&& (1431655765 : Int32)))).toUInt32 >>> (((2 : Int32)).toUInt32 &&& Int32.toUInt32 31)).toInt32 &&& (858993459 : Int32))) + (((((x - (((x).toUInt32 >>> (((1 : Int32)).toUInt32 &&& Int32.toUInt32 31)).toInt32 &&& (1431655765 : Int32))) &&& (858993459 : Int32)) + ((((x - (((x).toUInt32 >>> (((1 : Int32)).toUInt32 &&& Int32.toUInt32 31)).toInt32 &&& (1431655765 : Int32)))).toUInt32 >>> (((2 : Int32)).toUInt32 &&& Int32.toUInt32 31)).toInt32 &&& (858993459 : Int32)))).toUInt32 >>> (((4 : Int32)).toUInt32 &&& Int32.toUInt32 31)).toInt32) &&& (252645135 : Int32)) + (((((((x - (((x).toUInt32 >>> (((1 : Int32)).toUInt32 &&& Int32.toUInt32 31)).toInt32 &&& (1431655765 : Int32))) &&& (858993459 : Int32)) + ((((x - (((x).toUInt32 >>> (((1 : Int32)).toUInt32 &&& Int32.toUInt32 31)).toInt32 &&& (1431655765 : Int32)))).toUInt32 >>> (((2 : Int32)).toUInt32 &&& Int32.toUInt32 31)).toInt32 &&& (858993459 : Int32))) + (((((x - (((x).toUInt32 >>> (((1 : Int32)).toUInt32 &&& Int32.toUInt32 31)).toInt32 &&& (1431655765 : Int32))) &&& (858993459 : Int32)) + ((((x - (((x).toUInt32 >>> (((1 : Int32)).toUInt32 &&& Int32.toUInt32 31)).toInt32 &&& (1431655765 : Int32)))).toUInt32 >>> (((2 : Int32)).toUInt32 &&& Int32.toUInt32 31)).toInt32 &&& (858993459 : Int32)))).toUInt32 >>> (((4 : Int32)).toUInt32 &&& Int32.toUInt32 31)).toInt32) &&& (252645135 : Int32))).toUInt32 >>> (((8 : Int32)).toUInt32 &&& Int32.toUInt32 31)).toInt32)).toUInt32 >>> (((16 : Int32)).toUInt32 &&& Int32.toUInt32 31)).toInt32) &&& (63 : Int32))
theorem bc_T : ∀ a : Nat, a < 64 → (bcE (Int32.ofNat a)).toInt = pcI (a : Int) := by decide +kernel
theorem bc_X {x : Int32} (h : 0 ≤ x.toInt ∧ x.toInt ≤ 63) : (((((((((x - (((x).toUInt32 >>> (((1 : Int32)).toUInt32 &&& Int32.toUInt32 31)).toInt32 &&& (1431655765 : Int32))) &&& (858993459 : Int32)) + ((((x - (((x).toUInt32 >>> (((1 : Int32)).toUInt32 &&& Int32.toUInt32 31)).toInt32 &&& (1431655765 : Int32)))).toUInt32 >>> (((2 : Int32)).toUInt32 &&& Int32.toUInt32 31)).toInt32 &&& (858993459 : Int32))) + (((((x - (((x).toUInt32 >>> (((1 : Int32)).toUInt32 &&& Int32.toUInt32 31)).toInt32 &&& (1431655765 : Int32))) &&& (858993459 : Int32)) + ((((x - (((x).toUInt32 >>> (((1 : Int32)).toUInt32 &&& Int32.toUInt32 31)).toInt32 &&& (1431655765 : Int32)))).toUInt32 >>> (((2 : Int32)).toUInt32 &&& Int32.toUInt32 31)).toInt32 &&& (858993459 : Int32)))).toUInt32 >>> (((4 : Int32)).toUInt32 &&& Int32.toUInt32 31)).toInt32) &&& (252645135 : Int32)) + (((((((x - (((x).toUInt32 >>> (((1 : Int32)).toUInt32 &&& Int32.toUInt32 31)).toInt32 &&& (1431655765 : Int32))) &&& (858993459 : Int32)) + ((((x - (((x).toUInt32 >>> (((1 : Int32)).toUInt32 &&& Int32.toUInt32 31)).toInt32 &&& (1431655765 : Int32)))).toUInt32 >>> (((2 : Int32)).toUInt32 &&& Int32.toUInt32 31)).toInt32 &&& (858993459 : Int32))) + (((((x - (((x).toUInt32 >>> (((1 : Int32)).toUInt32 &&& Int32.toUInt32 31)).toInt32 &&& (1431655765 : Int32))) &&& (858993459 : Int32)) + ((((x - (((x).toUInt32 >>> (((1 : Int32)).toUInt32 &&& Int32.toUInt32 31)).toInt32 &&& (1431655765 : Int32)))).toUInt32 >>> (((2 : Int32)).toUInt32 &&& Int32.toUInt32 31)).toInt32 &&& (858993459 : Int32)))).toUInt32 >>> (((4 : Int32)).toUInt32 &&& Int32.toUInt32 31)).toInt32) &&& (252645135 : Int32))).toUInt32 >>> (((8 : Int32)).toUInt32 &&& Int32.toUInt32 31)).toInt32) + ((((((((x - (((x).toUInt32 >>> (((1 : Int32)).toUInt32 &&& Int32.toUInt32 31)).toInt32 &&& (1431655765 : Int32))) &&& (858993459 : Int32)) + ((((x - (((x).toUInt32 >>> (((1 : Int32)).toUInt32 &&& Int32.toUInt32 31)).toInt32 &&& (1431655765 : Int32)))).toUInt32 >>> (((2 : Int32)).toUInt32 &&& Int32.toUInt32 31)).toInt32 &&& (858993459 : Int32))) + (((((x - (((x).toUInt32 >>> (((1 : Int32)).toUInt32 &&& Int32.toUInt32 31)).toInt32 &&& (1431655765 : Int32))) &&& (858993459 : Int32)) + ((((x - (((x).toUInt32 >>> (((1 : Int32)).toUInt32 &&& Int32.toUInt32 31)).toInt32 &&& (1431655765 : Int32)))).toUInt32 >>> (((2 : Int32)).toUInt32 &&& Int32.toUInt32 31)).toInt32 &&& (858993459 : Int32)))).toUInt32 >>> (((4 : Int32)).toUInt32 &&& Int32.toUInt32 31)).toInt32) &&& (252645135 : Int32)) + (((((((x - (((x).toUInt32 >>> (((1 : Int32)).toUInt32 &&& Int32.toUInt32 31)).toInt32 &&& (1431655765 : Int32))) &&& (858993459 : Int32)) + ((((x - (((x).toUInt32 >>> (((1 : Int32)).toUInt32 &&& Int32.toUInt32 31)).toInt32 &&& (1431655765 : Int32)))).toUInt32 >>> (((2 : Int32)).toUInt32 &&& Int32.toUInt32 31)).toInt32 &&& (858993459 : Int32))) + (((((x - (((x).toUInt32 >>> (((1 : Int32)).toUInt32 &&& Int32.toUInt32 31)).toInt32 &&& (1431655765 : Int32))) &&& (858993459 : Int32)) + ((((x - (((x).toUInt32 >>> (((1 : Int32)).toUInt32 &&& Int32.toUInt32 31)).toInt32 &&& (1431655765 : Int32)))).toUInt32 >>> (((2 : Int32)).toUInt32 &&& Int32.toUInt32 31)).toInt32 &&& (858993459 : Int32)))).toUInt32 >>> (((4 : Int32)).toUInt32 &&& Int32.toUInt32 31)).toInt32) &&& (252645135 : Int32))).toUInt32 >>> (((8 : Int32)).toUInt32 &&& Int32.toUInt32 31)).toInt32)).toUInt32 >>> (((16 : Int32)).toUInt32 &&& Int32.toUInt32 31)).toInt32) &&& (63 : Int32))).toInt = pcI x.toInt := by
  obtain ⟨a, ha, rfl, ea⟩ := i32_nat (n := 64) h.1 (by omega) (by omega)
  rw [ea]; exact bc_T a ha
theorem bc_M : ∀ a : Nat, a < 64 → 0 < a → pcI (Int32.ofNat a &&& (Int32.ofNat a - 1)).toInt = pcI (a : Int) - 1 ∧ 0 ≤ (Int32.ofNat a &&& (Int32.ofNat a - 1)).toInt ∧ (Int32.ofNat a &&& (Int32.ofNat a - 1)).toInt < (a : Int) := by decide +kernel
theorem exI_e {f : Nat → Int} : ∀ n : Nat, exI f n = 1 → ∃ k, k < n ∧ f k = 1
  | 0, h => by have h : (0 : Int) = 1 := h; omega
  | n + 1, h => by
    rw [exI] at h
    by_cases z : f n = 1
    · exact ⟨n, by omega, z⟩
    · rw [if_neg z] at h
      obtain ⟨k, hk, e⟩ := exI_e n h
      exact ⟨k, by omega, e⟩
section CzN14
variable {f g : Nat → Int} {n : Nat} {b t v b' t' : Int}
theorem pcI_b {x : Int} : 0 ≤ pcI x ∧ pcI x ≤ 6 := by
  have h0 := bt_01 x 0
  have h1 := bt_01 x 1
  have h2 := bt_01 x 2
  have h3 := bt_01 x 3
  have h4 := bt_01 x 4
  have h5 := bt_01 x 5
  unfold pcI; omega
theorem bsP.up (hb : b = (bsP f n).1) (ht : t = (bsP f n).2) (hv : v = f n) (h : t < v ∨ (v = t ∧ pcI n < pcI b)) (e1 : b' = (n : Int)) (e2 : t' = v) : b' = (bsP f (n + 1)).1 ∧ t' = (bsP f (n + 1)).2 := by
  subst hb ht hv
  rw [bsP, if_pos h]; exact ⟨e1, e2⟩
theorem bsP.no (hb : b = (bsP f n).1) (ht : t = (bsP f n).2) (hv : v = f n) (h : ¬ (t < v ∨ (v = t ∧ pcI n < pcI b))) (e1 : b' = b) (e2 : t' = t) : b' = (bsP f (n + 1)).1 ∧ t' = (bsP f (n + 1)).2 := by
  subst hb ht hv
  rw [bsP, if_neg h]; exact ⟨e1, e2⟩
theorem byF.up (hb : b = byF g n) (h : b = -2 ∨ pcI n < pcI b) (hg : g n = 1) (e : b' = (n : Int)) : b' = byF g (n + 1) := by
  subst hb
  rw [byF, if_pos ⟨h, hg⟩]; exact e
theorem byF.no (hb : b = byF g n) (h : ¬ (b = -2 ∨ pcI n < pcI b) ∨ ¬ g n = 1) (e : b' = b) : b' = byF g (n + 1) := by
  subst hb
  rw [byF, if_neg (fun w => h.elim (fun z => z w.1) (fun z => z w.2))]; exact e
/-- the reference's best so far -/
def BmJ (f : Nat → Int) (n : Nat) (b t : Int) : Prop := (n = 0 ∧ b = -1) ∨ (0 < n ∧ 0 ≤ b ∧ b < (n : Int) ∧ b = (bsP f n).1 ∧ t = (bsP f n).2 ∧ t = f b.toNat)
theorem BmJ.up (h : BmJ f n b t) (hv : v = f n) (hm : -100000 < v) (c : b = -1 ∨ t < v ∨ (v = t ∧ pcI n < pcI b)) (e1 : b' = (n : Int)) (e2 : t' = v) : BmJ f (n + 1) b' t' := by
  have ef : t' = f b'.toNat := by rw [e2, e1, hv]; rfl
  rcases h with ⟨h1, h2⟩ | ⟨h1, h2, h3, h4, h5, h6⟩
  · subst h1
    refine Or.inr ⟨by omega, by omega, by omega, ?_, ?_, ef⟩
    · rw [bsP, if_pos (Or.inl (by show (-100000 : Int) < f 0; omega))]; exact e1
    · rw [bsP, if_pos (Or.inl (by show (-100000 : Int) < f 0; omega))]; exact e2.trans hv
  · have z := bsP.up (f := f) (n := n) h4 h5 hv (c.resolve_left (by omega)) e1 e2
    exact Or.inr ⟨by omega, by omega, by omega, z.1, z.2, ef⟩
theorem BmJ.no (h : BmJ f n b t) (hv : v = f n) (c : ¬ b = -1 ∧ ¬ (t < v ∨ (v = t ∧ pcI n < pcI b))) (e1 : b' = b) (e2 : t' = t) : BmJ f (n + 1) b' t' := by
  rcases h with ⟨h1, h2⟩ | ⟨h1, h2, h3, h4, h5, h6⟩
  · exact absurd h2 c.1
  · have z := bsP.no (f := f) (n := n) h4 h5 hv c.2 e1 e2
    exact Or.inr ⟨by omega, by omega, by omega, z.1, z.2, by rw [e1, e2]; exact h6⟩
theorem bc_N {x o y z : Int32} (hx : 0 ≤ x.toInt ∧ x.toInt ≤ 63) (h0 : ¬ x.toInt = 0) (ho : o.toInt = 1) (hy : y = x - o) (hz : z = x &&& y) : pcI z.toInt = pcI x.toInt - 1 ∧ 0 ≤ z.toInt ∧ z.toInt < x.toInt := by
  obtain rfl : o = 1 := Int32.toInt_inj.mp (ho.trans rfl)
  obtain ⟨a, ha, rfl, ea⟩ := i32_nat (n := 64) hx.1 (by omega) (by omega)
  rw [ea] at h0
  rw [hz, hy, ea]
  exact bc_M a ha (by omega)
theorem shC {o v : Int32} (ho : o.toInt = 1) (h0 : 0 ≤ v.toInt) (h6 : v.toInt ≤ 6) : (o <<< (v &&& 31)).toInt = pw v.toInt ∧ 1 ≤ pw v.toInt ∧ pw v.toInt ≤ 64 := by
  obtain rfl : o = 1 := Int32.toInt_inj.mp (ho.trans rfl)
  obtain ⟨a, ha, rfl, ea⟩ := i32_nat (n := 7) h0 (by omega) (by omega)
  rw [ea]
  exact (by decide : ∀ a : Nat, a < 7 → ((1 : Int32) <<< (Int32.ofNat a &&& 31)).toInt = pw (a : Int) ∧ 1 ≤ pw (a : Int) ∧ pw (a : Int) ≤ 64) a ha
theorem allC {o v p : Int32} (ho : o.toInt = 1) (hp : p.toInt = 1) (h0 : 0 ≤ v.toInt) (h6 : v.toInt ≤ 6) : ((o <<< (v &&& 31)) - p).toInt = pw v.toInt - 1 := by
  obtain rfl : o = 1 := Int32.toInt_inj.mp (ho.trans rfl)
  obtain rfl : p = 1 := Int32.toInt_inj.mp (hp.trans rfl)
  obtain ⟨a, ha, rfl, ea⟩ := i32_nat (n := 7) h0 (by omega) (by omega)
  rw [ea]
  exact (by decide : ∀ a : Nat, a < 7 → (((1 : Int32) <<< (Int32.ofNat a &&& 31)) - 1).toInt = pw (a : Int) - 1) a ha
theorem pw_c {c : Int} (h0 : 0 ≤ c) (h6 : c ≤ 6) : 0 ≤ pw c - 1 ∧ pw c - 1 ≤ 63 := by
  have e : c = 0 ∨ c = 1 ∨ c = 2 ∨ c = 3 ∨ c = 4 ∨ c = 5 ∨ c = 6 := by omega
  rcases e with rfl | rfl | rfl | rfl | rfl | rfl | rfl <;> decide
/-- no bit: none of the first -/
theorem B8.nz {w : Int32} {F : Nat → Int} {c3 : Int} (h : B8 w (fun k => if (k : Int) < c3 ∧ F k = 1 then 1 else 0)) (h8 : c3 ≤ 8) : (¬ w.toInt = 0) ↔ exI F c3.toNat = 1 := by
  constructor
  · intro z
    by_cases y : exI F c3.toNat = 1
    · exact y
    · have hF : ∀ k : Nat, k < 8 → bt w.toInt (k : Int) = 0 := fun k hk => by
        rw [h.2.2 k hk]
        show (if (k : Int) < c3 ∧ F k = 1 then (1 : Int) else 0) = 0
        exact if_neg (fun q => y (exI_1 _ k (by omega) q.2))
      exact absurd (B8.uq (f := fun _ => 0) ⟨h.1, h.2.1, hF⟩ (B8.z (v := 0) rfl)) z
  · intro z y
    obtain ⟨k, hk, e⟩ := exI_e _ z
    have q := h.2.2 k (by omega)
    rw [y, bt_z] at q
    have q : (0 : Int) = if (k : Int) < c3 ∧ F k = 1 then (1 : Int) else 0 := q
    rw [if_pos ⟨by omega, e⟩] at q
    omega
end CzN14
/-! ===== the reference's counts of a turner ===== -/
def wkC (Z : cz_N) (m t : Nat) : Nat → Int := fun k => if nB Z m k = (t : Int) then 1 else 0
def wkR (Z : cz_N) (m t : Nat) : Nat → Int := fun k => if nB Z m k = (t : Int) ∧ nzC Z (nzT Z 35 k) m = 1 then 1 else 0
def wmZ (Z : cz_N) (t : Nat) (w : Int) : Nat → Int := fun m => if w = 0 then cnM (wkC Z m t) (nzc Z 3).toNat else if w = 1 then cnM (wkR Z m t) (nzc Z 3).toNat else if w = 2 then (if 0 < cnM (wkC Z m t) (nzc Z 3).toNat then 1 else 0) else awZ Z t (m : Int)
/-! ===== the reference's answers of a night ===== -/
section CzNm4
variable {T : Nat → Nat} {cn : Nat} {K N : Nat → Nat} {d d1 : Int} {I J J1 J2 I9 : cz_I} {R R' R1 R2 : cz_R} {m b w r k i q : Nat} {wi wr : List Nat} {Z : cz_N} {X E : Nat → Nat → Int} {c : Nat → Int} {lo cl th : Int} {n : Nat}
/-- tables and counts of the reference's ALP -/
def NmE (I : cz_I) (R : cz_R) (m : Nat) (E : Nat → Nat → Int) (c : Nat → Int) : Prop := ∀ b, R m 3 = some b → (∀ k, k < 7 → (I b k).toInt = c k) ∧ AlM I R b c E
/-- its night of tonight -/
def NgM (I : cz_I) (b w : Nat) (X E : Nat → Nat → Int) (c : Nat → Int) : cz_N := mkZ X (-1) ((I b 2).toInt + (I w 1).toInt).toNat E c (I w 0).toInt (pw (c 4) - 1)
def nme (q : Nat) : Bool := Nat.beq q 14 || rdm q
theorem NmE.st (h : NmE I R m E c) (hW : Wf T cn K N I9 R d) (tm : T m = 15) (g : St T cn K N d1 wi wr I R1 J R2) (cw : wi.all (fun c => !(nme (c / 64))) = true) : NmE J R m E c := by
  have e : ∀ a j, nme (T a) = true → J a j = I a j := fun a j ta => g.2.1 a j (wm_p (p := fun r => !(nme r)) cw (by rw [ta]; rfl))
  intro b hb
  have tb : T b = 14 := hW.rsN tm rfl hb
  obtain ⟨a1, a2⟩ := h b hb
  exact ⟨fun k hk => by rw [e b k (by rw [tb]; rfl)]; exact a1 k hk, a2.kp hW tb (e b 8 (by rw [tb]; rfl)) (fun a j ra => e a j (by unfold nme; rw [ra, Bool.or_true]))⟩
theorem NmP.clt {cl' th' : Int} (h : NmP I R m (mkZ X lo n E c cl th)) : NmP I R m (mkZ X lo n E c cl' th') := h
/-- the light is laid: what a night reads stands -/
theorem NmP.ll (h : ∀ b w, R m 3 = some b → R m 16 = some w → SkM J R m (I b 0).toInt (I b 1).toInt lo X ((I b 2).toInt + (I w 1).toInt).toNat (I b 0).toInt (I b 0).toInt 0) (hA : NmE I R m E c) (hA1 : NmE J R m E c) (d3 : R m 3 = some b) (d16 : R m 16 = some w) : NmP J R m (mkZ X lo ((I b 2).toInt + (I w 1).toInt).toNat E c cl th) := by
  obtain ⟨a, -⟩ := hA b d3
  have z := h b w d3 d16
  rw [a 0 (by omega), a 1 (by omega)] at z
  exact ⟨hA1, NmK.of z⟩
end CzNm4
section CzNm5
variable {I : cz_I} {R : cz_R} {b a i j : Nat} {c : Nat → Int} {E : Nat → Nat → Int}
theorem AlM.sn (h : AlM I R b c E) (ha : R b 17 = some a) (hi : (i : Int) < c 6) (h4 : c 6 ≤ 4) : (I a i).toInt = E (25 + i) 0 := by
  have z := h.2 (25 + i) 0 a (by omega) (by unfold Dbm Db; rw [if_neg (by omega), if_neg (by omega), if_neg (by omega), if_neg (by omega), if_neg (by omega), if_pos (by omega), if_pos (by omega)]; omega) (by unfold mrs; rw [if_neg (by omega), if_neg (by omega), if_neg (by omega), if_pos (by omega)]; exact ha)
  unfold mri at z; rw [if_neg (by omega), if_neg (by omega), if_neg (by omega), if_pos (by omega), show 25 + i - 25 = i by omega] at z; exact z
theorem AlM.sm (h : AlM I R b c E) (ha : R b 18 = some a) (hi : (i : Int) < c 6) (h4 : c 6 ≤ 4) (hj : (j : Int) < E (25 + i) 0) : (I a (8 * i + j)).toInt = E (30 + i) j := by
  have z := h.2 (30 + i) j a (by omega) (by unfold Dbm Db; rw [if_neg (by omega), if_neg (by omega), if_neg (by omega), if_neg (by omega), if_neg (by omega), if_neg (by omega), if_neg (by omega), if_pos (by omega), if_pos (by omega), show 30 + i - 5 = 25 + i by omega]; exact hj) (by unfold mrs; rw [if_neg (by omega), if_neg (by omega), if_neg (by omega), if_neg (by omega), if_pos (by omega)]; exact ha)
  unfold mri at z; rw [if_neg (by omega), if_neg (by omega), if_neg (by omega), if_neg (by omega), if_pos (by omega), show 30 + i - 30 = i by omega] at z; exact z
theorem or_z {v w z : Int32} (hz : z.toInt = 0) (h : w = v ||| z) : w = v := by
  obtain rfl : z = 0 := Int32.toInt_inj.mp (hz.trans rfl)
  rw [h]; exact Int32.or_zero
end CzNm5
section CzQn
variable {X : cz_X} {M : cz_M} {pc : Nat} {ls : Nat → Option Value} {st : List Value} {cn : Nat} {K N : Nat → Nat} {I : cz_I} {R : cz_R} {L : cz_L} {n w : Nat}
theorem q_inegE {x : Int32} (hd : decode (cz_cc M) pc = .ok (.ineg, 1)) (h : -2147483648 < x.toInt) (k : ∀ v : Int32, v.toInt = -x.toInt → Tr X M (pc + 1) ls (.int v :: st) cn K N I R L n w) : Tr X M pc ls (.int x :: st) cn K N I R L n w := tr_ineg hd (k _ (by have u := Int32.toInt_lt x; rw [Int32.toInt_neg]; exact cz_bm (by omega) (by omega)))
end CzQn
