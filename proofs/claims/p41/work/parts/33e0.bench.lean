/-! ===== the reference's sky ===== -/
section CzSk5
variable {T : Nat → Nat} {cn : Nat} {K N : Nat → Nat} {d d1 : Int} {I J J1 J2 : cz_I} {R R1 R2 : cz_R} {m r k i q ix : Nat} {lo hi l l' mi c1 : Int} {X : Nat → Nat → Int} {wi wr : List Nat} {e n : Nat} {u : Int32}
/-- places lo .. hi of row r hold u -/
def LyV (u : Int32) (I J : cz_I) (r : Nat) (lo hi : Int) : Prop := ∀ j : Nat, J r j = if lo ≤ (j : Int) ∧ (j : Int) < hi then u else I r j
/-- one place p of row r holds u, if P -/
def MkW (u : Int32) (I J : cz_I) (r : Nat) (P : Prop) [Decidable P] (p : Int) : Prop := ∀ j : Nat, J r j = if P ∧ (j : Int) = p then u else I r j
theorem LyV.z (e : ∀ j, J r j = I r j) (h : hi ≤ lo) : LyV u I J r lo hi := fun j => by rw [if_neg (by omega)]; exact e j
theorem MkW.at {P : Prop} [Decidable P] {p : Int} (hp : P) (hx : (ix : Int) = p) (e : J r ix = u) (f : ∀ j, ¬ j = ix → J r j = I r j) : MkW u I J r P p := fun j => by
  by_cases z : j = ix
  · subst z; rw [if_pos ⟨hp, hx⟩]; exact e
  · rw [if_neg (fun w => z (by omega))]; exact f j z
theorem MkW.no {P : Prop} [Decidable P] {p : Int} (hp : ¬ P) (f : ∀ j, J r j = I r j) : MkW u I J r P p := fun j => by rw [if_neg (fun w => hp w.1)]; exact f j
theorem LyV.mk {P : Prop} [Decidable P] (h : LyV u I J r lo (if P then l else lo)) (g : MkW u J J2 r P l) (hl : lo ≤ l) (h' : l' = l + 1) : LyV u I J2 r lo (if P then l' else lo) := fun j => by
  rw [g j, h j]
  by_cases p : P
  · rw [if_pos p, if_pos p]
    by_cases z : (j : Int) = l
    · rw [if_pos ⟨p, z⟩, if_pos (by omega)]
    · rw [if_neg (fun w => z w.2)]
      by_cases y : lo ≤ (j : Int) ∧ (j : Int) < l
      · rw [if_pos y, if_pos (by omega)]
      · rw [if_neg y, if_neg (by omega)]
  · rw [if_neg p, if_neg p, if_neg (fun w => p w.1)]
theorem LyV.fif {P : Prop} [Decidable P] (h : LyV u I J r lo (if P then l else lo)) (h1 : hi ≤ l) (h2 : l ≤ hi ∨ l = lo) : LyV u I J r lo (if P then hi else lo) := fun j => by
  rw [h j]
  by_cases p : P
  · rw [if_pos p, if_pos p]
    by_cases y : lo ≤ (j : Int) ∧ (j : Int) < l
    · rw [if_pos y, if_pos (by omega)]
    · rw [if_neg y, if_neg (by omega)]
  · rw [if_neg p, if_neg p]
/-- EVENTS told, and clouds that came, as rows X, in the reference -/
def EvB (X : Nat → Nat → Int) (n : Int) : Prop := ∀ e : Nat, (e : Int) < n → 0 ≤ X e 0 ∧ X e 0 ≤ 4 ∧ (X e 0 = 2 ∨ X e 0 = 3 → 0 ≤ X e 1 ∧ X e 1 ≤ 3) ∧ 0 ≤ X e 2 ∧ X e 2 ≤ 240 ∧ 0 ≤ X e 3 ∧ X e 3 ≤ 240
def EvY (I : cz_I) (R : cz_R) (m : Nat) (X : Nat → Nat → Int) : Prop := ∀ b w, R m 3 = some b → R m 16 = some w → EvB X ((I b 2).toInt + (I w 1).toInt) ∧
  (∀ (f e a : Nat), f < 4 → (e : Int) < (I b 2).toInt → R b (11 + f) = some a → (I a e).toInt = X e f) ∧
  ∀ c : Nat, (c : Int) < (I w 1).toInt → X ((I b 2).toInt.toNat + c) 0 = 0 ∧ X ((I b 2).toInt.toNat + c) 1 = -2 ∧ X ((I b 2).toInt.toNat + c) 2 = (I w (3 + c)).toInt ∧ X ((I b 2).toInt.toNat + c) 3 = (I w (9 + c)).toInt
theorem EvY.st {x : Nat} (h : EvY I R x X) (hW : Wf T cn K N I R d) (tx : T x = 15) (g : St T cn K N d1 wi wr I R J R) (c : wi.all (fun c => !(Nat.beq (c / 64) 14 || Nat.beq (c / 64) 54 || Nat.beq (c / 64) 55 || Nat.beq (c / 64) 56 || Nat.beq (c / 64) 57 || Nat.beq (c / 64) 77)) = true) : EvY J R x X := by
  intro b w hb hw
  have tb : T b = 14 := hW.rsN tx rfl hb
  have tw : T w = 77 := hW.rs tx rfl rfl hw
  obtain ⟨z0, z1, z2⟩ := h b w hb hw
  have e : ∀ a j, (Nat.beq (T a) 14 || Nat.beq (T a) 54 || Nat.beq (T a) 55 || Nat.beq (T a) 56 || Nat.beq (T a) 57 || Nat.beq (T a) 77) = true → J a j = I a j := fun a j ta => g.2.1 a j (wm_p (p := fun r => !(Nat.beq r 14 || Nat.beq r 54 || Nat.beq r 55 || Nat.beq r 56 || Nat.beq r 57 || Nat.beq r 77)) c (by rw [ta]; rfl))
  have eb : ∀ j, J b j = I b j := fun j => e b j (by rw [tb]; rfl)
  have ew : ∀ j, J w j = I w j := fun j => e w j (by rw [tw]; rfl)
  refine ⟨by rw [eb, ew]; exact z0, fun f e1 a hf he ha => ?_, fun c1 hc => ?_⟩
  · rw [eb] at he
    rw [e a e1 ?_]; exact z1 f e1 a hf he ha
    have hf4 : f = 0 ∨ f = 1 ∨ f = 2 ∨ f = 3 := by omega
    rcases hf4 with rfl | rfl | rfl | rfl
    · rw [show T a = 54 from hW.rs tb rfl rfl ha]; rfl
    · rw [show T a = 55 from hW.rs tb rfl rfl ha]; rfl
    · rw [show T a = 56 from hW.rs tb rfl rfl ha]; rfl
    · rw [show T a = 57 from hW.rs tb rfl rfl ha]; rfl
  · rw [ew] at hc
    rw [eb, ew, ew]; exact z2 c1 hc
/-- the rows of told things, EVENTS below e laid -/
def MkR (I : cz_I) (R : cz_R) (m : Nat) (mi c1 lo : Int) (X : Nat → Nat → Int) (e : Nat) : Prop :=
  (∀ r, R m 21 = some r → ∀ k : Nat, (k : Int) < mi → (I r k).toInt = 1 - hx X 0 lo k e) ∧
  (∀ r, R m 24 = some r → ∀ k : Nat, (k : Int) < mi → (I r k).toInt = hx X 1 lo k e) ∧
  (∀ r, R m 25 = some r → ∀ k : Nat, (k : Int) < mi → (I r k).toInt = hx X 4 lo k e) ∧
  (∀ r, R m 26 = some r → ∀ h k : Nat, (h : Int) < c1 → (k : Int) < mi → (I r (240 * h + k)).toInt = hh X 3 lo k h e) ∧
  (∀ r, R m 23 = some r → ∀ h k : Nat, (h : Int) < c1 → (k : Int) < mi → (I r (240 * h + k)).toInt = hh X 2 lo k h e)
theorem MkR.skip (h : MkR I R m mi c1 lo X e) (he : (e : Int) = lo) : MkR I R m mi c1 lo X (e + 1) := by
  have a : ∀ k m, hx X k lo m (e + 1) = hx X k lo m e := fun k m => by rw [hx, if_neg (fun z => z.1 he)]
  have b : ∀ k m g, hh X k lo m g (e + 1) = hh X k lo m g e := fun k m g => by rw [hh, if_neg (fun z => z.1 he)]
  exact ⟨fun r hr k hk => by rw [a]; exact h.1 r hr k hk, fun r hr k hk => by rw [a]; exact h.2.1 r hr k hk, fun r hr k hk => by rw [a]; exact h.2.2.1 r hr k hk, fun r hr g k hg hk => by rw [b]; exact h.2.2.2.1 r hr g k hg hk, fun r hr g k hg hk => by rw [b]; exact h.2.2.2.2 r hr g k hg hk⟩
theorem MkR.lay {kd fr to hut : Int} (h : MkR I R m mi c1 lo X e) (he : ¬ (e : Int) = lo) (hmi : mi ≤ 240) (x0 : X e 0 = kd) (x1 : X e 1 = hut) (x2 : X e 2 = fr) (x3 : X e 3 = to) (hf : 0 ≤ fr) (ht : to ≤ 240) (hb : kd = 2 ∨ kd = 3 → 0 ≤ hut ∧ hut ≤ 3)
    (l1 : ∀ r, R m 21 = some r → LyV 0 I J r fr (if kd = 0 then to else fr)) (l2 : ∀ r, R m 24 = some r → LyV 1 I J r fr (if kd = 1 then to else fr)) (l3 : ∀ r, R m 25 = some r → LyV 1 I J r fr (if kd = 4 then to else fr)) (l4 : ∀ r, R m 26 = some r → LyV 1 I J r (240 * hut + fr) (if kd = 3 then 240 * hut + to else 240 * hut + fr)) (l5 : ∀ r, R m 23 = some r → LyV 1 I J r (240 * hut + fr) (if kd = 2 then 240 * hut + to else 240 * hut + fr)) : MkR J R m mi c1 lo X (e + 1) := by
  have row : ∀ kk : Int, ∀ r, LyV 1 I J r fr (if kd = kk then to else fr) → ∀ k : Nat, (I r k).toInt = hx X kk lo k e → (J r k).toInt = hx X kk lo k (e + 1) := fun kk r l k hk => by
    rw [l k, hx, x0, x2, x3]
    by_cases z : kd = kk
    · rw [if_pos z]
      by_cases y : fr ≤ (k : Int) ∧ (k : Int) < to
      · rw [if_pos y, if_pos ⟨he, z, y.1, y.2⟩]; rfl
      · rw [if_neg y, if_neg (fun w => y ⟨w.2.2.1, w.2.2.2⟩)]; exact hk
    · rw [if_neg z, if_neg (by omega), if_neg (fun w => z w.2.1)]; exact hk
  have row0 : ∀ r, LyV 0 I J r fr (if kd = 0 then to else fr) → ∀ k : Nat, (I r k).toInt = 1 - hx X 0 lo k e → (J r k).toInt = 1 - hx X 0 lo k (e + 1) := fun r l k hk => by
    rw [l k, hx, x0, x2, x3]
    by_cases z : kd = 0
    · rw [if_pos z]
      by_cases y : fr ≤ (k : Int) ∧ (k : Int) < to
      · rw [if_pos y, if_pos ⟨he, z, y.1, y.2⟩]; rfl
      · rw [if_neg y, if_neg (fun w => y ⟨w.2.2.1, w.2.2.2⟩)]; exact hk
    · rw [if_neg z, if_neg (by omega), if_neg (fun w => z w.2.1)]; exact hk
  have rob : ∀ kk : Int, (kk = 2 ∨ kk = 3) → ∀ r, LyV 1 I J r (240 * hut + fr) (if kd = kk then 240 * hut + to else 240 * hut + fr) → ∀ g k : Nat, (k : Int) < mi → (I r (240 * g + k)).toInt = hh X kk lo k g e → (J r (240 * g + k)).toInt = hh X kk lo k g (e + 1) := fun kk hkk r l g k hkm hk => by
    rw [l (240 * g + k), hh, x0, x1, x2, x3]
    by_cases z : kd = kk
    · obtain ⟨w1, w2⟩ := hb (by omega)
      rw [if_pos z]
      by_cases y : hut = (g : Int) ∧ fr ≤ (k : Int) ∧ (k : Int) < to
      · rw [if_pos (by omega), if_pos ⟨he, z, y.1, y.2.1, y.2.2⟩]; rfl
      · rw [if_neg (by omega), if_neg (fun w => y ⟨w.2.2.1, w.2.2.2.1, w.2.2.2.2⟩)]; exact hk
    · rw [if_neg z, if_neg (by omega), if_neg (fun w => z w.2.1)]; exact hk
  exact ⟨fun r hr k hk => row0 r (l1 r hr) k (h.1 r hr k hk), fun r hr k hk => row 1 r (l2 r hr) k (h.2.1 r hr k hk), fun r hr k hk => row 4 r (l3 r hr) k (h.2.2.1 r hr k hk), fun r hr g k hg hk => rob 3 (Or.inr rfl) r (l4 r hr) g k hk (h.2.2.2.1 r hr g k hg hk), fun r hr g k hg hk => rob 2 (Or.inl rfl) r (l5 r hr) g k hk (h.2.2.2.2 r hr g k hg hk)⟩
/-- cleared rows: minutes below i2 (sky bright), huts' below i, and of minute i those below h -/
def ClM (I : cz_I) (R : cz_R) (m : Nat) (c1 i i2 h : Int) : Prop :=
  (∀ r, R m 21 = some r → ∀ k : Nat, (k : Int) < i2 → (I r k).toInt = 1) ∧
  (∀ r, R m 24 = some r → ∀ k : Nat, (k : Int) < i2 → (I r k).toInt = 0) ∧
  (∀ r, R m 25 = some r → ∀ k : Nat, (k : Int) < i2 → (I r k).toInt = 0) ∧
  (∀ r, R m 26 = some r → ∀ g k : Nat, (g : Int) < c1 → k < 240 → ((k : Int) < i ∨ ((k : Int) = i ∧ (g : Int) < h)) → (I r (240 * g + k)).toInt = 0) ∧
  (∀ r, R m 23 = some r → ∀ g k : Nat, (g : Int) < c1 → k < 240 → ((k : Int) < i ∨ ((k : Int) = i ∧ (g : Int) < h)) → (I r (240 * g + k)).toInt = 0)
theorem ClM.of (h : ClM I R m c1 mi mi 0) (hmi : mi ≤ 240) : MkR I R m mi c1 lo X 0 :=
  ⟨fun r hr k hk => by rw [h.1 r hr k hk]; rfl, fun r hr k hk => by rw [h.2.1 r hr k hk]; rfl, fun r hr k hk => by rw [h.2.2.1 r hr k hk]; rfl, fun r hr g k hg hk => by rw [h.2.2.2.1 r hr g k hg (by omega) (Or.inl hk)]; rfl, fun r hr g k hg hk => by rw [h.2.2.2.2 r hr g k hg (by omega) (Or.inl hk)]; rfl⟩
theorem ClM.nx {i i2 h : Int} (q : ClM I R m c1 i i2 h) (hh : c1 ≤ h) (hi : i2 = i + 1) : ClM I R m c1 i2 i2 0 := by
  subst hi
  exact ⟨q.1, q.2.1, q.2.2.1, fun r hr g k hg hk hd => q.2.2.2.1 r hr g k hg hk (by omega), fun r hr g k hg hk hd => q.2.2.2.2 r hr g k hg hk (by omega)⟩
/-- all rows: minutes below i2 (sky), below i and of minute i huts below h (light, what seems) -/
def SkM (I : cz_I) (R : cz_R) (m : Nat) (mi c1 lo : Int) (X : Nat → Nat → Int) (n : Nat) (i i2 h : Int) : Prop :=
  (∀ r, R m 21 = some r → ∀ k : Nat, (k : Int) < mi → (I r k).toInt = if (k : Int) < i2 then skB X lo n k else 1 - hx X 0 lo k n) ∧
  (∀ r, R m 24 = some r → ∀ k : Nat, (k : Int) < mi → (I r k).toInt = hx X 1 lo k n) ∧
  (∀ r, R m 25 = some r → ∀ k : Nat, (k : Int) < mi → (I r k).toInt = hx X 4 lo k n) ∧
  (∀ r, R m 26 = some r → ∀ g k : Nat, (g : Int) < c1 → (k : Int) < mi → (I r (240 * g + k)).toInt = hh X 3 lo k g n) ∧
  (∀ r, R m 22 = some r → ∀ g k : Nat, (g : Int) < c1 → (k : Int) < mi → ((k : Int) < i ∨ ((k : Int) = i ∧ (g : Int) < h)) → (I r (240 * g + k)).toInt = skL X lo n c1 g k) ∧
  (∀ r, R m 23 = some r → ∀ g k : Nat, (g : Int) < c1 → (k : Int) < mi → (I r (240 * g + k)).toInt = if ((k : Int) < i ∨ ((k : Int) = i ∧ (g : Int) < h)) then skS X lo n c1 g k else hh X 2 lo k g n)
theorem SkM.of (h : MkR I R m mi c1 lo X n) : SkM I R m mi c1 lo X n 0 0 0 :=
  ⟨fun r hr k hk => by rw [if_neg (by omega)]; exact h.1 r hr k hk, h.2.1, h.2.2.1, h.2.2.2.1, fun _ _ g k _ _ hd => by omega, fun r hr g k hg hk => by rw [if_neg (by omega)]; exact h.2.2.2.2 r hr g k hg hk⟩
theorem SkM.nx {i i2 h : Int} (q : SkM I R m mi c1 lo X n i i2 h) (hh' : c1 ≤ h) (hi : i2 = i + 1) : SkM I R m mi c1 lo X n i2 i2 0 := by
  subst hi
  refine ⟨q.1, q.2.1, q.2.2.1, q.2.2.2.1, fun r hr g k hg hk hd => q.2.2.2.2.1 r hr g k hg hk (by omega), fun r hr g k hg hk => ?_⟩
  rw [q.2.2.2.2.2 r hr g k hg hk]
  by_cases z : (k : Int) < i ∨ ((k : Int) = i ∧ (g : Int) < h)
  · rw [if_pos z, if_pos (by omega)]
  · rw [if_neg z, if_neg (by omega)]
/-- a minute's sky -/
theorem SkM.sk {i : Int} {r0 : Nat} {v : Int} (q : SkM I R m mi c1 lo X n i i 0) (hW : Wf T cn K N I R d) (tm : T m = 15) (h0 : 0 ≤ i) (him : i < mi) (hx' : (ix : Int) = i) (d0 : R m 21 = some r0) (e0 : (J r0 ix).toInt = v) (f : ∀ a j, ¬ (a = r0 ∧ j = ix) → J a j = I a j) (hv : v = skB X lo n i) : SkM J R m mi c1 lo X n i (i + 1) 0 := by
  have t0 : T r0 = 81 := hW.rs tm rfl rfl d0
  have o : ∀ a j, ¬ T a = 81 → J a j = I a j := fun a j h => f a j (fun z => h (by rw [z.1]; exact t0))
  refine ⟨fun r hr k hk => ?_, fun r hr k hk => ?_, fun r hr k hk => ?_, fun r hr g k hg hk => ?_, fun r hr g k hg hk hd => ?_, fun r hr g k hg hk => ?_⟩
  · obtain rfl := Option.some.inj (d0.symm.trans hr)
    by_cases z : k = ix
    · subst z; rw [e0, if_pos (by omega), hv, hx']
    · rw [f _ k (fun w => z w.2), q.1 _ hr k hk]
      by_cases y : (k : Int) < i
      · rw [if_pos y, if_pos (by omega)]
      · rw [if_neg y, if_neg (by omega)]
  · rw [o r k (by rw [show T r = 84 from hW.rs tm rfl rfl hr]; decide)]; exact q.2.1 r hr k hk
  · rw [o r k (by rw [show T r = 85 from hW.rs tm rfl rfl hr]; decide)]; exact q.2.2.1 r hr k hk
  · rw [o r _ (by rw [show T r = 86 from hW.rs tm rfl rfl hr]; decide)]; exact q.2.2.2.1 r hr g k hg hk
  · rw [o r _ (by rw [show T r = 82 from hW.rs tm rfl rfl hr]; decide)]; exact q.2.2.2.2.1 r hr g k hg hk hd
  · rw [o r _ (by rw [show T r = 83 from hW.rs tm rfl rfl hr]; decide)]; exact q.2.2.2.2.2 r hr g k hg hk
/-- a hut's minute -/
theorem SkM.st {i h : Int} {r2 r3 : Nat} {v w : Int} (q : SkM I R m mi c1 lo X n i (i + 1) h) (hW : Wf T cn K N I R d) (tm : T m = 15) (h0 : 0 ≤ i) (him : i < mi) (hmi : mi ≤ 240) (g0 : 0 ≤ h) (g1 : h < c1) (hx' : (ix : Int) = 240 * h + i) (d2 : R m 22 = some r2) (d3 : R m 23 = some r3) (e2 : (J1 r2 ix).toInt = v) (f2 : ∀ a j, ¬ (a = r2 ∧ j = ix) → J1 a j = I a j) (e3 : (J r3 ix).toInt = w) (f3 : ∀ a j, ¬ (a = r3 ∧ j = ix) → J a j = J1 a j) (hv : v = skL X lo n c1 h i) (hw : w = skS X lo n c1 h i) : SkM J R m mi c1 lo X n i (i + 1) (h + 1) := by
  have t2 : T r2 = 82 := hW.rs tm rfl rfl d2
  have t3 : T r3 = 83 := hW.rs tm rfl rfl d3
  have o : ∀ a j, ¬ T a = 82 → ¬ T a = 83 → J a j = I a j := fun a j h1 h2 => (f3 a j (fun z => h2 (by rw [z.1]; exact t3))).trans (f2 a j (fun z => h1 (by rw [z.1]; exact t2)))
  refine ⟨fun r hr k hk => ?_, fun r hr k hk => ?_, fun r hr k hk => ?_, fun r hr g k hg hk => ?_, fun r hr g k hg hk hd => ?_, fun r hr g k hg hk => ?_⟩
  · have t : T r = 81 := hW.rs tm rfl rfl hr
    rw [o r k (by omega) (by omega)]; exact q.1 r hr k hk
  · have t : T r = 84 := hW.rs tm rfl rfl hr
    rw [o r k (by omega) (by omega)]; exact q.2.1 r hr k hk
  · have t : T r = 85 := hW.rs tm rfl rfl hr
    rw [o r k (by omega) (by omega)]; exact q.2.2.1 r hr k hk
  · have t : T r = 86 := hW.rs tm rfl rfl hr
    rw [o r _ (by omega) (by omega)]; exact q.2.2.2.1 r hr g k hg hk
  · obtain rfl := Option.some.inj (d2.symm.trans hr)
    by_cases z : (g : Int) = h ∧ (k : Int) = i
    · have y : 240 * g + k = ix := by omega
      rw [f3 _ _ (fun w => by have := w.1; rw [this] at t2; omega), y, e2, hv, z.1, z.2]
    · have y : ¬ 240 * g + k = ix := by omega
      rw [f3 _ _ (fun w => y w.2), f2 _ _ (fun w => y w.2)]
      exact q.2.2.2.2.1 _ hr g k hg hk (by omega)
  · obtain rfl := Option.some.inj (d3.symm.trans hr)
    by_cases z : (g : Int) = h ∧ (k : Int) = i
    · have y : 240 * g + k = ix := by omega
      rw [y, e3, if_pos (by omega), hw, z.1, z.2]
    · have y : ¬ 240 * g + k = ix := by omega
      rw [f3 _ _ (fun w => y w.2), f2 _ _ (fun w => y w.2), q.2.2.2.2.2 _ hr g k hg hk]
      by_cases c : (k : Int) < i ∨ ((k : Int) = i ∧ (g : Int) < h)
      · rw [if_pos c, if_pos (by omega)]
      · rw [if_neg c, if_neg (by omega)]
theorem ClM.z : ClM I R m c1 0 0 0 := ⟨fun _ _ k hk => by omega, fun _ _ k hk => by omega, fun _ _ k hk => by omega, fun _ _ g k _ _ hd => by omega, fun _ _ g k _ _ hd => by omega⟩
theorem ClM.sk {i : Int} {r0 r1 r2 : Nat} (q : ClM I R m c1 i i 0) (hW : Wf T cn K N I R d) (tm : T m = 15) (hx' : (ix : Int) = i) (d0 : R m 21 = some r0) (d1' : R m 24 = some r1) (d2 : R m 25 = some r2) (e0 : (J r0 ix).toInt = 1) (e1 : (J r1 ix).toInt = 0) (e2 : (J r2 ix).toInt = 0) (f : ∀ a j, ¬ (a = r0 ∧ j = ix) → ¬ (a = r1 ∧ j = ix) → ¬ (a = r2 ∧ j = ix) → J a j = I a j) : ClM J R m c1 i (i + 1) 0 := by
  have t0 : T r0 = 81 := hW.rs tm rfl rfl d0
  have t1 : T r1 = 84 := hW.rs tm rfl rfl d1'
  have t2 : T r2 = 85 := hW.rs tm rfl rfl d2
  have o : ∀ a j, ¬ j = ix → J a j = I a j := fun a j h => f a j (fun z => h z.2) (fun z => h z.2) (fun z => h z.2)
  have o2 : ∀ a j, ¬ T a = 81 → ¬ T a = 84 → ¬ T a = 85 → J a j = I a j := fun a j h1 h2 h3 => f a j (fun z => h1 (by rw [z.1]; exact t0)) (fun z => h2 (by rw [z.1]; exact t1)) (fun z => h3 (by rw [z.1]; exact t2))
  refine ⟨fun r hr k hk => ?_, fun r hr k hk => ?_, fun r hr k hk => ?_, fun r hr g k hg hk hd => ?_, fun r hr g k hg hk hd => ?_⟩
  · obtain rfl := Option.some.inj (d0.symm.trans hr)
    by_cases z : k = ix
    · subst z; exact e0
    · rw [o _ k z]; exact q.1 _ hr k (by omega)
  · obtain rfl := Option.some.inj (d1'.symm.trans hr)
    by_cases z : k = ix
    · subst z; exact e1
    · rw [o _ k z]; exact q.2.1 _ hr k (by omega)
  · obtain rfl := Option.some.inj (d2.symm.trans hr)
    by_cases z : k = ix
    · subst z; exact e2
    · rw [o _ k z]; exact q.2.2.1 _ hr k (by omega)
  · have t : T r = 86 := hW.rs tm rfl rfl hr
    rw [o2 r _ (by omega) (by omega) (by omega)]; exact q.2.2.2.1 r hr g k hg hk hd
  · have t : T r = 83 := hW.rs tm rfl rfl hr
    rw [o2 r _ (by omega) (by omega) (by omega)]; exact q.2.2.2.2 r hr g k hg hk hd
theorem ClM.st {i h : Int} {r2 r3 : Nat} (q : ClM I R m c1 i (i + 1) h) (hW : Wf T cn K N I R d) (tm : T m = 15) (h0 : 0 ≤ i) (him : i < 240) (g0 : 0 ≤ h) (hx' : (ix : Int) = 240 * h + i) (d2 : R m 26 = some r2) (d3 : R m 23 = some r3) (e2 : (J r2 ix).toInt = 0) (e3 : (J r3 ix).toInt = 0) (f : ∀ a j, ¬ (a = r2 ∧ j = ix) → ¬ (a = r3 ∧ j = ix) → J a j = I a j) : ClM J R m c1 i (i + 1) (h + 1) := by
  have t2 : T r2 = 86 := hW.rs tm rfl rfl d2
  have t3 : T r3 = 83 := hW.rs tm rfl rfl d3
  have o : ∀ a j, ¬ j = ix → J a j = I a j := fun a j h => f a j (fun z => h z.2) (fun z => h z.2)
  have o2 : ∀ a j, ¬ T a = 86 → ¬ T a = 83 → J a j = I a j := fun a j h1 h2 => f a j (fun z => h1 (by rw [z.1]; exact t2)) (fun z => h2 (by rw [z.1]; exact t3))
  refine ⟨fun r hr k hk => ?_, fun r hr k hk => ?_, fun r hr k hk => ?_, fun r hr g k hg hk hd => ?_, fun r hr g k hg hk hd => ?_⟩
  · have t : T r = 81 := hW.rs tm rfl rfl hr
    rw [o2 r k (by omega) (by omega)]; exact q.1 r hr k hk
  · have t : T r = 84 := hW.rs tm rfl rfl hr
    rw [o2 r k (by omega) (by omega)]; exact q.2.1 r hr k hk
  · have t : T r = 85 := hW.rs tm rfl rfl hr
    rw [o2 r k (by omega) (by omega)]; exact q.2.2.1 r hr k hk
  · obtain rfl := Option.some.inj (d2.symm.trans hr)
    by_cases z : 240 * g + k = ix
    · rw [z]; exact e2
    · rw [o _ _ z]; exact q.2.2.2.1 _ hr g k hg hk (by omega)
  · obtain rfl := Option.some.inj (d3.symm.trans hr)
    by_cases z : 240 * g + k = ix
    · rw [z]; exact e3
    · rw [o _ _ z]; exact q.2.2.2.2 _ hr g k hg hk (by omega)
theorem SkM.ch {h k v : Int} {r2 : Nat} (q : SkM I R m mi c1 lo X n mi mi 0) (d2 : R m 22 = some r2) (h0 : 0 ≤ h) (h1 : h < c1) (k0 : 0 ≤ k) (k1 : k < mi) (e : v = if 0 < k ∧ ¬ (I r2 (240 * h + k).toNat).toInt = (I r2 (240 * h + k - 1).toNat).toInt then 1 else 0) : v = skC X lo n c1 h k := by
  have z := q.2.2.2.2.1 r2 d2 h.toNat k.toNat (by omega) (by omega) (Or.inl (by omega))
  rw [show 240 * h.toNat + k.toNat = (240 * h + k).toNat by omega, show ((h.toNat : Nat) : Int) = h by omega, show ((k.toNat : Nat) : Int) = k by omega] at z
  rw [e, z]
  by_cases p : 0 < k
  · have y := q.2.2.2.2.1 r2 d2 h.toNat (k - 1).toNat (by omega) (by omega) (Or.inl (by omega))
    rw [show 240 * h.toNat + (k - 1).toNat = (240 * h + k - 1).toNat by omega, show ((h.toNat : Nat) : Int) = h by omega, show (((k - 1).toNat : Nat) : Int) = k - 1 by omega] at y
    rw [y]; rfl
  · rw [if_neg (fun w => p w.1)]; unfold skC; rw [if_neg (fun w => p w.1)]
theorem SkM.se {h k v : Int} {r2 : Nat} (q : SkM I R m mi c1 lo X n mi mi 0) (d2 : R m 23 = some r2) (h0 : 0 ≤ h) (h1 : h < c1) (k0 : 0 ≤ k) (k1 : k < mi) (e : v = if 0 < k ∧ ¬ (I r2 (240 * h + k).toNat).toInt = (I r2 (240 * h + k - 1).toNat).toInt then 1 else 0) : v = skT X lo n c1 h k := by
  have z := q.2.2.2.2.2 r2 d2 h.toNat k.toNat (by omega) (by omega)
  rw [if_pos (Or.inl (by omega)), show 240 * h.toNat + k.toNat = (240 * h + k).toNat by omega, show ((h.toNat : Nat) : Int) = h by omega, show ((k.toNat : Nat) : Int) = k by omega] at z
  rw [e, z]
  by_cases p : 0 < k
  · have y := q.2.2.2.2.2 r2 d2 h.toNat (k - 1).toNat (by omega) (by omega)
    rw [if_pos (Or.inl (by omega)), show 240 * h.toNat + (k - 1).toNat = (240 * h + k - 1).toNat by omega, show ((h.toNat : Nat) : Int) = h by omega, show (((k - 1).toNat : Nat) : Int) = k - 1 by omega] at y
    rw [y]; rfl
  · rw [if_neg (fun w => p w.1)]; unfold skT; rw [if_neg (fun w => p w.1)]
end CzSk5
