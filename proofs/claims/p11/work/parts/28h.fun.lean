/-! ===== the reference's sky ===== -/
section CzSk5
variable {T : Nat → Nat} {cn : Nat} {K N : Nat → Nat} {d d1 : Int} {I J J1 J2 : cz_I} {R R1 R2 : cz_R} {m r k i q ix : Nat} {lo hi l l' mi c1 : Int} {X : Nat → Nat → Int} {wi wr : List Nat} {e n : Nat} {u : Int32}
/-- places lo .. hi of row r hold u -/
def LyV (u : Int32) (I J : cz_I) (r : Nat) (lo hi : Int) : Prop := ∀ j : Nat, J r j = if lo ≤ (j : Int) ∧ (j : Int) < hi then u else I r j
/-- one place p of row r holds u, if P -/
def MkW (u : Int32) (I J : cz_I) (r : Nat) (P : Prop) [Decidable P] (p : Int) : Prop := ∀ j : Nat, J r j = if P ∧ (j : Int) = p then u else I r j
theorem LyV.z (e : ∀ j, J r j = I r j) (h : hi ≤ lo) : LyV u I J r lo hi := fun j => by rw [if_neg (by exact om_17611e59 h)]; exact e j
theorem MkW.at {P : Prop} [Decidable P] {p : Int} (hp : P) (hx : (ix : Int) = p) (e : J r ix = u) (f : ∀ j, ¬ j = ix → J r j = I r j) : MkW u I J r P p := fun j => by
  by_cases z : j = ix
  · subst z; rw [if_pos ⟨hp, hx⟩]; exact e
  · rw [if_neg (fun w => z (by exact om_e23f94fb hx w.2))]; exact f j z
theorem MkW.no {P : Prop} [Decidable P] {p : Int} (hp : ¬ P) (f : ∀ j, J r j = I r j) : MkW u I J r P p := fun j => by rw [if_neg (fun w => hp w.1)]; exact f j
theorem LyV.mk {P : Prop} [Decidable P] (h : LyV u I J r lo (if P then l else lo)) (g : MkW u J J2 r P l) (hl : lo ≤ l) (h' : l' = l + 1) : LyV u I J2 r lo (if P then l' else lo) := fun j => by
  rw [g j, h j]
  by_cases p : P
  · rw [if_pos p, if_pos p]
    by_cases z : (j : Int) = l
    · rw [if_pos ⟨p, z⟩, if_pos (by exact om_8b9a9230 hl h' z)]
    · rw [if_neg (fun w => z w.2)]
      by_cases y : lo ≤ (j : Int) ∧ (j : Int) < l
      · rw [if_pos y, if_pos (by exact om_08cc0612 h' y.1 y.2)]
      · rw [if_neg y, if_neg (by exact om_a6219663 h' z y)]
  · rw [if_neg p, if_neg p, if_neg (fun w => p w.1)]
theorem LyV.fif {P : Prop} [Decidable P] (h : LyV u I J r lo (if P then l else lo)) (h1 : hi ≤ l) (h2 : l ≤ hi ∨ l = lo) : LyV u I J r lo (if P then hi else lo) := fun j => by
  rw [h j]
  by_cases p : P
  · rw [if_pos p, if_pos p]
    by_cases y : lo ≤ (j : Int) ∧ (j : Int) < l
    · rw [if_pos y, if_pos (by exact om_9f6829ee h1 h2 y.1 y.2)]
    · rw [if_neg y, if_neg (by exact om_08194d5e h1 y)]
  · rw [if_neg p, if_neg p]
/-- EVENTS told, and clouds that came, as rows X, in the reference -/
def EvB (X : Nat → Nat → Int) (n : Int) : Prop := ∀ e : Nat, (e : Int) < n → 0 ≤ X e 0 ∧ X e 0 ≤ 4 ∧ (X e 0 = 2 ∨ X e 0 = 3 → 0 ≤ X e 1 ∧ X e 1 ≤ 3) ∧ 0 ≤ X e 2 ∧ X e 2 ≤ 240 ∧ 0 ≤ X e 3 ∧ X e 3 ≤ 240
def EvY (I : cz_I) (R : cz_R) (m : Nat) (X : Nat → Nat → Int) : Prop := ∀ b w, R m 3 = some b → R m 16 = some w → EvB X ((I b 2).toInt + (I w 1).toInt) ∧
  (∀ (f e a : Nat), f < 4 → (e : Int) < (I b 2).toInt → R b (11 + f) = some a → (I a e).toInt = X e f) ∧
  ∀ c : Nat, (c : Int) < (I w 1).toInt → X ((I b 2).toInt.toNat + c) 0 = 0 ∧ X ((I b 2).toInt.toNat + c) 1 = -2 ∧ X ((I b 2).toInt.toNat + c) 2 = (I w (3 + c)).toInt ∧ X ((I b 2).toInt.toNat + c) 3 = (I w (9 + c)).toInt
theorem EvY.st {x : Nat} (h : EvY I R x X) (hW : Wf T cn K N I R d) (tx : T x = 15) (g : St T cn K N d1 wi wr I R J R) (c : wi.all (fun c => !(Nat.beq (c / 64) 14 || Nat.beq (c / 64) 54 || Nat.beq (c / 64) 55 || Nat.beq (c / 64) 56 || Nat.beq (c / 64) 57 || Nat.beq (c / 64) 77)) = true) : EvY J R x X := by
  intro b w hb hw
  have tb : T b = 14 := hW.rsN tx rfl hb
  have tw : T w = 77 := hW.rs tx rfl rfl hw
  obtain ⟨z0, z1, z2⟩ := h b w hb hw
  have e : ∀ a j, (Nat.beq (T a) 14 || Nat.beq (T a) 54 || Nat.beq (T a) 55 || Nat.beq (T a) 56 || Nat.beq (T a) 57 || Nat.beq (T a) 77) = true → J a j = I a j := fun a j ta => g.2.1 a j (wm_p (p := fun r => !(Nat.beq r 14 || Nat.beq r 54 || Nat.beq r 55 || Nat.beq r 56 || Nat.beq r 57 || Nat.beq r 77)) c (by rw [ta]; rfl))
  have eb : ∀ j, J b j = I b j := fun j => e b j (by rw [tb]; rfl)
  have ew : ∀ j, J w j = I w j := fun j => e w j (by rw [tw]; rfl)
  refine ⟨by rw [eb, ew]; exact z0, fun f e1 a hf he ha => ?_, fun c1 hc => ?_⟩
  · rw [eb] at he
    rw [e a e1 ?_]; exact z1 f e1 a hf he ha
    have hf4 : f = 0 ∨ f = 1 ∨ f = 2 ∨ f = 3 := by exact om_2b9111f7 hf
    rcases hf4 with rfl | rfl | rfl | rfl
    · rw [show T a = 54 from hW.rs tb rfl rfl ha]; rfl
    · rw [show T a = 55 from hW.rs tb rfl rfl ha]; rfl
    · rw [show T a = 56 from hW.rs tb rfl rfl ha]; rfl
    · rw [show T a = 57 from hW.rs tb rfl rfl ha]; rfl
  · rw [ew] at hc
    rw [eb, ew, ew]; exact z2 c1 hc
/-- the rows of told things, EVENTS below e laid -/
def MkR (I : cz_I) (R : cz_R) (m : Nat) (mi c1 lo : Int) (X : Nat → Nat → Int) (e : Nat) : Prop :=
  (∀ r, R m 21 = some r → ∀ k : Nat, (k : Int) < mi → (I r k).toInt = 1 - hx X 0 lo k e) ∧
  (∀ r, R m 24 = some r → ∀ k : Nat, (k : Int) < mi → (I r k).toInt = hx X 1 lo k e) ∧
  (∀ r, R m 25 = some r → ∀ k : Nat, (k : Int) < mi → (I r k).toInt = hx X 4 lo k e) ∧
  (∀ r, R m 26 = some r → ∀ h k : Nat, (h : Int) < c1 → (k : Int) < mi → (I r (240 * h + k)).toInt = hh X 3 lo k h e) ∧
  (∀ r, R m 23 = some r → ∀ h k : Nat, (h : Int) < c1 → (k : Int) < mi → (I r (240 * h + k)).toInt = hh X 2 lo k h e)
theorem MkR.skip (h : MkR I R m mi c1 lo X e) (he : (e : Int) = lo) : MkR I R m mi c1 lo X (e + 1) := by
  have a : ∀ k m, hx X k lo m (e + 1) = hx X k lo m e := fun k m => by rw [hx, if_neg (fun z => z.1 he)]
  have b : ∀ k m g, hh X k lo m g (e + 1) = hh X k lo m g e := fun k m g => by rw [hh, if_neg (fun z => z.1 he)]
  exact ⟨fun r hr k hk => by rw [a]; exact h.1 r hr k hk, fun r hr k hk => by rw [a]; exact h.2.1 r hr k hk, fun r hr k hk => by rw [a]; exact h.2.2.1 r hr k hk, fun r hr g k hg hk => by rw [b]; exact h.2.2.2.1 r hr g k hg hk, fun r hr g k hg hk => by rw [b]; exact h.2.2.2.2 r hr g k hg hk⟩
theorem MkR.lay {kd fr to hut : Int} (h : MkR I R m mi c1 lo X e) (he : ¬ (e : Int) = lo) (hmi : mi ≤ 240) (x0 : X e 0 = kd) (x1 : X e 1 = hut) (x2 : X e 2 = fr) (x3 : X e 3 = to) (hf : 0 ≤ fr) (ht : to ≤ 240) (hb : kd = 2 ∨ kd = 3 → 0 ≤ hut ∧ hut ≤ 3)
    (l1 : ∀ r, R m 21 = some r → LyV 0 I J r fr (if kd = 0 then to else fr)) (l2 : ∀ r, R m 24 = some r → LyV 1 I J r fr (if kd = 1 then to else fr)) (l3 : ∀ r, R m 25 = some r → LyV 1 I J r fr (if kd = 4 then to else fr)) (l4 : ∀ r, R m 26 = some r → LyV 1 I J r (240 * hut + fr) (if kd = 3 then 240 * hut + to else 240 * hut + fr)) (l5 : ∀ r, R m 23 = some r → LyV 1 I J r (240 * hut + fr) (if kd = 2 then 240 * hut + to else 240 * hut + fr)) : MkR J R m mi c1 lo X (e + 1) := by
  have row : ∀ kk : Int, ∀ r, LyV 1 I J r fr (if kd = kk then to else fr) → ∀ k : Nat, (I r k).toInt = hx X kk lo k e → (J r k).toInt = hx X kk lo k (e + 1) := fun kk r l k hk => by
    rw [l k, hx, x0, x2, x3]
    by_cases z : kd = kk
    · rw [if_pos z]
      by_cases y : fr ≤ (k : Int) ∧ (k : Int) < to
      · rw [if_pos y, if_pos ⟨he, z, y.1, y.2⟩]; rfl
      · rw [if_neg y, if_neg (fun w => y ⟨w.2.2.1, w.2.2.2⟩)]; exact hk
    · rw [if_neg z, if_neg (by exact om_8aa29b46), if_neg (fun w => z w.2.1)]; exact hk
  have row0 : ∀ r, LyV 0 I J r fr (if kd = 0 then to else fr) → ∀ k : Nat, (I r k).toInt = 1 - hx X 0 lo k e → (J r k).toInt = 1 - hx X 0 lo k (e + 1) := fun r l k hk => by
    rw [l k, hx, x0, x2, x3]
    by_cases z : kd = 0
    · rw [if_pos z]
      by_cases y : fr ≤ (k : Int) ∧ (k : Int) < to
      · rw [if_pos y, if_pos ⟨he, z, y.1, y.2⟩]; rfl
      · rw [if_neg y, if_neg (fun w => y ⟨w.2.2.1, w.2.2.2⟩)]; exact hk
    · rw [if_neg z, if_neg (by exact om_8aa29b46), if_neg (fun w => z w.2.1)]; exact hk
  have rob : ∀ kk : Int, (kk = 2 ∨ kk = 3) → ∀ r, LyV 1 I J r (240 * hut + fr) (if kd = kk then 240 * hut + to else 240 * hut + fr) → ∀ g k : Nat, (k : Int) < mi → (I r (240 * g + k)).toInt = hh X kk lo k g e → (J r (240 * g + k)).toInt = hh X kk lo k g (e + 1) := fun kk hkk r l g k hkm hk => by
    rw [l (240 * g + k), hh, x0, x1, x2, x3]
    by_cases z : kd = kk
    · obtain ⟨w1, w2⟩ := hb (by exact om_4d6ee933 hkk z)
      rw [if_pos z]
      by_cases y : hut = (g : Int) ∧ fr ≤ (k : Int) ∧ (k : Int) < to
      · rw [if_pos (by exact om_86c4b8b7 y.1 y.2.1 y.2.2), if_pos ⟨he, z, y.1, y.2.1, y.2.2⟩]; rfl
      · rw [if_neg (by exact om_9e189f11 hmi hf ht hkm y), if_neg (fun w => y ⟨w.2.2.1, w.2.2.2.1, w.2.2.2.2⟩)]; exact hk
    · rw [if_neg z, if_neg (by exact om_ca6b7c42), if_neg (fun w => z w.2.1)]; exact hk
  exact ⟨fun r hr k hk => row0 r (l1 r hr) k (h.1 r hr k hk), fun r hr k hk => row 1 r (l2 r hr) k (h.2.1 r hr k hk), fun r hr k hk => row 4 r (l3 r hr) k (h.2.2.1 r hr k hk), fun r hr g k hg hk => rob 3 (Or.inr rfl) r (l4 r hr) g k hk (h.2.2.2.1 r hr g k hg hk), fun r hr g k hg hk => rob 2 (Or.inl rfl) r (l5 r hr) g k hk (h.2.2.2.2 r hr g k hg hk)⟩
/-- cleared rows: minutes below i2 (sky bright), huts' below i, and of minute i those below h -/
def ClM (I : cz_I) (R : cz_R) (m : Nat) (c1 i i2 h : Int) : Prop :=
  (∀ r, R m 21 = some r → ∀ k : Nat, (k : Int) < i2 → (I r k).toInt = 1) ∧
  (∀ r, R m 24 = some r → ∀ k : Nat, (k : Int) < i2 → (I r k).toInt = 0) ∧
  (∀ r, R m 25 = some r → ∀ k : Nat, (k : Int) < i2 → (I r k).toInt = 0) ∧
  (∀ r, R m 26 = some r → ∀ g k : Nat, (g : Int) < c1 → k < 240 → ((k : Int) < i ∨ ((k : Int) = i ∧ (g : Int) < h)) → (I r (240 * g + k)).toInt = 0) ∧
  (∀ r, R m 23 = some r → ∀ g k : Nat, (g : Int) < c1 → k < 240 → ((k : Int) < i ∨ ((k : Int) = i ∧ (g : Int) < h)) → (I r (240 * g + k)).toInt = 0)
theorem ClM.of (h : ClM I R m c1 mi mi 0) (hmi : mi ≤ 240) : MkR I R m mi c1 lo X 0 :=
  ⟨fun r hr k hk => by rw [h.1 r hr k hk]; rfl, fun r hr k hk => by rw [h.2.1 r hr k hk]; rfl, fun r hr k hk => by rw [h.2.2.1 r hr k hk]; rfl, fun r hr g k hg hk => by rw [h.2.2.2.1 r hr g k hg (by exact om_aab8b457 hmi hk) (Or.inl hk)]; rfl, fun r hr g k hg hk => by rw [h.2.2.2.2 r hr g k hg (by exact om_aab8b457 hmi hk) (Or.inl hk)]; rfl⟩
theorem ClM.nx {i i2 h : Int} (q : ClM I R m c1 i i2 h) (hh : c1 ≤ h) (hi : i2 = i + 1) : ClM I R m c1 i2 i2 0 := by
  subst hi
  exact ⟨q.1, q.2.1, q.2.2.1, fun r hr g k hg hk hd => q.2.2.2.1 r hr g k hg hk (by exact om_ed24ae48 hh hg hd), fun r hr g k hg hk hd => q.2.2.2.2 r hr g k hg hk (by exact om_ed24ae48 hh hg hd)⟩
/-- all rows: minutes below i2 (sky), below i and of minute i huts below h (light, what seems) -/
def SkM (I : cz_I) (R : cz_R) (m : Nat) (mi c1 lo : Int) (X : Nat → Nat → Int) (n : Nat) (i i2 h : Int) : Prop :=
  (∀ r, R m 21 = some r → ∀ k : Nat, (k : Int) < mi → (I r k).toInt = if (k : Int) < i2 then skB X lo n k else 1 - hx X 0 lo k n) ∧
  (∀ r, R m 24 = some r → ∀ k : Nat, (k : Int) < mi → (I r k).toInt = hx X 1 lo k n) ∧
  (∀ r, R m 25 = some r → ∀ k : Nat, (k : Int) < mi → (I r k).toInt = hx X 4 lo k n) ∧
  (∀ r, R m 26 = some r → ∀ g k : Nat, (g : Int) < c1 → (k : Int) < mi → (I r (240 * g + k)).toInt = hh X 3 lo k g n) ∧
  (∀ r, R m 22 = some r → ∀ g k : Nat, (g : Int) < c1 → (k : Int) < mi → ((k : Int) < i ∨ ((k : Int) = i ∧ (g : Int) < h)) → (I r (240 * g + k)).toInt = skL X lo n c1 g k) ∧
  (∀ r, R m 23 = some r → ∀ g k : Nat, (g : Int) < c1 → (k : Int) < mi → (I r (240 * g + k)).toInt = if ((k : Int) < i ∨ ((k : Int) = i ∧ (g : Int) < h)) then skS X lo n c1 g k else hh X 2 lo k g n)
theorem SkM.of (h : MkR I R m mi c1 lo X n) : SkM I R m mi c1 lo X n 0 0 0 :=
  ⟨fun r hr k hk => by rw [if_neg (by exact om_80912647)]; exact h.1 r hr k hk, h.2.1, h.2.2.1, h.2.2.2.1, fun _ _ g k _ _ hd => by exact om_e0bad280 hd, fun r hr g k hg hk => by rw [if_neg (by exact om_01a91c9e)]; exact h.2.2.2.2 r hr g k hg hk⟩
theorem SkM.nx {i i2 h : Int} (q : SkM I R m mi c1 lo X n i i2 h) (hh' : c1 ≤ h) (hi : i2 = i + 1) : SkM I R m mi c1 lo X n i2 i2 0 := by
  subst hi
  refine ⟨q.1, q.2.1, q.2.2.1, q.2.2.2.1, fun r hr g k hg hk hd => q.2.2.2.2.1 r hr g k hg hk (by exact om_ed24ae48 hh' hg hd), fun r hr g k hg hk => ?_⟩
  rw [q.2.2.2.2.2 r hr g k hg hk]
  by_cases z : (k : Int) < i ∨ ((k : Int) = i ∧ (g : Int) < h)
  · rw [if_pos z, if_pos (by exact om_a79d68cb z)]
  · rw [if_neg z, if_neg (by exact om_3f28ea73 hh' hg z)]
/-- a minute's sky -/
theorem SkM.sk {i : Int} {r0 : Nat} {v : Int} (q : SkM I R m mi c1 lo X n i i 0) (hW : Wf T cn K N I R d) (tm : T m = 15) (h0 : 0 ≤ i) (him : i < mi) (hx' : (ix : Int) = i) (d0 : R m 21 = some r0) (e0 : (J r0 ix).toInt = v) (f : ∀ a j, ¬ (a = r0 ∧ j = ix) → J a j = I a j) (hv : v = skB X lo n i) : SkM J R m mi c1 lo X n i (i + 1) 0 := by
  have t0 : T r0 = 81 := hW.rs tm rfl rfl d0
  have o : ∀ a j, ¬ T a = 81 → J a j = I a j := fun a j h => f a j (fun z => h (by rw [z.1]; exact t0))
  refine ⟨fun r hr k hk => ?_, fun r hr k hk => ?_, fun r hr k hk => ?_, fun r hr g k hg hk => ?_, fun r hr g k hg hk hd => ?_, fun r hr g k hg hk => ?_⟩
  · obtain rfl := Option.some.inj (d0.symm.trans hr)
    by_cases z : k = ix
    · subst z; rw [e0, if_pos (by exact om_b4eac5d1 hx'), hv, hx']
    · rw [f _ k (fun w => z w.2), q.1 _ hr k hk]
      by_cases y : (k : Int) < i
      · rw [if_pos y, if_pos (by exact om_805f4125 hx' y)]
      · rw [if_neg y, if_neg (by exact om_a4ae225a hx' z y)]
  · rw [o r k (by rw [show T r = 84 from hW.rs tm rfl rfl hr]; decide)]; exact q.2.1 r hr k hk
  · rw [o r k (by rw [show T r = 85 from hW.rs tm rfl rfl hr]; decide)]; exact q.2.2.1 r hr k hk
  · rw [o r _ (by rw [show T r = 86 from hW.rs tm rfl rfl hr]; decide)]; exact q.2.2.2.1 r hr g k hg hk
  · rw [o r _ (by rw [show T r = 82 from hW.rs tm rfl rfl hr]; decide)]; exact q.2.2.2.2.1 r hr g k hg hk hd
  · rw [o r _ (by rw [show T r = 83 from hW.rs tm rfl rfl hr]; decide)]; exact q.2.2.2.2.2 r hr g k hg hk
/-- a hut's minute -/
theorem SkM.st {i h : Int} {r2 r3 : Nat} {v w : Int} (q : SkM I R m mi c1 lo X n i (i + 1) h) (hW : Wf T cn K N I R d) (tm : T m = 15) (h0 : 0 ≤ i) (him : i < mi) (hmi : mi ≤ 240) (g0 : 0 ≤ h) (g1 : h < c1) (hx' : (ix : Int) = 240 * h + i) (d2 : R m 22 = some r2) (d3 : R m 23 = some r3) (e2 : (J1 r2 ix).toInt = v) (f2 : ∀ a j, ¬ (a = r2 ∧ j = ix) → J1 a j = I a j) (e3 : (J r3 ix).toInt = w) (f3 : ∀ a j, ¬ (a = r3 ∧ j = ix) → J a j = J1 a j) (hv : v = skL X lo n c1 h i) (hw : w = skS X lo n c1 h i) : SkM J R m mi c1 lo X n i (i + 1) (h + 1) := by
  have t2 : T r2 = 82 := hW.rs tm rfl rfl d2
  have t3 : T r3 = 83 := hW.rs tm rfl rfl d3
  have o : ∀ a j, ¬ T a = 82 → ¬ T a = 83 → J a j = I a j := fun a j h1 h2 => (f3 a j (fun z => h2 (by rw [z.1]; exact t3))).trans (f2 a j (fun z => h1 (by rw [z.1]; exact t2)))
  refine ⟨fun r hr k hk => ?_, fun r hr k hk => ?_, fun r hr k hk => ?_, fun r hr g k hg hk => ?_, fun r hr g k hg hk hd => ?_, fun r hr g k hg hk => ?_⟩
  · have t : T r = 81 := hW.rs tm rfl rfl hr
    rw [o r k (by exact om_fba9710e t) (by exact om_26ec4a8c t)]; exact q.1 r hr k hk
  · have t : T r = 84 := hW.rs tm rfl rfl hr
    rw [o r k (by exact om_e07cb34d t) (by exact om_17fcdd9f t)]; exact q.2.1 r hr k hk
  · have t : T r = 85 := hW.rs tm rfl rfl hr
    rw [o r k (by exact om_ca42d4b2 t) (by exact om_740bf00d t)]; exact q.2.2.1 r hr k hk
  · have t : T r = 86 := hW.rs tm rfl rfl hr
    rw [o r _ (by exact om_6c7d79d2 t) (by exact om_e677e4c8 t)]; exact q.2.2.2.1 r hr g k hg hk
  · obtain rfl := Option.some.inj (d2.symm.trans hr)
    by_cases z : (g : Int) = h ∧ (k : Int) = i
    · have y : 240 * g + k = ix := by exact om_08df8335 hx' z.1 z.2
      rw [f3 _ _ (fun w => by have := w.1; rw [this] at t2; exact om_dfbf04c4 t2 t3), y, e2, hv, z.1, z.2]
    · have y : ¬ 240 * g + k = ix := by exact om_3afceb0f h0 him hmi hx' hk z
      rw [f3 _ _ (fun w => y w.2), f2 _ _ (fun w => y w.2)]
      exact q.2.2.2.2.1 _ hr g k hg hk (by exact om_2be55a3c h0 him hmi hx' hk hd z y)
  · obtain rfl := Option.some.inj (d3.symm.trans hr)
    by_cases z : (g : Int) = h ∧ (k : Int) = i
    · have y : 240 * g + k = ix := by exact om_08df8335 hx' z.1 z.2
      rw [y, e3, if_pos (by exact om_7159f2ab hx' z.1 z.2), hw, z.1, z.2]
    · have y : ¬ 240 * g + k = ix := by exact om_3afceb0f h0 him hmi hx' hk z
      rw [f3 _ _ (fun w => y w.2), f2 _ _ (fun w => y w.2), q.2.2.2.2.2 _ hr g k hg hk]
      by_cases c : (k : Int) < i ∨ ((k : Int) = i ∧ (g : Int) < h)
      · rw [if_pos c, if_pos (by exact om_292e276f hx' c)]
      · rw [if_neg c, if_neg (by exact om_45b2e719 hx' y c)]
theorem ClM.z : ClM I R m c1 0 0 0 := ⟨fun _ _ k hk => by exact om_f6b0bfd3 hk, fun _ _ k hk => by exact om_6892873e hk, fun _ _ k hk => by exact om_6892873e hk, fun _ _ g k _ _ hd => by omega, fun _ _ g k _ _ hd => by omega⟩
theorem ClM.sk {i : Int} {r0 r1 r2 : Nat} (q : ClM I R m c1 i i 0) (hW : Wf T cn K N I R d) (tm : T m = 15) (hx' : (ix : Int) = i) (d0 : R m 21 = some r0) (d1' : R m 24 = some r1) (d2 : R m 25 = some r2) (e0 : (J r0 ix).toInt = 1) (e1 : (J r1 ix).toInt = 0) (e2 : (J r2 ix).toInt = 0) (f : ∀ a j, ¬ (a = r0 ∧ j = ix) → ¬ (a = r1 ∧ j = ix) → ¬ (a = r2 ∧ j = ix) → J a j = I a j) : ClM J R m c1 i (i + 1) 0 := by
  have t0 : T r0 = 81 := hW.rs tm rfl rfl d0
  have t1 : T r1 = 84 := hW.rs tm rfl rfl d1'
  have t2 : T r2 = 85 := hW.rs tm rfl rfl d2
  have o : ∀ a j, ¬ j = ix → J a j = I a j := fun a j h => f a j (fun z => h z.2) (fun z => h z.2) (fun z => h z.2)
  have o2 : ∀ a j, ¬ T a = 81 → ¬ T a = 84 → ¬ T a = 85 → J a j = I a j := fun a j h1 h2 h3 => f a j (fun z => h1 (by rw [z.1]; exact t0)) (fun z => h2 (by rw [z.1]; exact t1)) (fun z => h3 (by rw [z.1]; exact t2))
  refine ⟨fun r hr k hk => ?_, fun r hr k hk => ?_, fun r hr k hk => ?_, fun r hr g k hg hk hd => ?_, fun r hr g k hg hk hd => ?_⟩
  · obtain rfl := Option.some.inj (d0.symm.trans hr)
    by_cases z : k = ix
    · subst z; exact e0
    · rw [o _ k z]; exact q.1 _ hr k (by exact om_9191a836 hx' hk z)
  · obtain rfl := Option.some.inj (d1'.symm.trans hr)
    by_cases z : k = ix
    · subst z; exact e1
    · rw [o _ k z]; exact q.2.1 _ hr k (by exact om_9191a836 hx' hk z)
  · obtain rfl := Option.some.inj (d2.symm.trans hr)
    by_cases z : k = ix
    · subst z; exact e2
    · rw [o _ k z]; exact q.2.2.1 _ hr k (by exact om_9191a836 hx' hk z)
  · have t : T r = 86 := hW.rs tm rfl rfl hr
    rw [o2 r _ (by exact om_617212bf t) (by exact om_ee2070ca t) (by exact om_a55da645 t)]; exact q.2.2.2.1 r hr g k hg hk hd
  · have t : T r = 83 := hW.rs tm rfl rfl hr
    rw [o2 r _ (by exact om_3ea48ea4 t) (by exact om_61537c90 t) (by exact om_08fb71f6 t)]; exact q.2.2.2.2 r hr g k hg hk hd
theorem ClM.st {i h : Int} {r2 r3 : Nat} (q : ClM I R m c1 i (i + 1) h) (hW : Wf T cn K N I R d) (tm : T m = 15) (h0 : 0 ≤ i) (him : i < 240) (g0 : 0 ≤ h) (hx' : (ix : Int) = 240 * h + i) (d2 : R m 26 = some r2) (d3 : R m 23 = some r3) (e2 : (J r2 ix).toInt = 0) (e3 : (J r3 ix).toInt = 0) (f : ∀ a j, ¬ (a = r2 ∧ j = ix) → ¬ (a = r3 ∧ j = ix) → J a j = I a j) : ClM J R m c1 i (i + 1) (h + 1) := by
  have t2 : T r2 = 86 := hW.rs tm rfl rfl d2
  have t3 : T r3 = 83 := hW.rs tm rfl rfl d3
  have o : ∀ a j, ¬ j = ix → J a j = I a j := fun a j h => f a j (fun z => h z.2) (fun z => h z.2)
  have o2 : ∀ a j, ¬ T a = 86 → ¬ T a = 83 → J a j = I a j := fun a j h1 h2 => f a j (fun z => h1 (by rw [z.1]; exact t2)) (fun z => h2 (by rw [z.1]; exact t3))
  refine ⟨fun r hr k hk => ?_, fun r hr k hk => ?_, fun r hr k hk => ?_, fun r hr g k hg hk hd => ?_, fun r hr g k hg hk hd => ?_⟩
  · have t : T r = 81 := hW.rs tm rfl rfl hr
    rw [o2 r k (by exact om_27409bb9 t) (by exact om_26ec4a8c t)]; exact q.1 r hr k hk
  · have t : T r = 84 := hW.rs tm rfl rfl hr
    rw [o2 r k (by exact om_f11806f2 t) (by exact om_17fcdd9f t)]; exact q.2.1 r hr k hk
  · have t : T r = 85 := hW.rs tm rfl rfl hr
    rw [o2 r k (by exact om_91b45f10 t) (by exact om_740bf00d t)]; exact q.2.2.1 r hr k hk
  · obtain rfl := Option.some.inj (d2.symm.trans hr)
    by_cases z : 240 * g + k = ix
    · rw [z]; exact e2
    · rw [o _ _ z]; exact q.2.2.2.1 _ hr g k hg hk (by exact om_71d02f14 hx' hd z)
  · obtain rfl := Option.some.inj (d3.symm.trans hr)
    by_cases z : 240 * g + k = ix
    · rw [z]; exact e3
    · rw [o _ _ z]; exact q.2.2.2.2 _ hr g k hg hk (by exact om_71d02f14 hx' hd z)
theorem SkM.ch {h k v : Int} {r2 : Nat} (q : SkM I R m mi c1 lo X n mi mi 0) (d2 : R m 22 = some r2) (h0 : 0 ≤ h) (h1 : h < c1) (k0 : 0 ≤ k) (k1 : k < mi) (e : v = if 0 < k ∧ ¬ (I r2 (240 * h + k).toNat).toInt = (I r2 (240 * h + k - 1).toNat).toInt then 1 else 0) : v = skC X lo n c1 h k := by
  have z := q.2.2.2.2.1 r2 d2 h.toNat k.toNat (by exact om_479568b2 h0 h1) (by exact om_479568b2 k0 k1) (Or.inl (by exact om_479568b2 k0 k1))
  rw [show 240 * h.toNat + k.toNat = (240 * h + k).toNat by exact om_4ecc95bf h0 k0, show ((h.toNat : Nat) : Int) = h by exact om_ce141e52 h0, show ((k.toNat : Nat) : Int) = k by exact om_ce141e52 k0] at z
  rw [e, z]
  by_cases p : 0 < k
  · have y := q.2.2.2.2.1 r2 d2 h.toNat (k - 1).toNat (by exact om_479568b2 h0 h1) (by exact om_42579a25 k1 p) (Or.inl (by exact om_42579a25 k1 p))
    rw [show 240 * h.toNat + (k - 1).toNat = (240 * h + k - 1).toNat by exact om_0f7f0851 h0 p, show ((h.toNat : Nat) : Int) = h by exact om_ce141e52 h0, show (((k - 1).toNat : Nat) : Int) = k - 1 by exact om_ee824c29 p] at y
    rw [y]; rfl
  · rw [if_neg (fun w => p w.1)]; unfold skC; rw [if_neg (fun w => p w.1)]
end CzSk5
set_option maxHeartbeats 4000000 in
theorem fk_X12_events {l : Launch} {T : Nat → Nat} {cn : Nat} {K N : Nat → Nat} {I0 : cz_I} {R0 : cz_R} {L0 : cz_L} {d : Int} (hW0 : Wf T cn K N I0 R0 d)  {a0 : Nat} (ta0 : T a0 = 15) (nn3 : ∃ b, R0 a0 3 = some b) : ConE l mX12_events [.ref a0] cn K N I0 R0 L0 (ca_i (fun v cn' K' N' I' R' L' => cn = cn' ∧ K = K' ∧ N = N' ∧ I0 = I' ∧ R0 = R' ∧ L0 = L' ∧ (0 ≤ v.toInt ∧ v.toInt ≤ 20) ∧ (∀ b1, R0 a0 3 = some b1 → ∀ b2, R0 a0 16 = some b2 → v.toInt = (I0 b1 2).toInt + (I0 b2 1).toInt) ∧ True)) := by
  refine ConE.of (by decide +kernel) rfl (Nat.le_of_ble_eq_true rfl) rfl (fun X hX hZ hE => ?_)
  subst hX
  obtain ⟨a1, d2⟩ := nn3
  have ta1 : T a1 = 14 := hW0.rsN ta0 rfl d2
  obtain ⟨v3, c4⟩ : ∃ v, I0 a1 2 = v := ⟨_, rfl⟩
  have b5 := iv14_2 hW0 ta1 c4
  obtain ⟨a6, d7, ta6⟩ := rf15_16 hW0 ta0
  obtain ⟨v8, c9⟩ : ∃ v, I0 a6 1 = v := ⟨_, rfl⟩
  have b10 := iv77_1 hW0 ta6 (by decide) c9
  obtain ⟨a11, d12, ta11⟩ := rf14_11 hW0 ta1
  obtain ⟨a13, d14, ta13⟩ := rf14_12 hW0 ta1
  obtain ⟨a15, d16, ta15⟩ := rf14_13 hW0 ta1
  obtain ⟨a17, d18, ta17⟩ := rf14_14 hW0 ta1
  obtain ⟨a19, d20, ta19⟩ := rf15_21 hW0 ta0
  obtain ⟨a21, d22, ta21⟩ := rf15_22 hW0 ta0
  obtain ⟨a23, d24, ta23⟩ := rf15_23 hW0 ta0
  obtain ⟨a25, d26, ta25⟩ := rf15_24 hW0 ta0
  obtain ⟨a27, d28, ta27⟩ := rf15_25 hW0 ta0
  obtain ⟨a29, d30, ta29⟩ := rf15_26 hW0 ta0
  obtain ⟨v31, c32⟩ : ∃ v, I0 a1 0 = v := ⟨_, rfl⟩
  have b33 := hW0.2.2.2.2.2.1 a0 ta0 _ d2
  rw [c32] at b33
  have b34 := iv14_0 hW0 ta1 c32
  obtain ⟨v35, c36⟩ : ∃ v, I0 a1 1 = v := ⟨_, rfl⟩
  have b37 := iv14_1 hW0 ta1 c36
  refine tr_aload_n dX12_events_0 rfl ?_
  refine tr_getR dX12_events_1 fl12_385 (kR15 hW0 ta0) d2 ?_
  refine q_getI dX12_events_4 fl12_265 (kR14 hW0 ta1) c4 ?_
  refine tr_aload_n dX12_events_7 rfl ?_
  refine tr_getR dX12_events_8 fl12_17 (kR15 hW0 ta0) d7 ?_
  refine q_iconst dX12_events_11 (by decide) ?_
  intro v38 h39
  refine q_iald dX12_events_12 (kR77 hW0 ta6) (ti_in (nR77 hW0 ta6) (by exact om_f9079521 h39) (by exact om_73248752 h39)) ?_
  intro v40 c41
  rw [show v38.toNatClampNeg = 1 from ti_cl (by exact om_21c44602 h39)] at c41
  obtain rfl : v8 = v40 := (c9).symm.trans c41
  refine q_iaddE dX12_events_13 (by intro j1 j2 j3 j4; exact om_61695197 b5.2 b5.1 b10.2 b10.1) ?_
  intro v42 h43
  exact tr_iret hZ dX12_events_14 rfl (by decide) (by decide) ⟨v42, rfl, rfl, rfl, rfl, rfl, rfl, rfl, (by exact om_612d4658 b5.2 b5.1 b10.2 b10.1 h43), (fun q0 z0 => fun q1 z1 => by obtain rfl := Option.some.inj ((d2).symm.trans z0); obtain rfl := Option.some.inj ((d7).symm.trans z1); (try rw [c4]); (try rw [c9]); first | done | with_reducible assumption | omega), trivial⟩
set_option maxHeartbeats 4000000 in
theorem fk_X12_fromOf {l : Launch} {T : Nat → Nat} {cn : Nat} {K N : Nat → Nat} {I0 : cz_I} {R0 : cz_R} {L0 : cz_L} {d : Int} (hW0 : Wf T cn K N I0 R0 d) (gX : Nat → Nat → Int) {a0 : Nat} (ta0 : T a0 = 15) {x1 : Int32} (hX : EvY I0 R0 a0 gX) (pre0 : 0 ≤ x1.toInt) (pre1 : ∀ b1, R0 a0 3 = some b1 → ∀ b2, R0 a0 16 = some b2 → x1.toInt < (I0 b1 2).toInt + (I0 b2 1).toInt) (nn3 : ∃ b, R0 a0 3 = some b) : ConE l mX12_fromOf [.ref a0, .int x1] cn K N I0 R0 L0 (ca_i (fun v cn' K' N' I' R' L' => cn = cn' ∧ K = K' ∧ N = N' ∧ I0 = I' ∧ R0 = R' ∧ L0 = L' ∧ (0 ≤ v.toInt ∧ v.toInt ≤ 240) ∧ (v.toInt = (gX x1.toInt.toNat 2)) ∧ True)) := by
  refine ConE.of (by decide +kernel) rfl (Nat.le_of_ble_eq_true rfl) rfl (fun X hX hZ hE => ?_)
  subst hX
  obtain ⟨a1, d2⟩ := nn3
  have ta1 : T a1 = 14 := hW0.rsN ta0 rfl d2
  have p3 := pre0
  obtain ⟨v4, c5⟩ : ∃ v, I0 a1 2 = v := ⟨_, rfl⟩
  have b6 := iv14_2 hW0 ta1 c5
  obtain ⟨a7, d8, ta7⟩ := rf15_16 hW0 ta0
  obtain ⟨v9, c10⟩ : ∃ v, I0 a7 1 = v := ⟨_, rfl⟩
  have b11 := iv77_1 hW0 ta7 (by decide) c10
  have p12 := pre1 _ d2 _ d8
  rw [c5] at p12
  rw [c10] at p12
  obtain ⟨a13, d14, ta13⟩ := rf14_11 hW0 ta1
  obtain ⟨a15, d16, ta15⟩ := rf14_12 hW0 ta1
  obtain ⟨a17, d18, ta17⟩ := rf14_13 hW0 ta1
  obtain ⟨a19, d20, ta19⟩ := rf14_14 hW0 ta1
  obtain ⟨a21, d22, ta21⟩ := rf15_21 hW0 ta0
  obtain ⟨a23, d24, ta23⟩ := rf15_22 hW0 ta0
  obtain ⟨a25, d26, ta25⟩ := rf15_23 hW0 ta0
  obtain ⟨a27, d28, ta27⟩ := rf15_24 hW0 ta0
  obtain ⟨a29, d30, ta29⟩ := rf15_25 hW0 ta0
  obtain ⟨a31, d32, ta31⟩ := rf15_26 hW0 ta0
  obtain ⟨v33, c34⟩ : ∃ v, I0 a1 0 = v := ⟨_, rfl⟩
  have b35 := hW0.2.2.2.2.2.1 a0 ta0 _ d2
  rw [c34] at b35
  have b36 := iv14_0 hW0 ta1 c34
  obtain ⟨v37, c38⟩ : ∃ v, I0 a1 1 = v := ⟨_, rfl⟩
  have b39 := iv14_1 hW0 ta1 c38
  refine tr_iload_n dX12_fromOf_0 rfl ?_
  refine tr_aload_n dX12_fromOf_1 rfl ?_
  refine tr_getR dX12_fromOf_2 fl12_385 (kR15 hW0 ta0) d2 ?_
  refine q_getI dX12_fromOf_5 fl12_265 (kR14 hW0 ta1) c5 ?_
  refine q_icmp_ge 23 dX12_fromOf_8 (by decide) (fun h40 => ?_) (fun h40 => ?_)
  · skip
    refine tr_aload_n dX12_fromOf_23 rfl ?_
    refine tr_getR dX12_fromOf_24 fl12_17 (kR15 hW0 ta0) d8 ?_
    refine q_iconst dX12_fromOf_27 (by decide) ?_
    intro v41 h42
    refine tr_iload_n dX12_fromOf_28 rfl ?_
    refine q_iaddE dX12_fromOf_29 (by intro j1 j2 j3 j4; exact om_545e35ea b6.2 b6.1 b11.2 b11.1 p12 h40 h42) ?_
    intro v43 h44
    refine tr_aload_n dX12_fromOf_30 rfl ?_
    refine tr_getR dX12_fromOf_31 fl12_385 (kR15 hW0 ta0) d2 ?_
    refine q_getI dX12_fromOf_34 fl12_265 (kR14 hW0 ta1) c5 ?_
    refine q_isubE dX12_fromOf_37 (by intro j1 j2 j3 j4; exact om_9ec2ba6c b11.2 b11.1 p12 h40 h42 h44) ?_
    intro v45 h46
    refine q_iald dX12_fromOf_38 (kR77 hW0 ta7) (ti_in (nR77 hW0 ta7) (by exact om_e35542c5 h40 h42 h44 h46) (by exact om_cbd5af19 b11.2 b11.1 p12 h42 h44 h46)) ?_
    intro v47 c48
    have eb50 := (hX _ _ d2 d8).1 x1.toInt.toNat (by rw [c5, c10]; exact om_e6d7bdf5 pre0 b6.2 b6.1 p12 h40 h42 h44 h46)
    have eb50f : v47.toInt = gX x1.toInt.toNat 2 := (by have z := (hX _ _ d2 d8).2.2 (x1.toInt - v4.toInt).toNat (by rw [c10]; exact om_4e125088 p12 h40 h42 h44 h46); rw [show (I0 a1 2).toInt.toNat + (x1.toInt - v4.toInt).toNat = x1.toInt.toNat by rw [c5]; exact om_1e4cb4bc pre0 b6.2 b6.1 h40 h42 h44 h46] at z; have y := z.2.2.1; rw [show 3 + (x1.toInt - v4.toInt).toNat = v45.toNatClampNeg by have y := ti_nat (i := v45) (by exact om_e35542c5 h40 h42 h44 h46); exact om_4db2cc63 h40 h42 h44 h46 y, c48] at y; exact y.symm)
    have eb50b := And.intro eb50.2.2.2.1 eb50.2.2.2.2.1
    exact tr_iret hZ dX12_fromOf_39 rfl (by decide) (by decide) ⟨v47, rfl, rfl, rfl, rfl, rfl, rfl, rfl, (by exact om_4a5db926 eb50.2.2.2.2.1 eb50.2.2.2.1 eb50f), (by have z := (hX _ _ d2 d8).2.2 (x1.toInt - v4.toInt).toNat (by rw [c10]; exact om_4e125088 p12 h40 h42 h44 h46); rw [show (I0 a1 2).toInt.toNat + (x1.toInt - v4.toInt).toNat = x1.toInt.toNat by rw [c5]; exact om_1e4cb4bc pre0 b6.2 b6.1 h40 h42 h44 h46] at z; have y := z.2.2.1; rw [show 3 + (x1.toInt - v4.toInt).toNat = v45.toNatClampNeg by have y := ti_nat (i := v45) (by exact om_e35542c5 h40 h42 h44 h46); exact om_4db2cc63 h40 h42 h44 h46 y, c48] at y; exact y.symm), trivial⟩
  · skip
    refine tr_aload_n dX12_fromOf_11 rfl ?_
    refine tr_getR dX12_fromOf_12 fl12_385 (kR15 hW0 ta0) d2 ?_
    refine tr_getR dX12_fromOf_15 fl12_280 (kR14 hW0 ta1) d18 ?_
    refine tr_iload_n dX12_fromOf_18 rfl ?_
    refine q_iald dX12_fromOf_19 (kR56 hW0 ta17) (ti_in (nR56 hW0 ta17) (by exact om_2cfcd5a5 p3) (by exact om_d7ac722a b6.2 b6.1 h40)) ?_
    intro v51 c52
    have b53 := iv56 hW0 ta17 c52
    refine tr_goto 39 dX12_fromOf_20 (by decide) ?_
    have eb54 := (hX _ _ d2 d8).1 x1.toInt.toNat (by rw [c5, c10]; exact om_587fc884 pre0 p12)
    have eb54f : v51.toInt = gX x1.toInt.toNat 2 := (by have z := (hX _ _ d2 d8).2.1 2 x1.toInt.toNat _ (by exact om_8b662628) (by rw [c5]; exact om_224b9296 pre0 b6.2 b6.1 h40) d18; rw [show I0 a17 x1.toInt.toNat = v51 from c52] at z; exact z)
    have eb54b := And.intro eb54.2.2.2.1 eb54.2.2.2.2.1
    exact tr_iret hZ dX12_fromOf_39 rfl (by decide) (by decide) ⟨v51, rfl, rfl, rfl, rfl, rfl, rfl, rfl, (by exact om_d956ef70 b53), (by have z := (hX _ _ d2 d8).2.1 2 x1.toInt.toNat _ (by exact om_8b662628) (by rw [c5]; exact om_224b9296 pre0 b6.2 b6.1 h40) d18; rw [show I0 a17 x1.toInt.toNat = v51 from c52] at z; exact z), trivial⟩
set_option maxHeartbeats 4000000 in
theorem fk_X12_toOf {l : Launch} {T : Nat → Nat} {cn : Nat} {K N : Nat → Nat} {I0 : cz_I} {R0 : cz_R} {L0 : cz_L} {d : Int} (hW0 : Wf T cn K N I0 R0 d) (gX : Nat → Nat → Int) {a0 : Nat} (ta0 : T a0 = 15) {x1 : Int32} (hX : EvY I0 R0 a0 gX) (pre0 : 0 ≤ x1.toInt) (pre1 : ∀ b1, R0 a0 3 = some b1 → ∀ b2, R0 a0 16 = some b2 → x1.toInt < (I0 b1 2).toInt + (I0 b2 1).toInt) (nn3 : ∃ b, R0 a0 3 = some b) : ConE l mX12_toOf [.ref a0, .int x1] cn K N I0 R0 L0 (ca_i (fun v cn' K' N' I' R' L' => cn = cn' ∧ K = K' ∧ N = N' ∧ I0 = I' ∧ R0 = R' ∧ L0 = L' ∧ (0 ≤ v.toInt ∧ v.toInt ≤ 240) ∧ (v.toInt = (gX x1.toInt.toNat 3)) ∧ True)) := by
  refine ConE.of (by decide +kernel) rfl (Nat.le_of_ble_eq_true rfl) rfl (fun X hX hZ hE => ?_)
  subst hX
  obtain ⟨a1, d2⟩ := nn3
  have ta1 : T a1 = 14 := hW0.rsN ta0 rfl d2
  have p3 := pre0
  obtain ⟨v4, c5⟩ : ∃ v, I0 a1 2 = v := ⟨_, rfl⟩
  have b6 := iv14_2 hW0 ta1 c5
  obtain ⟨a7, d8, ta7⟩ := rf15_16 hW0 ta0
  obtain ⟨v9, c10⟩ : ∃ v, I0 a7 1 = v := ⟨_, rfl⟩
  have b11 := iv77_1 hW0 ta7 (by decide) c10
  have p12 := pre1 _ d2 _ d8
  rw [c5] at p12
  rw [c10] at p12
  obtain ⟨a13, d14, ta13⟩ := rf14_11 hW0 ta1
  obtain ⟨a15, d16, ta15⟩ := rf14_12 hW0 ta1
  obtain ⟨a17, d18, ta17⟩ := rf14_13 hW0 ta1
  obtain ⟨a19, d20, ta19⟩ := rf14_14 hW0 ta1
  obtain ⟨a21, d22, ta21⟩ := rf15_21 hW0 ta0
  obtain ⟨a23, d24, ta23⟩ := rf15_22 hW0 ta0
  obtain ⟨a25, d26, ta25⟩ := rf15_23 hW0 ta0
  obtain ⟨a27, d28, ta27⟩ := rf15_24 hW0 ta0
  obtain ⟨a29, d30, ta29⟩ := rf15_25 hW0 ta0
  obtain ⟨a31, d32, ta31⟩ := rf15_26 hW0 ta0
  obtain ⟨v33, c34⟩ : ∃ v, I0 a1 0 = v := ⟨_, rfl⟩
  have b35 := hW0.2.2.2.2.2.1 a0 ta0 _ d2
  rw [c34] at b35
  have b36 := iv14_0 hW0 ta1 c34
  obtain ⟨v37, c38⟩ : ∃ v, I0 a1 1 = v := ⟨_, rfl⟩
  have b39 := iv14_1 hW0 ta1 c38
  refine tr_iload_n dX12_toOf_0 rfl ?_
  refine tr_aload_n dX12_toOf_1 rfl ?_
  refine tr_getR dX12_toOf_2 fl12_385 (kR15 hW0 ta0) d2 ?_
  refine q_getI dX12_toOf_5 fl12_265 (kR14 hW0 ta1) c5 ?_
  refine q_icmp_ge 23 dX12_toOf_8 (by decide) (fun h40 => ?_) (fun h40 => ?_)
  · skip
    refine tr_aload_n dX12_toOf_23 rfl ?_
    refine tr_getR dX12_toOf_24 fl12_17 (kR15 hW0 ta0) d8 ?_
    refine q_bipush dX12_toOf_27 (by decide +kernel) ?_
    intro v41 h42
    refine tr_iload_n dX12_toOf_29 rfl ?_
    refine q_iaddE dX12_toOf_30 (by intro j1 j2 j3 j4; exact om_670ca3b2 b6.2 b6.1 b11.2 b11.1 p12 h40 h42) ?_
    intro v43 h44
    refine tr_aload_n dX12_toOf_31 rfl ?_
    refine tr_getR dX12_toOf_32 fl12_385 (kR15 hW0 ta0) d2 ?_
    refine q_getI dX12_toOf_35 fl12_265 (kR14 hW0 ta1) c5 ?_
    refine q_isubE dX12_toOf_38 (by intro j1 j2 j3 j4; exact om_1b44e7d5 b11.2 b11.1 p12 h40 h42 h44) ?_
    intro v45 h46
    refine q_iald dX12_toOf_39 (kR77 hW0 ta7) (ti_in (nR77 hW0 ta7) (by exact om_4955a916 h40 h42 h44 h46) (by exact om_a267275f b11.2 b11.1 p12 h42 h44 h46)) ?_
    intro v47 c48
    have eb50 := (hX _ _ d2 d8).1 x1.toInt.toNat (by rw [c5, c10]; exact om_859113ac pre0 b6.2 b6.1 p12 h40 h42 h44 h46)
    have eb50f : v47.toInt = gX x1.toInt.toNat 3 := (by have z := (hX _ _ d2 d8).2.2 (x1.toInt - v4.toInt).toNat (by rw [c10]; exact om_b1fbcb7a p12 h40 h42 h44 h46); rw [show (I0 a1 2).toInt.toNat + (x1.toInt - v4.toInt).toNat = x1.toInt.toNat by rw [c5]; exact om_37c6f7ce pre0 b6.2 b6.1 h40 h42 h44 h46] at z; have y := z.2.2.2; rw [show 9 + (x1.toInt - v4.toInt).toNat = v45.toNatClampNeg by have y := ti_nat (i := v45) (by exact om_4955a916 h40 h42 h44 h46); exact om_e006922d h40 h42 h44 h46 y, c48] at y; exact y.symm)
    have eb50b := And.intro eb50.2.2.2.2.2.1 eb50.2.2.2.2.2.2
    exact tr_iret hZ dX12_toOf_40 rfl (by decide) (by decide) ⟨v47, rfl, rfl, rfl, rfl, rfl, rfl, rfl, (by exact om_4a5db926 eb50.2.2.2.2.2.2 eb50.2.2.2.2.2.1 eb50f), (by have z := (hX _ _ d2 d8).2.2 (x1.toInt - v4.toInt).toNat (by rw [c10]; exact om_b1fbcb7a p12 h40 h42 h44 h46); rw [show (I0 a1 2).toInt.toNat + (x1.toInt - v4.toInt).toNat = x1.toInt.toNat by rw [c5]; exact om_37c6f7ce pre0 b6.2 b6.1 h40 h42 h44 h46] at z; have y := z.2.2.2; rw [show 9 + (x1.toInt - v4.toInt).toNat = v45.toNatClampNeg by have y := ti_nat (i := v45) (by exact om_4955a916 h40 h42 h44 h46); exact om_e006922d h40 h42 h44 h46 y, c48] at y; exact y.symm), trivial⟩
  · skip
    refine tr_aload_n dX12_toOf_11 rfl ?_
    refine tr_getR dX12_toOf_12 fl12_385 (kR15 hW0 ta0) d2 ?_
    refine tr_getR dX12_toOf_15 fl12_283 (kR14 hW0 ta1) d20 ?_
    refine tr_iload_n dX12_toOf_18 rfl ?_
    refine q_iald dX12_toOf_19 (kR57 hW0 ta19) (ti_in (nR57 hW0 ta19) (by exact om_2cfcd5a5 p3) (by exact om_d7ac722a b6.2 b6.1 h40)) ?_
    intro v51 c52
    have b53 := iv57 hW0 ta19 c52
    refine tr_goto 40 dX12_toOf_20 (by decide) ?_
    have eb54 := (hX _ _ d2 d8).1 x1.toInt.toNat (by rw [c5, c10]; exact om_587fc884 pre0 p12)
    have eb54f : v51.toInt = gX x1.toInt.toNat 3 := (by have z := (hX _ _ d2 d8).2.1 3 x1.toInt.toNat _ (by exact om_e50796e2) (by rw [c5]; exact om_224b9296 pre0 b6.2 b6.1 h40) d20; rw [show I0 a19 x1.toInt.toNat = v51 from c52] at z; exact z)
    have eb54b := And.intro eb54.2.2.2.2.2.1 eb54.2.2.2.2.2.2
    exact tr_iret hZ dX12_toOf_40 rfl (by decide) (by decide) ⟨v51, rfl, rfl, rfl, rfl, rfl, rfl, rfl, (by exact om_d956ef70 b53), (by have z := (hX _ _ d2 d8).2.1 3 x1.toInt.toNat _ (by exact om_e50796e2) (by rw [c5]; exact om_224b9296 pre0 b6.2 b6.1 h40) d20; rw [show I0 a19 x1.toInt.toNat = v51 from c52] at z; exact z), trivial⟩
set_option maxHeartbeats 4000000 in
theorem fk_X12_kindOf {l : Launch} {T : Nat → Nat} {cn : Nat} {K N : Nat → Nat} {I0 : cz_I} {R0 : cz_R} {L0 : cz_L} {d : Int} (hW0 : Wf T cn K N I0 R0 d) (gX : Nat → Nat → Int) {a0 : Nat} (ta0 : T a0 = 15) {x1 : Int32} (hX : EvY I0 R0 a0 gX) (pre0 : 0 ≤ x1.toInt) (pre1 : ∀ b1, R0 a0 3 = some b1 → ∀ b2, R0 a0 16 = some b2 → x1.toInt < (I0 b1 2).toInt + (I0 b2 1).toInt) (nn3 : ∃ b, R0 a0 3 = some b) : ConE l mX12_kindOf [.ref a0, .int x1] cn K N I0 R0 L0 (ca_i (fun v cn' K' N' I' R' L' => cn = cn' ∧ K = K' ∧ N = N' ∧ I0 = I' ∧ R0 = R' ∧ L0 = L' ∧ (v.toInt = (gX x1.toInt.toNat 0)) ∧ True)) := by
  refine ConE.of (by decide +kernel) rfl (Nat.le_of_ble_eq_true rfl) rfl (fun X hX hZ hE => ?_)
  subst hX
  obtain ⟨a1, d2⟩ := nn3
  have ta1 : T a1 = 14 := hW0.rsN ta0 rfl d2
  have p3 := pre0
  obtain ⟨v4, c5⟩ : ∃ v, I0 a1 2 = v := ⟨_, rfl⟩
  have b6 := iv14_2 hW0 ta1 c5
  obtain ⟨a7, d8, ta7⟩ := rf15_16 hW0 ta0
  obtain ⟨v9, c10⟩ : ∃ v, I0 a7 1 = v := ⟨_, rfl⟩
  have b11 := iv77_1 hW0 ta7 (by decide) c10
  have p12 := pre1 _ d2 _ d8
  rw [c5] at p12
  rw [c10] at p12
  obtain ⟨a13, d14, ta13⟩ := rf14_11 hW0 ta1
  obtain ⟨a15, d16, ta15⟩ := rf14_12 hW0 ta1
  obtain ⟨a17, d18, ta17⟩ := rf14_13 hW0 ta1
  obtain ⟨a19, d20, ta19⟩ := rf14_14 hW0 ta1
  obtain ⟨a21, d22, ta21⟩ := rf15_21 hW0 ta0
  obtain ⟨a23, d24, ta23⟩ := rf15_22 hW0 ta0
  obtain ⟨a25, d26, ta25⟩ := rf15_23 hW0 ta0
  obtain ⟨a27, d28, ta27⟩ := rf15_24 hW0 ta0
  obtain ⟨a29, d30, ta29⟩ := rf15_25 hW0 ta0
  obtain ⟨a31, d32, ta31⟩ := rf15_26 hW0 ta0
  obtain ⟨v33, c34⟩ : ∃ v, I0 a1 0 = v := ⟨_, rfl⟩
  have b35 := hW0.2.2.2.2.2.1 a0 ta0 _ d2
  rw [c34] at b35
  have b36 := iv14_0 hW0 ta1 c34
  obtain ⟨v37, c38⟩ : ∃ v, I0 a1 1 = v := ⟨_, rfl⟩
  have b39 := iv14_1 hW0 ta1 c38
  refine tr_iload_n dX12_kindOf_0 rfl ?_
  refine tr_aload_n dX12_kindOf_1 rfl ?_
  refine tr_getR dX12_kindOf_2 fl12_385 (kR15 hW0 ta0) d2 ?_
  refine q_getI dX12_kindOf_5 fl12_265 (kR14 hW0 ta1) c5 ?_
  refine q_icmp_ge 23 dX12_kindOf_8 (by decide) (fun h40 => ?_) (fun h40 => ?_)
  · skip
    refine q_iconst dX12_kindOf_23 (by decide) ?_
    intro v41 h42
    exact tr_iret hZ dX12_kindOf_24 rfl (by decide) (by decide) ⟨v41, rfl, rfl, rfl, rfl, rfl, rfl, rfl, (by have z := (hX _ _ d2 d8).2.2 (x1.toInt - v4.toInt).toNat (by rw [c10]; exact om_c9be63e3 b11.2 b11.1 p12 h40); rw [show (I0 a1 2).toInt.toNat + (x1.toInt - v4.toInt).toNat = x1.toInt.toNat by rw [c5]; exact om_19299e91 pre0 b6.2 b6.1 h40] at z; have y := z.1; exact om_5bac22bd h42 z.1), trivial⟩
  · skip
    refine tr_aload_n dX12_kindOf_11 rfl ?_
    refine tr_getR dX12_kindOf_12 fl12_385 (kR15 hW0 ta0) d2 ?_
    refine tr_getR dX12_kindOf_15 fl12_274 (kR14 hW0 ta1) d14 ?_
    refine tr_iload_n dX12_kindOf_18 rfl ?_
    refine q_iald dX12_kindOf_19 (kR54 hW0 ta13) (ti_in (nR54 hW0 ta13) (by exact om_2cfcd5a5 p3) (by exact om_d7ac722a b6.2 b6.1 h40)) ?_
    intro v43 c44
    refine tr_goto 24 dX12_kindOf_20 (by decide) ?_
    exact tr_iret hZ dX12_kindOf_24 rfl (by decide) (by decide) ⟨v43, rfl, rfl, rfl, rfl, rfl, rfl, rfl, (by have z := (hX _ _ d2 d8).2.1 0 x1.toInt.toNat _ (by exact om_aaa5a01b) (by rw [c5]; exact om_224b9296 pre0 b6.2 b6.1 h40) d14; rw [show I0 a13 x1.toInt.toNat = v43 from c44] at z; exact z), trivial⟩
set_option maxHeartbeats 4000000 in
theorem fk_X12_hutOf {l : Launch} {T : Nat → Nat} {cn : Nat} {K N : Nat → Nat} {I0 : cz_I} {R0 : cz_R} {L0 : cz_L} {d : Int} (hW0 : Wf T cn K N I0 R0 d) (gX : Nat → Nat → Int) {a0 : Nat} (ta0 : T a0 = 15) {x1 : Int32} (hX : EvY I0 R0 a0 gX) (pre0 : 0 ≤ x1.toInt) (pre1 : ∀ b1, R0 a0 3 = some b1 → ∀ b2, R0 a0 16 = some b2 → x1.toInt < (I0 b1 2).toInt + (I0 b2 1).toInt) (nn3 : ∃ b, R0 a0 3 = some b) : ConE l mX12_hutOf [.ref a0, .int x1] cn K N I0 R0 L0 (ca_i (fun v cn' K' N' I' R' L' => cn = cn' ∧ K = K' ∧ N = N' ∧ I0 = I' ∧ R0 = R' ∧ L0 = L' ∧ ((-2) ≤ v.toInt ∧ v.toInt ≤ 3) ∧ (v.toInt = (gX x1.toInt.toNat 1)) ∧ True)) := by
  refine ConE.of (by decide +kernel) rfl (Nat.le_of_ble_eq_true rfl) rfl (fun X hX hZ hE => ?_)
  subst hX
  obtain ⟨a1, d2⟩ := nn3
  have ta1 : T a1 = 14 := hW0.rsN ta0 rfl d2
  have p3 := pre0
  obtain ⟨v4, c5⟩ : ∃ v, I0 a1 2 = v := ⟨_, rfl⟩
  have b6 := iv14_2 hW0 ta1 c5
  obtain ⟨a7, d8, ta7⟩ := rf15_16 hW0 ta0
  obtain ⟨v9, c10⟩ : ∃ v, I0 a7 1 = v := ⟨_, rfl⟩
  have b11 := iv77_1 hW0 ta7 (by decide) c10
  have p12 := pre1 _ d2 _ d8
  rw [c5] at p12
  rw [c10] at p12
  obtain ⟨a13, d14, ta13⟩ := rf14_11 hW0 ta1
  obtain ⟨a15, d16, ta15⟩ := rf14_12 hW0 ta1
  obtain ⟨a17, d18, ta17⟩ := rf14_13 hW0 ta1
  obtain ⟨a19, d20, ta19⟩ := rf14_14 hW0 ta1
  obtain ⟨a21, d22, ta21⟩ := rf15_21 hW0 ta0
  obtain ⟨a23, d24, ta23⟩ := rf15_22 hW0 ta0
  obtain ⟨a25, d26, ta25⟩ := rf15_23 hW0 ta0
  obtain ⟨a27, d28, ta27⟩ := rf15_24 hW0 ta0
  obtain ⟨a29, d30, ta29⟩ := rf15_25 hW0 ta0
  obtain ⟨a31, d32, ta31⟩ := rf15_26 hW0 ta0
  obtain ⟨v33, c34⟩ : ∃ v, I0 a1 0 = v := ⟨_, rfl⟩
  have b35 := hW0.2.2.2.2.2.1 a0 ta0 _ d2
  rw [c34] at b35
  have b36 := iv14_0 hW0 ta1 c34
  obtain ⟨v37, c38⟩ : ∃ v, I0 a1 1 = v := ⟨_, rfl⟩
  have b39 := iv14_1 hW0 ta1 c38
  refine tr_iload_n dX12_hutOf_0 rfl ?_
  refine tr_aload_n dX12_hutOf_1 rfl ?_
  refine tr_getR dX12_hutOf_2 fl12_385 (kR15 hW0 ta0) d2 ?_
  refine q_getI dX12_hutOf_5 fl12_265 (kR14 hW0 ta1) c5 ?_
  refine q_icmp_ge 23 dX12_hutOf_8 (by decide) (fun h40 => ?_) (fun h40 => ?_)
  · skip
    refine q_bipush dX12_hutOf_23 (by decide +kernel) ?_
    intro v41 h42
    exact tr_iret hZ dX12_hutOf_25 rfl (by decide) (by decide) ⟨v41, rfl, rfl, rfl, rfl, rfl, rfl, rfl, (by exact om_9bdeced0 h42), (by have z := (hX _ _ d2 d8).2.2 (x1.toInt - v4.toInt).toNat (by rw [c10]; exact om_c9be63e3 b11.2 b11.1 p12 h40); rw [show (I0 a1 2).toInt.toNat + (x1.toInt - v4.toInt).toNat = x1.toInt.toNat by rw [c5]; exact om_19299e91 pre0 b6.2 b6.1 h40] at z; have y := z.2.1; exact om_de610867 h42 z.2.1), trivial⟩
  · skip
    refine tr_aload_n dX12_hutOf_11 rfl ?_
    refine tr_getR dX12_hutOf_12 fl12_385 (kR15 hW0 ta0) d2 ?_
    refine tr_getR dX12_hutOf_15 fl12_277 (kR14 hW0 ta1) d16 ?_
    refine tr_iload_n dX12_hutOf_18 rfl ?_
    refine q_iald dX12_hutOf_19 (kR55 hW0 ta15) (ti_in (nR55 hW0 ta15) (by exact om_2cfcd5a5 p3) (by exact om_d7ac722a b6.2 b6.1 h40)) ?_
    intro v43 c44
    have b45 := iv55 hW0 ta15 c44
    refine tr_goto 25 dX12_hutOf_20 (by decide) ?_
    exact tr_iret hZ dX12_hutOf_25 rfl (by decide) (by decide) ⟨v43, rfl, rfl, rfl, rfl, rfl, rfl, rfl, (by exact om_be83400a b45), (by have z := (hX _ _ d2 d8).2.1 1 x1.toInt.toNat _ (by exact om_72ebddfc) (by rw [c5]; exact om_224b9296 pre0 b6.2 b6.1 h40) d16; rw [show I0 a15 x1.toInt.toNat = v43 from c44] at z; exact z), trivial⟩
def wik_X12_marksLight : List Nat := [5247, 5375, 5439, 5503, 5567]
def wrk_X12_marksLight : List Nat := []
set_option maxHeartbeats 4000000 in
theorem fk_X12_marksLight {l : Launch} {T : Nat → Nat} {cn : Nat} {K N : Nat → Nat} {I0 : cz_I} {R0 : cz_R} {L0 : cz_L} {d : Int} (hW0 : Wf T cn K N I0 R0 d) (gX : Nat → Nat → Int) {a0 : Nat} (ta0 : T a0 = 15) {x1 : Int32} {x2 : Int32} (hx2 : 0 ≤ x2.toInt ∧ x2.toInt ≤ 239) (hX : EvY I0 R0 a0 gX) (pre0 : 0 ≤ x1.toInt) (pre1 : ∀ b1, R0 a0 3 = some b1 → ∀ b2, R0 a0 16 = some b2 → x1.toInt < (I0 b1 2).toInt + (I0 b2 1).toInt) (nn3 : ∃ b, R0 a0 3 = some b) : ConE l mX12_marksLight [.ref a0, .int x1, .int x2] cn K N I0 R0 L0 (ca_v (fun cn' K' N' I' R' L' => cn = cn' ∧ K = K' ∧ N = N' ∧ R0 = R' ∧ L0 = L' ∧ St T cn K N d wik_X12_marksLight wrk_X12_marksLight I0 R0 I' R0 ∧ (∀ r, R0 a0 21 = some r → MkW 0 I0 I' r (gX x1.toInt.toNat 0 = 0) (x2.toInt)) ∧ (∀ r, R0 a0 24 = some r → MkW 1 I0 I' r (gX x1.toInt.toNat 0 = 1) (x2.toInt)) ∧ (∀ r, R0 a0 25 = some r → MkW 1 I0 I' r (gX x1.toInt.toNat 0 = 4) (x2.toInt)) ∧ (∀ r, R0 a0 26 = some r → MkW 1 I0 I' r (gX x1.toInt.toNat 0 = 3) (240 * gX x1.toInt.toNat 1 + x2.toInt)) ∧ (∀ r, R0 a0 23 = some r → MkW 1 I0 I' r (gX x1.toInt.toNat 0 = 2) (240 * gX x1.toInt.toNat 1 + x2.toInt)) ∧ True)) := by
  refine ConE.of (by decide +kernel) rfl (Nat.le_of_ble_eq_true rfl) rfl (fun X hX hZ hE => ?_)
  subst hX
  have hS0 : St T cn K N d wik_X12_marksLight wrk_X12_marksLight I0 R0 I0 R0 := St.rf0 hW0
  obtain ⟨a1, d2⟩ := nn3
  have ta1 : T a1 = 14 := hW0.rsN ta0 rfl d2
  have p3 := pre0
  obtain ⟨v4, c5⟩ : ∃ v, I0 a1 2 = v := ⟨_, rfl⟩
  have b6 := iv14_2 hW0 ta1 c5
  obtain ⟨a7, d8, ta7⟩ := rf15_16 hW0 ta0
  obtain ⟨v9, c10⟩ : ∃ v, I0 a7 1 = v := ⟨_, rfl⟩
  have b11 := iv77_1 hW0 ta7 (by decide) c10
  have p12 := pre1 _ d2 _ d8
  rw [c5] at p12
  rw [c10] at p12
  obtain ⟨a13, d14, ta13⟩ := rf14_11 hW0 ta1
  obtain ⟨a15, d16, ta15⟩ := rf14_12 hW0 ta1
  obtain ⟨a17, d18, ta17⟩ := rf14_13 hW0 ta1
  obtain ⟨a19, d20, ta19⟩ := rf14_14 hW0 ta1
  obtain ⟨a21, d22, ta21⟩ := rf15_21 hW0 ta0
  obtain ⟨a23, d24, ta23⟩ := rf15_22 hW0 ta0
  obtain ⟨a25, d26, ta25⟩ := rf15_23 hW0 ta0
  obtain ⟨a27, d28, ta27⟩ := rf15_24 hW0 ta0
  obtain ⟨a29, d30, ta29⟩ := rf15_25 hW0 ta0
  obtain ⟨a31, d32, ta31⟩ := rf15_26 hW0 ta0
  obtain ⟨v33, c34⟩ : ∃ v, I0 a1 0 = v := ⟨_, rfl⟩
  have b35 := hW0.2.2.2.2.2.1 a0 ta0 _ d2
  rw [c34] at b35
  have b36 := iv14_0 hW0 ta1 c34
  obtain ⟨v37, c38⟩ : ∃ v, I0 a1 1 = v := ⟨_, rfl⟩
  have b39 := iv14_1 hW0 ta1 c38
  refine tr_aload_n dX12_marksLight_0 rfl ?_
  refine tr_iload_n dX12_marksLight_1 rfl ?_
  refine q_callVi hE (M' := mX12_kindOf) (as := [_]) dX12_marksLight_2 lk12_404 inX12_kindOf seX12_kindOf myX12_kindOf (by decide) ⟨by decide, by decide⟩ rfl (kR15 hS0.1 ta0) (Nat.le_of_ble_eq_true rfl) rfl rfl (by decide) (by decide) (fk_X12_kindOf hS0.1 (gX) ta0 hX (by first | done | with_reducible assumption | omega) (fun q0 z0 => fun q1 z1 => by obtain rfl := Option.some.inj ((d2).symm.trans z0); obtain rfl := Option.some.inj ((d8).symm.trans z1); (try rw [c5]); (try rw [c10]); first | done | with_reducible assumption | omega) ⟨_, d2⟩) ?_
  rintro v45 cn' K' N' I40 R41 L42 ⟨rfl, rfl, rfl, rfl, rfl, rfl, p46, -⟩
  have hk47 := ((hX _ _ d2 d8).1 x1.toInt.toNat (by rw [c5, c10]; exact om_587fc884 pre0 p12))
  have hk47k := And.intro hk47.1 hk47.2.1
  by_cases h48 : v45.toInt = 0
  · skip
    refine tr_tabIn (off := 31) 36 dX12_marksLight_5 (by exact om_241c7c6a p46 h48) (by exact om_0e962bbe p46 h48) (by rw [h48]; decide +kernel) (by decide) ?_
    refine tr_aload_n dX12_marksLight_36 rfl ?_
    refine tr_getR dX12_marksLight_37 fl12_27 (kR15 hS0.1 ta0) d22 ?_
    refine tr_iload_n dX12_marksLight_40 rfl ?_
    refine q_iconst dX12_marksLight_41 (by decide) ?_
    intro v49 h50
    refine q_zastE dX12_marksLight_42 (kR81 hS0.1 ta21) (ti_in (nR81 hS0.1 ta21) (by exact om_2ab23ca2 hx2.2 hx2.1) (by exact om_c695125b hx2.2 hx2.1)) hS0 ta21 (by exact om_3b50ecb9 h50) rfl rfl (by rfl) ?_
    intro I51 hS52 e54 f53
    refine tr_goto 103 dX12_marksLight_43 (by decide) ?_
    exact tr_vret hZ dX12_marksLight_103 rfl (by decide) (by decide) ⟨rfl, rfl, rfl, rfl, rfl, rfl, hS52, (fun r hr => by obtain rfl := Option.some.inj (d22.symm.trans hr); exact MkW.at (ix := x2.toNatClampNeg) (by exact om_146e4dfc p46 h48) (by have y := ti_nat (i := x2) (by exact om_2ab23ca2 hx2.2 hx2.1); exact om_e2057cdd y) (Eq.trans e54 (Int32.toInt_inj.mp ((show v49.toInt = 0 by exact om_29f55913 h50).trans rfl))) (fun j hj => (f53 _ _ (fun q => hj q.2)))), (fun r hr => by obtain rfl := Option.some.inj (d28.symm.trans hr); exact MkW.no (by exact om_eca32e87 p46 h48) (fun j => (f53 _ _ (fun q => by have z := ta27; rw [q.1, ta21] at z; exact absurd z (by decide))))), (fun r hr => by obtain rfl := Option.some.inj (d30.symm.trans hr); exact MkW.no (by exact om_6d2c1b6f p46 h48) (fun j => (f53 _ _ (fun q => by have z := ta29; rw [q.1, ta21] at z; exact absurd z (by decide))))), (fun r hr => by obtain rfl := Option.some.inj (d32.symm.trans hr); exact MkW.no (by exact om_029208a4 p46 h48) (fun j => (f53 _ _ (fun q => by have z := ta31; rw [q.1, ta21] at z; exact absurd z (by decide))))), (fun r hr => by obtain rfl := Option.some.inj (d26.symm.trans hr); exact MkW.no (by exact om_94e18eee p46 h48) (fun j => (f53 _ _ (fun q => by have z := ta25; rw [q.1, ta21] at z; exact absurd z (by decide))))), trivial⟩
  · skip
    by_cases h55 : v45.toInt = 1
    · skip
      refine tr_tabIn (off := 41) 46 dX12_marksLight_5 (by exact om_6bb62acf p46 h55) (by exact om_ddb5f754 p46 h55) (by rw [h55]; decide +kernel) (by decide) ?_
      refine tr_aload_n dX12_marksLight_46 rfl ?_
      refine tr_getR dX12_marksLight_47 fl12_37 (kR15 hS0.1 ta0) d28 ?_
      refine tr_iload_n dX12_marksLight_50 rfl ?_
      refine q_iconst dX12_marksLight_51 (by decide) ?_
      intro v56 h57
      refine q_zastE dX12_marksLight_52 (kR84 hS0.1 ta27) (ti_in (nR84 hS0.1 ta27) (by exact om_2ab23ca2 hx2.2 hx2.1) (by exact om_c695125b hx2.2 hx2.1)) hS0 ta27 (by exact om_d753bc65 h57) rfl rfl (by rfl) ?_
      intro I58 hS59 e61 f60
      refine tr_goto 103 dX12_marksLight_53 (by decide) ?_
      exact tr_vret hZ dX12_marksLight_103 rfl (by decide) (by decide) ⟨rfl, rfl, rfl, rfl, rfl, rfl, hS59, (fun r hr => by obtain rfl := Option.some.inj (d22.symm.trans hr); exact MkW.no (by exact om_708d24f8 p46 h55) (fun j => (f60 _ _ (fun q => by have z := ta21; rw [q.1, ta27] at z; exact absurd z (by decide))))), (fun r hr => by obtain rfl := Option.some.inj (d28.symm.trans hr); exact MkW.at (ix := x2.toNatClampNeg) (by exact om_bd8e519c p46 h55) (by have y := ti_nat (i := x2) (by exact om_2ab23ca2 hx2.2 hx2.1); exact om_e2057cdd y) (Eq.trans e61 (Int32.toInt_inj.mp ((show v56.toInt = 1 by exact om_ee8a1e2d h57).trans rfl))) (fun j hj => (f60 _ _ (fun q => hj q.2)))), (fun r hr => by obtain rfl := Option.some.inj (d30.symm.trans hr); exact MkW.no (by exact om_fbcea7a4 p46 h55) (fun j => (f60 _ _ (fun q => by have z := ta29; rw [q.1, ta27] at z; exact absurd z (by decide))))), (fun r hr => by obtain rfl := Option.some.inj (d32.symm.trans hr); exact MkW.no (by exact om_e767c443 p46 h55) (fun j => (f60 _ _ (fun q => by have z := ta31; rw [q.1, ta27] at z; exact absurd z (by decide))))), (fun r hr => by obtain rfl := Option.some.inj (d26.symm.trans hr); exact MkW.no (by exact om_7989ee7d p46 h55) (fun j => (f60 _ _ (fun q => by have z := ta25; rw [q.1, ta27] at z; exact absurd z (by decide))))), trivial⟩
    · skip
      by_cases h62 : v45.toInt = 2
      · skip
        refine tr_tabIn (off := 51) 56 dX12_marksLight_5 (by exact om_65653fc8 p46 h62) (by exact om_d885d7ee p46 h62) (by rw [h62]; decide +kernel) (by decide) ?_
        refine tr_aload_n dX12_marksLight_56 rfl ?_
        refine tr_getR dX12_marksLight_57 fl12_34 (kR15 hS0.1 ta0) d26 ?_
        refine q_sipush dX12_marksLight_60 (by decide +kernel) ?_
        intro v63 h64
        refine tr_aload_n dX12_marksLight_63 rfl ?_
        refine tr_iload_n dX12_marksLight_64 rfl ?_
        refine q_callVi hE (M' := mX12_hutOf) (as := [_]) dX12_marksLight_65 lk12_407 inX12_hutOf seX12_hutOf myX12_hutOf (by decide) ⟨by decide, by decide⟩ rfl (kR15 hS0.1 ta0) (Nat.le_of_ble_eq_true rfl) rfl rfl (by decide) (by decide) (fk_X12_hutOf hS0.1 (gX) ta0 hX (by first | done | with_reducible assumption | omega) (fun q0 z0 => fun q1 z1 => by obtain rfl := Option.some.inj ((d2).symm.trans z0); obtain rfl := Option.some.inj ((d8).symm.trans z1); (try rw [c5]); (try rw [c10]); first | done | with_reducible assumption | omega) ⟨_, d2⟩) ?_
        rintro v70 cn' K' N' I65 R66 L67 ⟨rfl, rfl, rfl, rfl, rfl, rfl, h71, p72, -⟩
        have hk47h := hk47.2.2.1 (by exact om_70782146 p46 h62)
        refine q_imulE (c := 240) dX12_marksLight_68 (by exact om_0c59d38e h64) (by exact om_906365f0 h71.2 h71.1 p72 hk47h.1) ?_
        intro v73 h74
        refine tr_iload_n dX12_marksLight_69 rfl ?_
        refine q_iaddE dX12_marksLight_70 (by intro j1 j2 j3 j4; exact om_c4f3ba61 hx2.2 hx2.1 h71.2 h71.1 p72 hk47h.1 h74 j1 j2) ?_
        intro v75 h76
        refine q_iconst dX12_marksLight_71 (by decide) ?_
        intro v77 h78
        refine q_zastE dX12_marksLight_72 (kR83 hS0.1 ta25) (ti_in (nR83 hS0.1 ta25) (by exact om_70cec6ff hx2.2 hx2.1 h71.2 h71.1 p72 hk47h.1 h74 h76) (by exact om_55709fdc hx2.2 hx2.1 h71.2 h71.1 p72 hk47h.1 h74 h76)) hS0 ta25 (by exact om_d753bc65 h78) rfl rfl (by rfl) ?_
        intro I79 hS80 e82 f81
        refine tr_goto 103 dX12_marksLight_73 (by decide) ?_
        exact tr_vret hZ dX12_marksLight_103 rfl (by decide) (by decide) ⟨rfl, rfl, rfl, rfl, rfl, rfl, hS80, (fun r hr => by obtain rfl := Option.some.inj (d22.symm.trans hr); exact MkW.no (by exact om_ba96fcd1 p46 h62) (fun j => (f81 _ _ (fun q => by have z := ta21; rw [q.1, ta25] at z; exact absurd z (by decide))))), (fun r hr => by obtain rfl := Option.some.inj (d28.symm.trans hr); exact MkW.no (by exact om_dda439fd p46 h62) (fun j => (f81 _ _ (fun q => by have z := ta27; rw [q.1, ta25] at z; exact absurd z (by decide))))), (fun r hr => by obtain rfl := Option.some.inj (d30.symm.trans hr); exact MkW.no (by exact om_29e53b74 p46 h62) (fun j => (f81 _ _ (fun q => by have z := ta29; rw [q.1, ta25] at z; exact absurd z (by decide))))), (fun r hr => by obtain rfl := Option.some.inj (d32.symm.trans hr); exact MkW.no (by exact om_07486937 p46 h62) (fun j => (f81 _ _ (fun q => by have z := ta31; rw [q.1, ta25] at z; exact absurd z (by decide))))), (fun r hr => by obtain rfl := Option.some.inj (d26.symm.trans hr); exact MkW.at (ix := v75.toNatClampNeg) (by exact om_a83b1cf6 p46 h62) (by have y := ti_nat (i := v75) (by exact om_70cec6ff hx2.2 hx2.1 h71.2 h71.1 p72 hk47h.1 h74 h76); exact om_a595f4c1 p72 h74 h76 y) (Eq.trans e82 (Int32.toInt_inj.mp ((show v77.toInt = 1 by exact om_ee8a1e2d h78).trans rfl))) (fun j hj => (f81 _ _ (fun q => hj q.2)))), trivial⟩
      · skip
        by_cases h83 : v45.toInt = 3
        · skip
          refine tr_tabIn (off := 71) 76 dX12_marksLight_5 (by exact om_5469b910 p46 h83) (by exact om_0fb127a1 p46 h83) (by rw [h83]; decide +kernel) (by decide) ?_
          refine tr_aload_n dX12_marksLight_76 rfl ?_
          refine tr_getR dX12_marksLight_77 fl12_43 (kR15 hS0.1 ta0) d32 ?_
          refine q_sipush dX12_marksLight_80 (by decide +kernel) ?_
          intro v84 h85
          refine tr_aload_n dX12_marksLight_83 rfl ?_
          refine tr_iload_n dX12_marksLight_84 rfl ?_
          refine q_callVi hE (M' := mX12_hutOf) (as := [_]) dX12_marksLight_85 lk12_407 inX12_hutOf seX12_hutOf myX12_hutOf (by decide) ⟨by decide, by decide⟩ rfl (kR15 hS0.1 ta0) (Nat.le_of_ble_eq_true rfl) rfl rfl (by decide) (by decide) (fk_X12_hutOf hS0.1 (gX) ta0 hX (by first | done | with_reducible assumption | omega) (fun q0 z0 => fun q1 z1 => by obtain rfl := Option.some.inj ((d2).symm.trans z0); obtain rfl := Option.some.inj ((d8).symm.trans z1); (try rw [c5]); (try rw [c10]); first | done | with_reducible assumption | omega) ⟨_, d2⟩) ?_
          rintro v91 cn' K' N' I86 R87 L88 ⟨rfl, rfl, rfl, rfl, rfl, rfl, h92, p93, -⟩
          have hk47h := hk47.2.2.1 (by exact om_2a840afb p46 h83)
          refine q_imulE (c := 240) dX12_marksLight_88 (by exact om_0c59d38e h85) (by exact om_906365f0 h92.2 h92.1 p93 hk47h.1) ?_
          intro v94 h95
          refine tr_iload_n dX12_marksLight_89 rfl ?_
          refine q_iaddE dX12_marksLight_90 (by intro j1 j2 j3 j4; exact om_c4f3ba61 hx2.2 hx2.1 h92.2 h92.1 p93 hk47h.1 h95 j1 j2) ?_
          intro v96 h97
          refine q_iconst dX12_marksLight_91 (by decide) ?_
          intro v98 h99
          refine q_zastE dX12_marksLight_92 (kR86 hS0.1 ta31) (ti_in (nR86 hS0.1 ta31) (by exact om_70cec6ff hx2.2 hx2.1 h92.2 h92.1 p93 hk47h.1 h95 h97) (by exact om_55709fdc hx2.2 hx2.1 h92.2 h92.1 p93 hk47h.1 h95 h97)) hS0 ta31 (by exact om_d753bc65 h99) rfl rfl (by rfl) ?_
          intro I100 hS101 e103 f102
          refine tr_goto 103 dX12_marksLight_93 (by decide) ?_
          exact tr_vret hZ dX12_marksLight_103 rfl (by decide) (by decide) ⟨rfl, rfl, rfl, rfl, rfl, rfl, hS101, (fun r hr => by obtain rfl := Option.some.inj (d22.symm.trans hr); exact MkW.no (by exact om_0684a696 p46 h83) (fun j => (f102 _ _ (fun q => by have z := ta21; rw [q.1, ta31] at z; exact absurd z (by decide))))), (fun r hr => by obtain rfl := Option.some.inj (d28.symm.trans hr); exact MkW.no (by exact om_9bfd7743 p46 h83) (fun j => (f102 _ _ (fun q => by have z := ta27; rw [q.1, ta31] at z; exact absurd z (by decide))))), (fun r hr => by obtain rfl := Option.some.inj (d30.symm.trans hr); exact MkW.no (by exact om_8825b988 p46 h83) (fun j => (f102 _ _ (fun q => by have z := ta29; rw [q.1, ta31] at z; exact absurd z (by decide))))), (fun r hr => by obtain rfl := Option.some.inj (d32.symm.trans hr); exact MkW.at (ix := v96.toNatClampNeg) (by exact om_07951ae5 p46 h83) (by have y := ti_nat (i := v96) (by exact om_70cec6ff hx2.2 hx2.1 h92.2 h92.1 p93 hk47h.1 h95 h97); exact om_a595f4c1 p93 h95 h97 y) (Eq.trans e103 (Int32.toInt_inj.mp ((show v98.toInt = 1 by exact om_ee8a1e2d h99).trans rfl))) (fun j hj => (f102 _ _ (fun q => hj q.2)))), (fun r hr => by obtain rfl := Option.some.inj (d26.symm.trans hr); exact MkW.no (by exact om_b03fc0fc p46 h83) (fun j => (f102 _ _ (fun q => by have z := ta25; rw [q.1, ta31] at z; exact absurd z (by decide))))), trivial⟩
        · skip
          refine tr_tabOut 96 dX12_marksLight_5 (by exact om_bea1747a p46 hk47.2.1 hk47.1 h48 h55 h62 h83) (by decide) ?_
          refine tr_aload_n dX12_marksLight_96 rfl ?_
          refine tr_getR dX12_marksLight_97 fl12_40 (kR15 hS0.1 ta0) d30 ?_
          refine tr_iload_n dX12_marksLight_100 rfl ?_
          refine q_iconst dX12_marksLight_101 (by decide) ?_
          intro v104 h105
          refine q_zastE dX12_marksLight_102 (kR85 hS0.1 ta29) (ti_in (nR85 hS0.1 ta29) (by exact om_2ab23ca2 hx2.2 hx2.1) (by exact om_c695125b hx2.2 hx2.1)) hS0 ta29 (by exact om_d753bc65 h105) rfl rfl (by rfl) ?_
          intro I106 hS107 e109 f108
          exact tr_vret hZ dX12_marksLight_103 rfl (by decide) (by decide) ⟨rfl, rfl, rfl, rfl, rfl, rfl, hS107, (fun r hr => by obtain rfl := Option.some.inj (d22.symm.trans hr); exact MkW.no (by exact om_b29379e9 p46 h48 h55 h62 h83) (fun j => (f108 _ _ (fun q => by have z := ta21; rw [q.1, ta29] at z; exact absurd z (by decide))))), (fun r hr => by obtain rfl := Option.some.inj (d28.symm.trans hr); exact MkW.no (by exact om_9efca61f p46 h55 h62 h83) (fun j => (f108 _ _ (fun q => by have z := ta27; rw [q.1, ta29] at z; exact absurd z (by decide))))), (fun r hr => by obtain rfl := Option.some.inj (d30.symm.trans hr); exact MkW.at (ix := x2.toNatClampNeg) (by exact om_17b51aa4 p46 hk47.2.1 hk47.1 h48 h55 h62 h83) (by have y := ti_nat (i := x2) (by exact om_2ab23ca2 hx2.2 hx2.1); exact om_e2057cdd y) (Eq.trans e109 (Int32.toInt_inj.mp ((show v104.toInt = 1 by exact om_ee8a1e2d h105).trans rfl))) (fun j hj => (f108 _ _ (fun q => hj q.2)))), (fun r hr => by obtain rfl := Option.some.inj (d32.symm.trans hr); exact MkW.no (by exact om_b4bc28de p46 h83) (fun j => (f108 _ _ (fun q => by have z := ta31; rw [q.1, ta29] at z; exact absurd z (by decide))))), (fun r hr => by obtain rfl := Option.some.inj (d26.symm.trans hr); exact MkW.no (by exact om_2bfd2f0e p46 h62 h83) (fun j => (f108 _ _ (fun q => by have z := ta25; rw [q.1, ta29] at z; exact absurd z (by decide))))), trivial⟩
def wik_X12_laysLight : List Nat := [5247, 5311, 5375, 5439, 5503, 5567]
def wrk_X12_laysLight : List Nat := []
set_option maxHeartbeats 4000000 in
theorem fk_X12_laysLight {l : Launch} {T : Nat → Nat} {cn : Nat} {K N : Nat → Nat} {I0 : cz_I} {R0 : cz_R} {L0 : cz_L} {d : Int} (hW0 : Wf T cn K N I0 R0 d) (gX : Nat → Nat → Int) {a0 : Nat} (ta0 : T a0 = 15) {x1 : Int32} (hX : EvY I0 R0 a0 gX) (nn3 : ∃ b, R0 a0 3 = some b) : ConE l mX12_laysLight [.ref a0, .int x1] cn K N I0 R0 L0 (ca_v (fun cn' K' N' I' R' L' => cn = cn' ∧ K = K' ∧ N = N' ∧ R0 = R' ∧ L0 = L' ∧ St T cn K N d wik_X12_laysLight wrk_X12_laysLight I0 R0 I' R0 ∧ (∀ b w, R0 a0 3 = some b → R0 a0 16 = some w → SkM I' R0 a0 (I0 b 0).toInt (I0 b 1).toInt x1.toInt gX ((I0 b 2).toInt + (I0 w 1).toInt).toNat (I0 b 0).toInt (I0 b 0).toInt 0) ∧ True)) := by
  refine ConE.of (by decide +kernel) rfl (Nat.le_of_ble_eq_true rfl) rfl (fun X hX hZ hE => ?_)
  subst hX
  have hS0 : St T cn K N d wik_X12_laysLight wrk_X12_laysLight I0 R0 I0 R0 := St.rf0 hW0
  obtain ⟨a1, d2⟩ := nn3
  have ta1 : T a1 = 14 := hW0.rsN ta0 rfl d2
  obtain ⟨v3, c4⟩ : ∃ v, I0 a1 0 = v := ⟨_, rfl⟩
  have b5 := hW0.2.2.2.2.2.1 a0 ta0 _ d2
  rw [c4] at b5
  have b6 := iv14_0 hW0 ta1 c4
  obtain ⟨v7, c8⟩ : ∃ v, I0 a1 1 = v := ⟨_, rfl⟩
  have b9 := iv14_1 hW0 ta1 c8
  obtain ⟨v10, c11⟩ : ∃ v, I0 a1 2 = v := ⟨_, rfl⟩
  have b12 := iv14_2 hW0 ta1 c11
  obtain ⟨a13, d14, ta13⟩ := rf15_16 hW0 ta0
  obtain ⟨v15, c16⟩ : ∃ v, I0 a13 1 = v := ⟨_, rfl⟩
  have b17 := iv77_1 hW0 ta13 (by decide) c16
  obtain ⟨a18, d19, ta18⟩ := rf14_11 hW0 ta1
  obtain ⟨a20, d21, ta20⟩ := rf14_12 hW0 ta1
  obtain ⟨a22, d23, ta22⟩ := rf14_13 hW0 ta1
  obtain ⟨a24, d25, ta24⟩ := rf14_14 hW0 ta1
  obtain ⟨a26, d27, ta26⟩ := rf15_21 hW0 ta0
  obtain ⟨a28, d29, ta28⟩ := rf15_22 hW0 ta0
  obtain ⟨a30, d31, ta30⟩ := rf15_23 hW0 ta0
  obtain ⟨a32, d33, ta32⟩ := rf15_24 hW0 ta0
  obtain ⟨a34, d35, ta34⟩ := rf15_25 hW0 ta0
  obtain ⟨a36, d37, ta36⟩ := rf15_26 hW0 ta0
  refine q_iconst dX12_laysLight_0 (by decide) ?_
  intro v38 h39
  refine tr_istore_n dX12_laysLight_1 (by decide) (by decide) ?_
  have lp49 : ∀ (fu : Nat) (ls : Nat → Option Value) (v40 : Int32) (I44 : cz_I), ls 0 = some (.ref a0) → ls 1 = some (.int x1) → ls 2 = some (.int v40) → St T cn K N d wik_X12_laysLight wrk_X12_laysLight I0 R0 I44 R0 → 0 ≤ v40.toInt → v40.toInt ≤ v3.toInt → (ClM I44 R0 a0 v7.toInt v40.toInt v40.toInt 0) → (-v40.toInt + 2147483647).toNat < fu → Tr X mX12_laysLight 2 ls [] cn K N I44 R0 L0 0 0 := by
    intro fu
    induction fu with
    | zero => intros; rename_i hz; exact absurd hz (Nat.not_lt_zero _)
    | succ fu ih49 =>
      intro ls v40 I44 hl41 hl42 hl43 hS45 g46 g47 rw48 hm49
      refine tr_iload_n dX12_laysLight_2 hl43 ?_
      refine tr_aload_n dX12_laysLight_3 hl41 ?_
      refine tr_getR dX12_laysLight_4 fl12_385 (kR15 hS45.1 ta0) d2 ?_
      refine q_getI dX12_laysLight_7 fl12_192 (kR14 hS45.1 ta1) ((hS45.cell ta1 (by decide +kernel)).trans c4) ?_
      refine q_icmp_ge 85 dX12_laysLight_10 (by decide) (fun h51 => ?_) (fun h51 => ?_)
      · skip
        refine q_iconst dX12_laysLight_85 (by decide) ?_
        intro v52 h53
        refine tr_istore_n dX12_laysLight_86 (by decide) (by decide) ?_
        have lp63 : ∀ (fu : Nat) (ls : Nat → Option Value) (v54 : Int32) (I58 : cz_I), ls 0 = some (.ref a0) → ls 1 = some (.int x1) → ls 2 = some (.int v54) → St T cn K N d wik_X12_laysLight wrk_X12_laysLight I0 R0 I58 R0 → 0 ≤ v54.toInt → v54.toInt ≤ v10.toInt + v15.toInt → (MkR I58 R0 a0 v3.toInt v7.toInt x1.toInt gX v54.toInt.toNat) → (-v54.toInt + 2147483647).toNat < fu → Tr X mX12_laysLight 87 ls [] cn K N I58 R0 L0 0 0 := by
          intro fu
          induction fu with
          | zero => intros; rename_i hz; exact absurd hz (Nat.not_lt_zero _)
          | succ fu ih63 =>
            intro ls v54 I58 hl55 hl56 hl57 hS59 g60 g61 rw62 hm63
            refine tr_iload_n dX12_laysLight_87 hl57 ?_
            refine tr_aload_n dX12_laysLight_88 hl55 ?_
            refine q_callVi hE (M' := mX12_events) (as := []) dX12_laysLight_89 lk12_393 inX12_events seX12_events myX12_events (by decide) ⟨by decide, by decide⟩ rfl (kR15 hS59.1 ta0) (Nat.le_of_ble_eq_true rfl) rfl rfl (by decide) (by decide) (fk_X12_events hS59.1  ta0 ⟨_, d2⟩) ?_
            rintro v70 cn' K' N' I65 R66 L67 ⟨rfl, rfl, rfl, rfl, rfl, rfl, h71, p72, -⟩
            have p73 := p72 _ d2 _ d14
            clear p72
            rw [((hS59.cell ta1 (by decide +kernel)).trans c11)] at p73
            rw [((hS59.cell ta13 (by decide +kernel)).trans c16)] at p73
            refine q_icmp_ge 133 dX12_laysLight_92 (by decide) (fun h74 => ?_) (fun h74 => ?_)
            · skip
              refine q_iconst dX12_laysLight_133 (by decide) ?_
              intro v75 h76
              refine tr_istore_n dX12_laysLight_134 (by decide) (by decide) ?_
              have lp86 : ∀ (fu : Nat) (ls : Nat → Option Value) (v77 : Int32) (I81 : cz_I), ls 0 = some (.ref a0) → ls 1 = some (.int x1) → ls 2 = some (.int v77) → St T cn K N d wik_X12_laysLight wrk_X12_laysLight I0 R0 I81 R0 → 0 ≤ v77.toInt → v77.toInt ≤ v3.toInt → (SkM I81 R0 a0 v3.toInt v7.toInt x1.toInt gX (v10.toInt + v15.toInt).toNat v77.toInt v77.toInt 0) → (-v77.toInt + 2147483647).toNat < fu → Tr X mX12_laysLight 135 ls [] cn K N I81 R0 L0 0 0 := by
                intro fu
                induction fu with
                | zero => intros; rename_i hz; exact absurd hz (Nat.not_lt_zero _)
                | succ fu ih86 =>
                  intro ls v77 I81 hl78 hl79 hl80 hS82 g83 g84 rw85 hm86
                  refine tr_iload_n dX12_laysLight_135 hl80 ?_
                  refine tr_aload_n dX12_laysLight_136 hl78 ?_
                  refine tr_getR dX12_laysLight_137 fl12_385 (kR15 hS82.1 ta0) d2 ?_
                  refine q_getI dX12_laysLight_140 fl12_192 (kR14 hS82.1 ta1) ((hS82.cell ta1 (by decide +kernel)).trans c4) ?_
                  refine q_icmp_ge 297 dX12_laysLight_143 (by decide) (fun h88 => ?_) (fun h88 => ?_)
                  · skip
                    exact tr_vret hZ dX12_laysLight_297 rfl (by decide) (by decide) ⟨rfl, rfl, rfl, rfl, rfl, rfl, hS82, (fun b w hb hw => by obtain rfl := Option.some.inj (d2.symm.trans hb); obtain rfl := Option.some.inj (d14.symm.trans hw); rw [c4, c8, c11, c16]; have z := rw85; rw [show v77.toInt = v3.toInt by exact om_ad1d8124 g47 h51 g84 h88] at z; exact z), trivial⟩
                  · skip
                    refine tr_aload_n dX12_laysLight_146 hl78 ?_
                    refine tr_getR dX12_laysLight_147 fl12_27 (kR15 hS82.1 ta0) d27 ?_
                    refine tr_iload_n dX12_laysLight_150 hl80 ?_
                    have jn96 : ∀ (ls : Nat → Option Value) (v89 : Int32), ls 0 = some (.ref a0) → ls 1 = some (.int x1) → ls 2 = some (.int v77) → 0 ≤ v89.toInt → v89.toInt ≤ 1 → v89.toInt = skB gX x1.toInt (v10.toInt + v15.toInt).toNat v77.toInt → Tr X mX12_laysLight 183 ls (.int v89 :: .int v77 :: .ref a26 :: []) cn K N I81 R0 L0 0 0 := by
                      intro ls v89 hl90 hl91 hl92 g93 g94 hj95
                      refine q_zastE dX12_laysLight_183 (kR81 hS82.1 ta26) (ti_in (nR81 hS82.1 ta26) (by exact om_2cfcd5a5 g83) (by exact om_d4fb0d37 b5 b6.2 g47 h51 h88)) hS82 ta26 (by exact om_17f58f58 g93 g94 hj95) rfl rfl (by rfl) ?_
                      intro I97 hS98 e100 f99
                      refine q_iconst dX12_laysLight_184 (by decide) ?_
                      intro v101 h102
                      refine tr_istore_n dX12_laysLight_185 (by decide) (by decide) ?_
                      have lp113 : ∀ (fu : Nat) (ls : Nat → Option Value) (v103 : Int32) (I108 : cz_I), ls 0 = some (.ref a0) → ls 1 = some (.int x1) → ls 2 = some (.int v77) → ls 3 = some (.int v103) → St T cn K N d wik_X12_laysLight wrk_X12_laysLight I0 R0 I108 R0 → v103.toInt ≤ v7.toInt → 0 ≤ v103.toInt → (SkM I108 R0 a0 v3.toInt v7.toInt x1.toInt gX (v10.toInt + v15.toInt).toNat v77.toInt (v77.toInt + 1) v103.toInt) → (-v103.toInt + 2147483647).toNat < fu → Tr X mX12_laysLight 186 ls [] cn K N I108 R0 L0 0 0 := by
                        intro fu
                        induction fu with
                        | zero => intros; rename_i hz; exact absurd hz (Nat.not_lt_zero _)
                        | succ fu ih113 =>
                          intro ls v103 I108 hl104 hl105 hl106 hl107 hS109 g110 g111 rw112 hm113
                          refine tr_iload_n dX12_laysLight_186 hl107 ?_
                          refine tr_aload_n dX12_laysLight_187 hl104 ?_
                          refine tr_getR dX12_laysLight_188 fl12_385 (kR15 hS109.1 ta0) d2 ?_
                          refine q_getI dX12_laysLight_191 fl12_263 (kR14 hS109.1 ta1) ((hS109.cell ta1 (by decide +kernel)).trans c8) ?_
                          refine q_icmp_ge 291 dX12_laysLight_194 (by decide) (fun h115 => ?_) (fun h115 => ?_)
                          · skip
                            refine q_iincE dX12_laysLight_291 hl106 (by decide) (by decide) (by intro j1 j2; exact om_d8ee421a b5 b6.2 g47 h51 g83 h88 j2) ?_
                            intro v116 h117
                            refine tr_goto 135 dX12_laysLight_294 (by decide) ?_
                            exact ih86 _ v116 I108 hl104 hl105 rfl hS109 (by exact om_68881c41 g83 h117) (by exact om_c625b209 g47 h51 h88 h117) (by have z := SkM.nx rw112 (by exact om_97f5682a h115) rfl; rw [show v77.toInt + 1 = v116.toInt by exact om_24eccdab h117] at z; exact z) (by exact om_81f62d36 b5 b6.2 b9.2 b9.1 g47 h51 g83 hm86 h88 g110 h115 h117)
                          · skip
                            refine tr_aload_n dX12_laysLight_197 hl104 ?_
                            refine tr_getR dX12_laysLight_198 fl12_31 (kR15 hS109.1 ta0) d29 ?_
                            refine q_sipush dX12_laysLight_201 (by decide +kernel) ?_
                            intro v118 h119
                            refine tr_iload_n dX12_laysLight_204 hl107 ?_
                            refine q_imulE (c := 240) dX12_laysLight_205 (by exact om_0c59d38e h119) (by exact om_1263bfb3 b9.2 b9.1 g111 h115) ?_
                            intro v120 h121
                            refine tr_iload_n dX12_laysLight_206 hl106 ?_
                            refine q_iaddE dX12_laysLight_207 (by intro j1 j2 j3 j4; exact om_76ad0896 b5 b6.2 b9.2 b9.1 g47 h51 g83 h88 g111 h115 h121 j1 j2 j4) ?_
                            intro v122 h123
                            have jn132 : ∀ (ls : Nat → Option Value) (v124 : Int32), ls 0 = some (.ref a0) → ls 1 = some (.int x1) → ls 2 = some (.int v77) → ls 3 = some (.int v103) → 0 ≤ v124.toInt → v124.toInt ≤ 1 → v124.toInt = skL gX x1.toInt (v10.toInt + v15.toInt).toNat v7.toInt v103.toInt v77.toInt → Tr X mX12_laysLight 237 ls (.int v124 :: .int v122 :: .ref a28 :: []) cn K N I108 R0 L0 0 0 := by
                              intro ls v124 hl125 hl126 hl127 hl128 g129 g130 hj131
                              refine q_zastE dX12_laysLight_237 (kR82 hS109.1 ta28) (ti_in (nR82 hS109.1 ta28) (by exact om_6aff3755 b5 b6.2 b9.2 b9.1 g47 h51 g83 h88 g111 h115 h121 h123) (by exact om_838fe68b b5 b6.2 b9.2 b9.1 g47 h51 g83 h88 g111 h115 h121 h123)) hS109 ta28 (by exact om_17f58f58 g129 g130 hj131) rfl rfl (by rfl) ?_
                              intro I133 hS134 e136 f135
                              refine tr_aload_n dX12_laysLight_238 hl125 ?_
                              refine tr_getR dX12_laysLight_239 fl12_34 (kR15 hS134.1 ta0) d31 ?_
                              refine q_sipush dX12_laysLight_242 (by decide +kernel) ?_
                              intro v137 h138
                              refine tr_iload_n dX12_laysLight_245 hl128 ?_
                              refine q_imulE (c := 240) dX12_laysLight_246 (by exact om_0c59d38e h138) (by exact om_1263bfb3 b9.2 b9.1 g111 h115) ?_
                              intro v139 h140
                              refine tr_iload_n dX12_laysLight_247 hl127 ?_
                              refine q_iaddE dX12_laysLight_248 (by intro j1 j2 j3 j4; exact om_62df59d2 b5 b6.2 b9.2 b9.1 g47 h51 g83 h88 g111 h115 h121 h123 h140 j1 j2 j4) ?_
                              intro v141 h142
                              have jn151 : ∀ (ls : Nat → Option Value) (v143 : Int32), ls 0 = some (.ref a0) → ls 1 = some (.int x1) → ls 2 = some (.int v77) → ls 3 = some (.int v103) → 0 ≤ v143.toInt → v143.toInt ≤ 1 → v143.toInt = skS gX x1.toInt (v10.toInt + v15.toInt).toNat v7.toInt v103.toInt v77.toInt → Tr X mX12_laysLight 284 ls (.int v143 :: .int v141 :: .ref a30 :: []) cn K N I133 R0 L0 0 0 := by
                                intro ls v143 hl144 hl145 hl146 hl147 g148 g149 hj150
                                refine q_zastE dX12_laysLight_284 (kR83 hS134.1 ta30) (ti_in (nR83 hS134.1 ta30) (by exact om_3be6dbf8 b5 b6.2 b9.2 b9.1 g47 h51 g83 h88 g111 h115 h121 h123 h140 h142) (by exact om_74035570 b5 b6.2 b9.2 b9.1 g47 h51 g83 h88 g111 h115 h121 h123 h140 h142)) hS134 ta30 (by exact om_17f58f58 g148 g149 hj150) rfl rfl (by rfl) ?_
                                intro I152 hS153 e155 f154
                                refine q_iincE dX12_laysLight_285 hl147 (by decide) (by decide) (by intro j1 j2; exact om_438f9820 b9.2 b9.1 g111 h115 j2) ?_
                                intro v156 h157
                                refine tr_goto 186 dX12_laysLight_288 (by decide) ?_
                                exact ih113 _ v156 I152 hl144 hl145 hl146 rfl hS153 (by exact om_ed6eac99 h115 h157) (by exact om_68881c41 g111 h157) (by have eq : v141.toNatClampNeg = v122.toNatClampNeg := congrArg Int.toNat (by exact om_04ace56c h121 h123 h140 h142); rw [show v156.toInt = v103.toInt + 1 by exact om_764ef139 h157]; exact SkM.st (ix := v122.toNatClampNeg) (v := v124.toInt) (w := v143.toInt) rw112 hS109.1 ta0 (by exact om_2cfcd5a5 g83) (by exact om_b6fabb1f h88) (by exact om_894ac62e b5 b6.2 g47 h51) (by exact om_2cfcd5a5 g111) (by exact om_b6fabb1f h115) (by have q := ti_nat (i := v122) (by exact om_0f5475ce b5 b6.2 b9.2 b9.1 g47 h51 g83 h88 g111 h115 h121 h123 h140 h142 h157); exact om_664a861a h121 h123 h140 h142 q) d29 d31 (congrArg Int32.toInt (e136)) f135 (by rw [← eq]; exact congrArg Int32.toInt e155) (by rw [← eq]; exact f154) hj131 hj150) (by exact om_9596cbdd b9.2 b9.1 g111 hm113 h115 h157)
                              refine tr_aload_n dX12_laysLight_249 hl125 ?_
                              refine tr_getR dX12_laysLight_250 fl12_34 (kR15 hS134.1 ta0) d31 ?_
                              refine q_sipush dX12_laysLight_253 (by decide +kernel) ?_
                              intro v158 h159
                              refine tr_iload_n dX12_laysLight_256 hl128 ?_
                              refine q_imulE (c := 240) dX12_laysLight_257 (by exact om_0c59d38e h159) (by exact om_1263bfb3 b9.2 b9.1 g111 h115) ?_
                              intro v160 h161
                              refine tr_iload_n dX12_laysLight_258 hl127 ?_
                              refine q_iaddE dX12_laysLight_259 (by intro j1 j2 j3 j4; exact om_3c9e68a8 b5 b6.2 b9.2 b9.1 g47 h51 g83 h88 g111 h115 h121 h123 h140 h142 h161 j1 j2 j4) ?_
                              intro v162 h163
                              refine q_zald dX12_laysLight_260 (kR83 hS134.1 ta30) (ti_in (nR83 hS134.1 ta30) (by exact om_818dab41 b5 b6.2 b9.2 b9.1 g47 h51 g83 h88 g111 h115 h121 h123 h140 h142 h161 h163) (by exact om_8e2dc519 b5 b6.2 b9.2 b9.1 g47 h51 g83 h88 g111 h115 h121 h123 h140 h142 h161 h163)) ?_
                              intro v164 c165
                              have b166 := iv83 hS134.1 ta30 c165
                              refine q_if_ne 279 dX12_laysLight_261 (by decide) (fun h167 => ?_) (fun h167 => ?_)
                              · skip
                                refine q_iconst dX12_laysLight_279 (by decide) ?_
                                intro v168 h169
                                refine tr_goto 284 dX12_laysLight_280 (by decide) ?_
                                exact jn151 _ v168 hl125 hl126 hl127 hl128 (by exact om_f9079521 h169) (by exact om_e6632817 h169) (by have yv164 := rw112.2.2.2.2.2 _ d31 v103.toInt.toNat v77.toInt.toNat (by exact om_479568b2 g111 h115) (by exact om_d012d0e9 g47 h51 g83 h88 h121 h123 h140 h142 h161 h163); rw [show 240 * v103.toInt.toNat + v77.toInt.toNat = v162.toNatClampNeg by have q := ti_nat (i := v162) (by exact om_818dab41 b5 b6.2 b9.2 b9.1 g47 h51 g83 h88 g111 h115 h121 h123 h140 h142 h161 h163); exact om_159e3701 g83 g111 h121 h123 h140 h142 h161 h163 q, show I108 a30 v162.toNatClampNeg = v164 from ((f135 _ _ (fun q => by have z := ta30; rw [q.1, ta28] at z; exact absurd z (by decide))).symm.trans c165), show ((v77.toInt.toNat : Nat) : Int) = v77.toInt by exact om_bd19d4f9 g83 h121 h123 h140 h142 h161 h163, show ((v103.toInt.toNat : Nat) : Int) = v103.toInt by exact om_ce141e52 g111] at yv164; rw [if_neg (by exact om_9b20becd)] at yv164; have b2 := hh_01 gX 2 x1.toInt v77.toInt v103.toInt (v10.toInt + v15.toInt).toNat; have hv := hj131; unfold skS; rw [← hv]; split <;> omega)
                              · skip
                                refine tr_aload_n dX12_laysLight_264 hl125 ?_
                                refine tr_getR dX12_laysLight_265 fl12_31 (kR15 hS134.1 ta0) d29 ?_
                                refine q_sipush dX12_laysLight_268 (by decide +kernel) ?_
                                intro v170 h171
                                refine tr_iload_n dX12_laysLight_271 hl128 ?_
                                refine q_imulE (c := 240) dX12_laysLight_272 (by exact om_0c59d38e h171) (by exact om_1263bfb3 b9.2 b9.1 g111 h115) ?_
                                intro v172 h173
                                refine tr_iload_n dX12_laysLight_273 hl127 ?_
                                refine q_iaddE dX12_laysLight_274 (by intro j1 j2 j3 j4; exact om_0a9587b5 b5 b6.2 b9.2 b9.1 g47 h51 g83 h88 g111 h115 h121 h123 h140 h142 h161 h163 h173 j1 j2 j4) ?_
                                intro v174 h175
                                refine q_zald dX12_laysLight_275 (kR82 hS134.1 ta28) (ti_in (nR82 hS134.1 ta28) (by exact om_21ea4ec3 b5 b6.2 b9.2 b9.1 g47 h51 g83 h88 g111 h115 h121 h123 h140 h142 h161 h163 h173 h175) (by exact om_bc53a9d8 b5 b6.2 b9.2 b9.1 g47 h51 g83 h88 g111 h115 h121 h123 h140 h142 h161 h163 h173 h175)) ?_
                                intro v176 c177
                                have b178 := iv82 hS134.1 ta28 c177
                                refine q_if_eq 283 dX12_laysLight_276 (by decide) (fun h179 => ?_) (fun h179 => ?_)
                                · skip
                                  refine q_iconst dX12_laysLight_283 (by decide) ?_
                                  intro v180 h181
                                  exact jn151 _ v180 hl125 hl126 hl127 hl128 (by exact om_d99fa9e4 h181) (by exact om_d3de7ec9 h181) (by have yv164 := rw112.2.2.2.2.2 _ d31 v103.toInt.toNat v77.toInt.toNat (by exact om_479568b2 g111 h115) (by exact om_251994dd b5 b6.2 g47 h51 h88 h121 h123 h140 h142 h161 h163 h173 h175); rw [show 240 * v103.toInt.toNat + v77.toInt.toNat = v162.toNatClampNeg by have q := ti_nat (i := v162) (by exact om_9ab76eb7 b5 b6.2 b9.2 b9.1 g47 h51 g83 h88 g111 h115 h121 h123 h140 h142 h161 h163 h173 h175); exact om_6a902d65 g83 g111 h121 h123 h140 h142 h161 h163 h173 h175 q, show I108 a30 v162.toNatClampNeg = v164 from ((f135 _ _ (fun q => by have z := ta30; rw [q.1, ta28] at z; exact absurd z (by decide))).symm.trans c165), show ((v77.toInt.toNat : Nat) : Int) = v77.toInt by exact om_0728fce2 g83 h121 h123 h140 h142 h161 h163 h173 h175, show ((v103.toInt.toNat : Nat) : Int) = v103.toInt by exact om_ce141e52 g111] at yv164; rw [if_neg (by exact om_9b20becd)] at yv164; have yv176 : v176.toInt = v124.toInt := congrArg Int32.toInt (by have z := c177; rw [show v174.toNatClampNeg = v122.toNatClampNeg from congrArg Int.toNat (by exact om_104342a5 h121 h123 h140 h142 h161 h163 h173 h175)] at z; exact z.symm.trans (e136)); have b2 := hh_01 gX 2 x1.toInt v77.toInt v103.toInt (v10.toInt + v15.toInt).toNat; have hv := hj131; unfold skS; rw [← hv]; split <;> omega)
                                · skip
                                  refine q_iconst dX12_laysLight_279 (by decide) ?_
                                  intro v182 h183
                                  refine tr_goto 284 dX12_laysLight_280 (by decide) ?_
                                  exact jn151 _ v182 hl125 hl126 hl127 hl128 (by exact om_f9079521 h183) (by exact om_e6632817 h183) (by have yv164 := rw112.2.2.2.2.2 _ d31 v103.toInt.toNat v77.toInt.toNat (by exact om_479568b2 g111 h115) (by exact om_251994dd b5 b6.2 g47 h51 h88 h121 h123 h140 h142 h161 h163 h173 h175); rw [show 240 * v103.toInt.toNat + v77.toInt.toNat = v162.toNatClampNeg by have q := ti_nat (i := v162) (by exact om_9ab76eb7 b5 b6.2 b9.2 b9.1 g47 h51 g83 h88 g111 h115 h121 h123 h140 h142 h161 h163 h173 h175); exact om_6a902d65 g83 g111 h121 h123 h140 h142 h161 h163 h173 h175 q, show I108 a30 v162.toNatClampNeg = v164 from ((f135 _ _ (fun q => by have z := ta30; rw [q.1, ta28] at z; exact absurd z (by decide))).symm.trans c165), show ((v77.toInt.toNat : Nat) : Int) = v77.toInt by exact om_0728fce2 g83 h121 h123 h140 h142 h161 h163 h173 h175, show ((v103.toInt.toNat : Nat) : Int) = v103.toInt by exact om_ce141e52 g111] at yv164; rw [if_neg (by exact om_9b20becd)] at yv164; have yv176 : v176.toInt = v124.toInt := congrArg Int32.toInt (by have z := c177; rw [show v174.toNatClampNeg = v122.toNatClampNeg from congrArg Int.toNat (by exact om_104342a5 h121 h123 h140 h142 h161 h163 h173 h175)] at z; exact z.symm.trans (e136)); have b2 := hh_01 gX 2 x1.toInt v77.toInt v103.toInt (v10.toInt + v15.toInt).toNat; have hv := hj131; unfold skS; rw [← hv]; split <;> omega)
                            refine tr_aload_n dX12_laysLight_208 hl104 ?_
                            refine tr_getR dX12_laysLight_209 fl12_43 (kR15 hS109.1 ta0) d37 ?_
                            refine q_sipush dX12_laysLight_212 (by decide +kernel) ?_
                            intro v184 h185
                            refine tr_iload_n dX12_laysLight_215 hl107 ?_
                            refine q_imulE (c := 240) dX12_laysLight_216 (by exact om_0c59d38e h185) (by exact om_1263bfb3 b9.2 b9.1 g111 h115) ?_
                            intro v186 h187
                            refine tr_iload_n dX12_laysLight_217 hl106 ?_
                            refine q_iaddE dX12_laysLight_218 (by intro j1 j2 j3 j4; exact om_62df59d2 b5 b6.2 b9.2 b9.1 g47 h51 g83 h88 g111 h115 h121 h123 h187 j1 j2 j4) ?_
                            intro v188 h189
                            refine q_zald dX12_laysLight_219 (kR86 hS109.1 ta36) (ti_in (nR86 hS109.1 ta36) (by exact om_3be6dbf8 b5 b6.2 b9.2 b9.1 g47 h51 g83 h88 g111 h115 h121 h123 h187 h189) (by exact om_74035570 b5 b6.2 b9.2 b9.1 g47 h51 g83 h88 g111 h115 h121 h123 h187 h189)) ?_
                            intro v190 c191
                            have b192 := iv86 hS109.1 ta36 c191
                            refine q_if_ne 236 dX12_laysLight_220 (by decide) (fun h193 => ?_) (fun h193 => ?_)
                            · skip
                              refine q_iconst dX12_laysLight_236 (by decide) ?_
                              intro v194 h195
                              exact jn132 _ v194 hl104 hl105 hl106 hl107 (by exact om_d99fa9e4 h195) (by exact om_d3de7ec9 h195) (by have yv190 := rw112.2.2.2.1 _ d37 v103.toInt.toNat v77.toInt.toNat (by exact om_479568b2 g111 h115) (by exact om_0f5aa1f9 g47 h51 g83 h88 h121 h123 h187 h189); rw [show 240 * v103.toInt.toNat + v77.toInt.toNat = v188.toNatClampNeg by have q := ti_nat (i := v188) (by exact om_3be6dbf8 b5 b6.2 b9.2 b9.1 g47 h51 g83 h88 g111 h115 h121 h123 h187 h189); exact om_dece2656 g83 g111 h121 h123 h187 h189 q, show I108 a36 v188.toNatClampNeg = v190 from c191, show ((v77.toInt.toNat : Nat) : Int) = v77.toInt by exact om_9b6b708c g83 h121 h123 h187 h189, show ((v103.toInt.toNat : Nat) : Int) = v103.toInt by exact om_ce141e52 g111] at yv190; have b3 := hh_01 gX 3 x1.toInt v77.toInt v103.toInt (v10.toInt + v15.toInt).toNat; unfold skL; split <;> omega)
                            · skip
                              refine tr_aload_n dX12_laysLight_223 hl104 ?_
                              refine tr_getR dX12_laysLight_224 fl12_27 (kR15 hS109.1 ta0) d27 ?_
                              refine tr_iload_n dX12_laysLight_227 hl106 ?_
                              refine q_zald dX12_laysLight_228 (kR81 hS109.1 ta26) (ti_in (nR81 hS109.1 ta26) (by exact om_2cfcd5a5 g83) (by exact om_5ccefa42 b5 b6.2 g47 h51 h88 h121 h123 h187 h189)) ?_
                              intro v196 c197
                              have b198 := iv81 hS109.1 ta26 c197
                              refine q_if_eq 236 dX12_laysLight_229 (by decide) (fun h199 => ?_) (fun h199 => ?_)
                              · skip
                                refine q_iconst dX12_laysLight_236 (by decide) ?_
                                intro v200 h201
                                exact jn132 _ v200 hl104 hl105 hl106 hl107 (by exact om_d99fa9e4 h201) (by exact om_d3de7ec9 h201) (by have yv190 := rw112.2.2.2.1 _ d37 v103.toInt.toNat v77.toInt.toNat (by exact om_479568b2 g111 h115) (by exact om_0f5aa1f9 g47 h51 g83 h88 h121 h123 h187 h189); rw [show 240 * v103.toInt.toNat + v77.toInt.toNat = v188.toNatClampNeg by have q := ti_nat (i := v188) (by exact om_3be6dbf8 b5 b6.2 b9.2 b9.1 g47 h51 g83 h88 g111 h115 h121 h123 h187 h189); exact om_dece2656 g83 g111 h121 h123 h187 h189 q, show I108 a36 v188.toNatClampNeg = v190 from c191, show ((v77.toInt.toNat : Nat) : Int) = v77.toInt by exact om_9b6b708c g83 h121 h123 h187 h189, show ((v103.toInt.toNat : Nat) : Int) = v103.toInt by exact om_ce141e52 g111] at yv190; have yv196 := rw112.1 _ d27 v77.toInt.toNat (by exact om_0f5aa1f9 g47 h51 g83 h88 h121 h123 h187 h189); rw [show I108 a26 v77.toInt.toNat = v196 from c197, show ((v77.toInt.toNat : Nat) : Int) = v77.toInt by exact om_9b6b708c g83 h121 h123 h187 h189, if_pos (by exact om_f200d65b)] at yv196; have b3 := hh_01 gX 3 x1.toInt v77.toInt v103.toInt (v10.toInt + v15.toInt).toNat; unfold skL; split <;> omega)
                              · skip
                                refine q_iconst dX12_laysLight_232 (by decide) ?_
                                intro v202 h203
                                refine tr_goto 237 dX12_laysLight_233 (by decide) ?_
                                exact jn132 _ v202 hl104 hl105 hl106 hl107 (by exact om_f9079521 h203) (by exact om_e6632817 h203) (by have yv190 := rw112.2.2.2.1 _ d37 v103.toInt.toNat v77.toInt.toNat (by exact om_479568b2 g111 h115) (by exact om_0f5aa1f9 g47 h51 g83 h88 h121 h123 h187 h189); rw [show 240 * v103.toInt.toNat + v77.toInt.toNat = v188.toNatClampNeg by have q := ti_nat (i := v188) (by exact om_3be6dbf8 b5 b6.2 b9.2 b9.1 g47 h51 g83 h88 g111 h115 h121 h123 h187 h189); exact om_dece2656 g83 g111 h121 h123 h187 h189 q, show I108 a36 v188.toNatClampNeg = v190 from c191, show ((v77.toInt.toNat : Nat) : Int) = v77.toInt by exact om_9b6b708c g83 h121 h123 h187 h189, show ((v103.toInt.toNat : Nat) : Int) = v103.toInt by exact om_ce141e52 g111] at yv190; have yv196 := rw112.1 _ d27 v77.toInt.toNat (by exact om_0f5aa1f9 g47 h51 g83 h88 h121 h123 h187 h189); rw [show I108 a26 v77.toInt.toNat = v196 from c197, show ((v77.toInt.toNat : Nat) : Int) = v77.toInt by exact om_9b6b708c g83 h121 h123 h187 h189, if_pos (by exact om_f200d65b)] at yv196; have b3 := hh_01 gX 3 x1.toInt v77.toInt v103.toInt (v10.toInt + v15.toInt).toNat; unfold skL; split <;> omega)
                      exact lp113 _ _ v101 I97 hl90 hl91 hl92 rfl hS98 (by exact om_44f25859 b9.2 b9.1 h102) (by exact om_d99fa9e4 h102) (by rw [show v101.toInt = 0 by exact om_29f55913 h102]; exact SkM.sk (ix := v77.toNatClampNeg) rw85 hS82.1 ta0 (by exact om_2cfcd5a5 g83) (by exact om_b6fabb1f h88) (ti_nat (by exact om_2cfcd5a5 g83)) d27 (congrArg Int32.toInt e100) f99 hj95) (Nat.lt_succ_self _)
                    refine tr_aload_n dX12_laysLight_151 hl78 ?_
                    refine tr_getR dX12_laysLight_152 fl12_37 (kR15 hS82.1 ta0) d33 ?_
                    refine tr_iload_n dX12_laysLight_155 hl80 ?_
                    refine q_zald dX12_laysLight_156 (kR84 hS82.1 ta32) (ti_in (nR84 hS82.1 ta32) (by exact om_2cfcd5a5 g83) (by exact om_d4fb0d37 b5 b6.2 g47 h51 h88)) ?_
                    intro v204 c205
                    have b206 := iv84 hS82.1 ta32 c205
                    refine q_if_ne 182 dX12_laysLight_157 (by decide) (fun h207 => ?_) (fun h207 => ?_)
                    · skip
                      refine q_iconst dX12_laysLight_182 (by decide) ?_
                      intro v208 h209
                      exact jn96 _ v208 hl78 hl79 hl80 (by exact om_d99fa9e4 h209) (by exact om_d3de7ec9 h209) (by have yv204 := rw85.2.1 _ d33 v77.toInt.toNat (by exact om_4fa58ce3 b5 b6.2 g47 h51 h88); rw [show I81 a32 v77.toInt.toNat = v204 from c205, show ((v77.toInt.toNat : Nat) : Int) = v77.toInt by exact om_ce141e52 g83] at yv204; have b0 := hx_b gX 0 x1.toInt v77.toInt (v10.toInt + v15.toInt).toNat; have b1 := hx_b gX 1 x1.toInt v77.toInt (v10.toInt + v15.toInt).toNat; have b4 := hx_b gX 4 x1.toInt v77.toInt (v10.toInt + v15.toInt).toNat; unfold skB; split <;> omega)
                    · skip
                      refine tr_aload_n dX12_laysLight_160 hl78 ?_
                      refine tr_getR dX12_laysLight_161 fl12_40 (kR15 hS82.1 ta0) d35 ?_
                      refine tr_iload_n dX12_laysLight_164 hl80 ?_
                      refine q_zald dX12_laysLight_165 (kR85 hS82.1 ta34) (ti_in (nR85 hS82.1 ta34) (by exact om_2cfcd5a5 g83) (by exact om_d4fb0d37 b5 b6.2 g47 h51 h88)) ?_
                      intro v210 c211
                      have b212 := iv85 hS82.1 ta34 c211
                      refine q_if_ne 178 dX12_laysLight_166 (by decide) (fun h213 => ?_) (fun h213 => ?_)
                      · skip
                        refine q_iconst dX12_laysLight_178 (by decide) ?_
                        intro v214 h215
                        refine tr_goto 183 dX12_laysLight_179 (by decide) ?_
                        exact jn96 _ v214 hl78 hl79 hl80 (by exact om_f9079521 h215) (by exact om_e6632817 h215) (by have yv204 := rw85.2.1 _ d33 v77.toInt.toNat (by exact om_4fa58ce3 b5 b6.2 g47 h51 h88); rw [show I81 a32 v77.toInt.toNat = v204 from c205, show ((v77.toInt.toNat : Nat) : Int) = v77.toInt by exact om_ce141e52 g83] at yv204; have yv210 := rw85.2.2.1 _ d35 v77.toInt.toNat (by exact om_4fa58ce3 b5 b6.2 g47 h51 h88); rw [show I81 a34 v77.toInt.toNat = v210 from c211, show ((v77.toInt.toNat : Nat) : Int) = v77.toInt by exact om_ce141e52 g83] at yv210; have b0 := hx_b gX 0 x1.toInt v77.toInt (v10.toInt + v15.toInt).toNat; have b1 := hx_b gX 1 x1.toInt v77.toInt (v10.toInt + v15.toInt).toNat; have b4 := hx_b gX 4 x1.toInt v77.toInt (v10.toInt + v15.toInt).toNat; unfold skB; split <;> omega)
                      · skip
                        refine tr_aload_n dX12_laysLight_169 hl78 ?_
                        refine tr_getR dX12_laysLight_170 fl12_27 (kR15 hS82.1 ta0) d27 ?_
                        refine tr_iload_n dX12_laysLight_173 hl80 ?_
                        refine q_zald dX12_laysLight_174 (kR81 hS82.1 ta26) (ti_in (nR81 hS82.1 ta26) (by exact om_2cfcd5a5 g83) (by exact om_d4fb0d37 b5 b6.2 g47 h51 h88)) ?_
                        intro v216 c217
                        have b218 := iv81 hS82.1 ta26 c217
                        refine q_if_eq 182 dX12_laysLight_175 (by decide) (fun h219 => ?_) (fun h219 => ?_)
                        · skip
                          refine q_iconst dX12_laysLight_182 (by decide) ?_
                          intro v220 h221
                          exact jn96 _ v220 hl78 hl79 hl80 (by exact om_d99fa9e4 h221) (by exact om_d3de7ec9 h221) (by have yv204 := rw85.2.1 _ d33 v77.toInt.toNat (by exact om_4fa58ce3 b5 b6.2 g47 h51 h88); rw [show I81 a32 v77.toInt.toNat = v204 from c205, show ((v77.toInt.toNat : Nat) : Int) = v77.toInt by exact om_ce141e52 g83] at yv204; have yv210 := rw85.2.2.1 _ d35 v77.toInt.toNat (by exact om_4fa58ce3 b5 b6.2 g47 h51 h88); rw [show I81 a34 v77.toInt.toNat = v210 from c211, show ((v77.toInt.toNat : Nat) : Int) = v77.toInt by exact om_ce141e52 g83] at yv210; have yv216 := rw85.1 _ d27 v77.toInt.toNat (by exact om_4fa58ce3 b5 b6.2 g47 h51 h88); rw [show I81 a26 v77.toInt.toNat = v216 from c217, show ((v77.toInt.toNat : Nat) : Int) = v77.toInt by exact om_ce141e52 g83] at yv216; rw [if_neg (by exact om_d5ad6081)] at yv216; have b0 := hx_b gX 0 x1.toInt v77.toInt (v10.toInt + v15.toInt).toNat; have b1 := hx_b gX 1 x1.toInt v77.toInt (v10.toInt + v15.toInt).toNat; have b4 := hx_b gX 4 x1.toInt v77.toInt (v10.toInt + v15.toInt).toNat; unfold skB; split <;> omega)
                        · skip
                          refine q_iconst dX12_laysLight_178 (by decide) ?_
                          intro v222 h223
                          refine tr_goto 183 dX12_laysLight_179 (by decide) ?_
                          exact jn96 _ v222 hl78 hl79 hl80 (by exact om_f9079521 h223) (by exact om_e6632817 h223) (by have yv204 := rw85.2.1 _ d33 v77.toInt.toNat (by exact om_4fa58ce3 b5 b6.2 g47 h51 h88); rw [show I81 a32 v77.toInt.toNat = v204 from c205, show ((v77.toInt.toNat : Nat) : Int) = v77.toInt by exact om_ce141e52 g83] at yv204; have yv210 := rw85.2.2.1 _ d35 v77.toInt.toNat (by exact om_4fa58ce3 b5 b6.2 g47 h51 h88); rw [show I81 a34 v77.toInt.toNat = v210 from c211, show ((v77.toInt.toNat : Nat) : Int) = v77.toInt by exact om_ce141e52 g83] at yv210; have yv216 := rw85.1 _ d27 v77.toInt.toNat (by exact om_4fa58ce3 b5 b6.2 g47 h51 h88); rw [show I81 a26 v77.toInt.toNat = v216 from c217, show ((v77.toInt.toNat : Nat) : Int) = v77.toInt by exact om_ce141e52 g83] at yv216; rw [if_neg (by exact om_d5ad6081)] at yv216; have b0 := hx_b gX 0 x1.toInt v77.toInt (v10.toInt + v15.toInt).toNat; have b1 := hx_b gX 1 x1.toInt v77.toInt (v10.toInt + v15.toInt).toNat; have b4 := hx_b gX 4 x1.toInt v77.toInt (v10.toInt + v15.toInt).toNat; unfold skB; split <;> omega)
              exact lp86 _ _ v75 I58 hl55 hl56 rfl hS59 (by exact om_d99fa9e4 h76) (by exact om_25362ea0 b5 b6.2 g47 h51 h76) (by rw [show v75.toInt = 0 by exact om_29f55913 h76]; have z := rw62; rw [show v54.toInt.toNat = (v10.toInt + v15.toInt).toNat by exact om_05204e3e g61 h71.2 h71.1 p73 h74] at z; exact SkM.of z) (Nat.lt_succ_self _)
            · skip
              refine tr_iload_n dX12_laysLight_95 hl57 ?_
              refine tr_iload_n dX12_laysLight_96 hl56 ?_
              refine q_icmp_eq 127 dX12_laysLight_97 (by decide) (fun h224 => ?_) (fun h224 => ?_)
              · skip
                refine q_iincE dX12_laysLight_127 hl57 (by decide) (by decide) (by intro j1 j2; exact om_9846d5c3 g60 h71.2 h71.1 h74 h224 j2) ?_
                intro v225 h226
                refine tr_goto 87 dX12_laysLight_130 (by decide) ?_
                exact ih63 _ v225 I58 hl55 hl56 rfl hS59 (by exact om_075c04dc g60 h224 h226) (by exact om_ec362a21 p73 h74 h224 h226) (by rw [show v225.toInt.toNat = v54.toInt.toNat + 1 by exact om_a0c7ed41 g60 h224 h226]; exact MkR.skip rw62 (by exact om_6b98728a g60 h224 h226)) (by exact om_f77b6ad0 g60 hm63 h71.2 h71.1 h74 h224 h226)
              · skip
                refine tr_aload_n dX12_laysLight_100 hl55 ?_
                refine tr_iload_n dX12_laysLight_101 hl57 ?_
                refine q_callVi hE (M' := mX12_fromOf) (as := [_]) dX12_laysLight_102 lk12_395 inX12_fromOf seX12_fromOf myX12_fromOf (by decide) ⟨by decide, by decide⟩ rfl (kR15 hS59.1 ta0) (Nat.le_of_ble_eq_true rfl) rfl rfl (by decide) (by decide) (fk_X12_fromOf hS59.1 (gX) ta0 (EvY.st hX hW0 ta0 hS59 (by decide +kernel)) (by first | done | with_reducible assumption | omega) (fun q0 z0 => fun q1 z1 => by obtain rfl := Option.some.inj ((d2).symm.trans z0); obtain rfl := Option.some.inj ((d14).symm.trans z1); (try rw [((hS59.cell ta1 (by decide +kernel)).trans c11)]); (try rw [((hS59.cell ta13 (by decide +kernel)).trans c16)]); first | done | with_reducible assumption | exact om_af2a18fa p73 h74) ⟨_, d2⟩) ?_
                rintro v232 cn' K' N' I227 R228 L229 ⟨rfl, rfl, rfl, rfl, rfl, rfl, h233, p234, -⟩
                refine tr_istore_n dX12_laysLight_105 (by decide) (by decide) ?_
                have lp249 : ∀ (fu : Nat) (ls : Nat → Option Value) (v235 : Int32) (I240 : cz_I), ls 0 = some (.ref a0) → ls 1 = some (.int x1) → ls 2 = some (.int v54) → ls 3 = some (.int v235) → St T cn K N d wik_X12_laysLight wrk_X12_laysLight I0 R0 I240 R0 → 0 ≤ v235.toInt → (LyV 0 I58 I240 a26 (v232.toInt) (if gX v54.toInt.toNat 0 = 0 then v235.toInt else v232.toInt)) → (LyV 1 I58 I240 a32 (v232.toInt) (if gX v54.toInt.toNat 0 = 1 then v235.toInt else v232.toInt)) → (LyV 1 I58 I240 a34 (v232.toInt) (if gX v54.toInt.toNat 0 = 4 then v235.toInt else v232.toInt)) → (LyV 1 I58 I240 a36 (240 * gX v54.toInt.toNat 1 + v232.toInt) (if gX v54.toInt.toNat 0 = 3 then 240 * gX v54.toInt.toNat 1 + v235.toInt else 240 * gX v54.toInt.toNat 1 + v232.toInt)) → (LyV 1 I58 I240 a30 (240 * gX v54.toInt.toNat 1 + v232.toInt) (if gX v54.toInt.toNat 0 = 2 then 240 * gX v54.toInt.toNat 1 + v235.toInt else 240 * gX v54.toInt.toNat 1 + v232.toInt)) → (v232.toInt ≤ v235.toInt ∧ (v235.toInt ≤ gX v54.toInt.toNat 3 ∨ v235.toInt = v232.toInt)) → (-v235.toInt + 2147483647).toNat < fu → Tr X mX12_laysLight 106 ls [] cn K N I240 R0 L0 0 0 := by
                  intro fu
                  induction fu with
                  | zero => intros; rename_i hz; exact absurd hz (Nat.not_lt_zero _)
                  | succ fu ih249 =>
                    intro ls v235 I240 hl236 hl237 hl238 hl239 hS241 g242 rw243 rw244 rw245 rw246 rw247 rw248 hm249
                    refine tr_iload_n dX12_laysLight_106 hl239 ?_
                    refine tr_aload_n dX12_laysLight_107 hl236 ?_
                    refine tr_iload_n dX12_laysLight_108 hl238 ?_
                    refine q_callVi hE (M' := mX12_toOf) (as := [_]) dX12_laysLight_109 lk12_398 inX12_toOf seX12_toOf myX12_toOf (by decide) ⟨by decide, by decide⟩ rfl (kR15 hS241.1 ta0) (Nat.le_of_ble_eq_true rfl) rfl rfl (by decide) (by decide) (fk_X12_toOf hS241.1 (gX) ta0 (EvY.st hX hW0 ta0 hS241 (by decide +kernel)) (by first | done | with_reducible assumption | omega) (fun q0 z0 => fun q1 z1 => by obtain rfl := Option.some.inj ((d2).symm.trans z0); obtain rfl := Option.some.inj ((d14).symm.trans z1); (try rw [((hS241.cell ta1 (by decide +kernel)).trans c11)]); (try rw [((hS241.cell ta13 (by decide +kernel)).trans c16)]); first | done | with_reducible assumption | exact om_af2a18fa p73 h74) ⟨_, d2⟩) ?_
                    rintro v256 cn' K' N' I251 R252 L253 ⟨rfl, rfl, rfl, rfl, rfl, rfl, h257, p258, -⟩
                    refine q_icmp_ge 127 dX12_laysLight_112 (by decide) (fun h259 => ?_) (fun h259 => ?_)
                    · skip
                      refine q_iincE dX12_laysLight_127 hl238 (by decide) (by decide) (by have z0 := x1.toInt_lt; have y0 := x1.le_toInt; intros; omega) ?_
                      intro v260 h261
                      refine tr_goto 87 dX12_laysLight_130 (by decide) ?_
                      exact ih63 _ v260 I240 hl236 hl237 rfl hS241 (by exact om_68881c41 g60 h261) (by exact om_a007b723 p73 h74 h261) (by have hb := ((hX _ _ d2 d14).1 v54.toInt.toNat (by rw [c11, c16]; exact om_41f38c44 g60 p73 h74 h261)); obtain ⟨b0, b1, b2, b3, b4, b5, b6⟩ := hb; rw [show v260.toInt.toNat = v54.toInt.toNat + 1 by exact om_79cef90a g60 h261]; exact MkR.lay rw62 (by exact om_6d9e1008 g60 h224 h233.2 h233.1 p234 rw248.2 h257.2 h257.1 p258 h259 h261 b0 b1 b2) (by omega) rfl rfl rfl rfl b3 b6 b2 (fun r hr => by obtain rfl := Option.some.inj (d27.symm.trans hr); have y := rw243; rw [show v232.toInt = gX v54.toInt.toNat 2 by exact om_acd7a85a p234] at y; exact LyV.fif y (by exact om_7865fadd p258 h259) (by exact om_f0cb38bb p234 rw248.1 rw248.2 b0 b1 b2)) (fun r hr => by obtain rfl := Option.some.inj (d33.symm.trans hr); have y := rw244; rw [show v232.toInt = gX v54.toInt.toNat 2 by exact om_acd7a85a p234] at y; exact LyV.fif y (by exact om_7865fadd p258 h259) (by exact om_f0cb38bb p234 rw248.1 rw248.2 b0 b1 b2)) (fun r hr => by obtain rfl := Option.some.inj (d35.symm.trans hr); have y := rw245; rw [show v232.toInt = gX v54.toInt.toNat 2 by exact om_acd7a85a p234] at y; exact LyV.fif y (by exact om_7865fadd p258 h259) (by exact om_f0cb38bb p234 rw248.1 rw248.2 b0 b1 b2)) (fun r hr => by obtain rfl := Option.some.inj (d37.symm.trans hr); have y := rw246; rw [show v232.toInt = gX v54.toInt.toNat 2 by exact om_acd7a85a p234] at y; exact LyV.fif y (by exact om_51f328d1 p258 h259) (by exact om_d48b97d2 h233.2 h233.1 p234 rw248.1 rw248.2 p258 h259 b0 b1 b2)) (fun r hr => by obtain rfl := Option.some.inj (d31.symm.trans hr); have y := rw247; rw [show v232.toInt = gX v54.toInt.toNat 2 by exact om_acd7a85a p234] at y; exact LyV.fif y (by exact om_51f328d1 p258 h259) (by exact om_d48b97d2 h233.2 h233.1 p234 rw248.1 rw248.2 p258 h259 b0 b1 b2))) (by exact om_80d4c24b g60 hm63 h71.2 h71.1 h74 h224 h233.2 h233.1 p234 rw248.2 h257.2 h257.1 p258 h259 h261)
                    · skip
                      refine tr_aload_n dX12_laysLight_115 hl236 ?_
                      refine tr_iload_n dX12_laysLight_116 hl238 ?_
                      refine tr_iload_n dX12_laysLight_117 hl239 ?_
                      refine q_callVv hE (M' := mX12_marksLight) (as := [_, _]) dX12_laysLight_118 lk12_401 inX12_marksLight seX12_marksLight myX12_marksLight (by decide) ⟨by decide, by decide⟩ rfl (kR15 hS241.1 ta0) (Nat.le_of_ble_eq_true rfl) rfl rfl (by decide) (by decide) (fk_X12_marksLight hS241.1 (gX) ta0 (by exact om_41bdb8dc g242 h257.2 h257.1 p258 h259) (EvY.st hX hW0 ta0 hS241 (by decide +kernel)) (by first | done | with_reducible assumption | omega) (fun q0 z0 => fun q1 z1 => by obtain rfl := Option.some.inj ((d2).symm.trans z0); obtain rfl := Option.some.inj ((d14).symm.trans z1); (try rw [((hS241.cell ta1 (by decide +kernel)).trans c11)]); (try rw [((hS241.cell ta13 (by decide +kernel)).trans c16)]); first | done | with_reducible assumption | exact om_af2a18fa p73 h74) ⟨_, d2⟩) ?_
                      rintro cn' K' N' I262 R263 L264 ⟨rfl, rfl, rfl, rfl, rfl, g265, rp268, rp269, rp270, rp271, rp272, -⟩
                      have hS273 := hS241.tr g265 (by decide +kernel) (by decide +kernel)
                      refine q_iincE dX12_laysLight_121 hl239 (by decide) (by decide) (by intro j1 j2; exact om_14fda859 g242 h257.2 h257.1 p258 h259 j2) ?_
                      intro v274 h275
                      refine tr_goto 106 dX12_laysLight_124 (by decide) ?_
                      exact ih249 _ v274 I262 hl236 hl237 hl238 rfl hS273 (by exact om_68881c41 g242 h275) (LyV.mk rw243 (rp268 _ d27) (by exact om_7857e9ec p234 rw248.1 h275) (by exact om_764ef139 h275)) (LyV.mk rw244 (rp269 _ d33) (by exact om_7857e9ec p234 rw248.1 h275) (by exact om_764ef139 h275)) (LyV.mk rw245 (rp270 _ d35) (by exact om_7857e9ec p234 rw248.1 h275) (by exact om_764ef139 h275)) (LyV.mk rw246 (rp271 _ d37) (by exact om_6dd0322f p234 rw248.1 h275) (by exact om_1024fc41 h275)) (LyV.mk rw247 (rp272 _ d31) (by exact om_6dd0322f p234 rw248.1 h275) (by exact om_1024fc41 h275)) (by exact om_3258e269 p234 rw248.1 p258 h259 h275) (by exact om_55545857 g242 hm249 h257.2 h257.1 p258 h259 h275)
                exact lp249 _ _ v232 I58 hl55 hl56 hl57 rfl hS59 (by exact om_1999d592 h233.2 h233.1 p234) (LyV.z (fun _ => rfl) (by split <;> omega)) (LyV.z (fun _ => rfl) (by split <;> omega)) (LyV.z (fun _ => rfl) (by split <;> omega)) (LyV.z (fun _ => rfl) (by split <;> omega)) (LyV.z (fun _ => rfl) (by split <;> omega)) (by exact om_764282ae) (Nat.lt_succ_self _)
        exact lp63 _ _ v52 I44 hl41 hl42 rfl hS45 (by exact om_d99fa9e4 h53) (by exact om_6f33905b b12.2 b12.1 b17.2 b17.1 h53) (by rw [show v52.toInt.toNat = 0 by exact om_8b46d78f h53]; have z := rw48; rw [show v40.toInt = v3.toInt by exact om_99e6832e g47 h51] at z; exact ClM.of z (by exact om_894ac62e b5 b6.2 g47 h51)) (Nat.lt_succ_self _)
      · skip
        refine tr_aload_n dX12_laysLight_13 hl41 ?_
        refine tr_getR dX12_laysLight_14 fl12_27 (kR15 hS45.1 ta0) d27 ?_
        refine tr_iload_n dX12_laysLight_17 hl43 ?_
        refine q_iconst dX12_laysLight_18 (by decide) ?_
        intro v276 h277
        refine q_zastE dX12_laysLight_19 (kR81 hS45.1 ta26) (ti_in (nR81 hS45.1 ta26) (by exact om_2cfcd5a5 g46) (by exact om_516cd055 b5 b6.2 h51)) hS45 ta26 (by exact om_d753bc65 h277) rfl rfl (by rfl) ?_
        intro I278 hS279 e281 f280
        refine tr_aload_n dX12_laysLight_20 hl41 ?_
        refine tr_getR dX12_laysLight_21 fl12_37 (kR15 hS279.1 ta0) d33 ?_
        refine tr_iload_n dX12_laysLight_24 hl43 ?_
        refine q_iconst dX12_laysLight_25 (by decide) ?_
        intro v282 h283
        refine q_zastE dX12_laysLight_26 (kR84 hS279.1 ta32) (ti_in (nR84 hS279.1 ta32) (by exact om_2cfcd5a5 g46) (by exact om_516cd055 b5 b6.2 h51)) hS279 ta32 (by exact om_3b50ecb9 h283) rfl rfl (by rfl) ?_
        intro I284 hS285 e287 f286
        refine tr_aload_n dX12_laysLight_27 hl41 ?_
        refine tr_getR dX12_laysLight_28 fl12_40 (kR15 hS285.1 ta0) d35 ?_
        refine tr_iload_n dX12_laysLight_31 hl43 ?_
        refine q_iconst dX12_laysLight_32 (by decide) ?_
        intro v288 h289
        refine q_zastE dX12_laysLight_33 (kR85 hS285.1 ta34) (ti_in (nR85 hS285.1 ta34) (by exact om_2cfcd5a5 g46) (by exact om_516cd055 b5 b6.2 h51)) hS285 ta34 (by exact om_3b50ecb9 h289) rfl rfl (by rfl) ?_
        intro I290 hS291 e293 f292
        refine q_iconst dX12_laysLight_34 (by decide) ?_
        intro v294 h295
        refine tr_istore_n dX12_laysLight_35 (by decide) (by decide) ?_
        have lp306 : ∀ (fu : Nat) (ls : Nat → Option Value) (v296 : Int32) (I301 : cz_I), ls 0 = some (.ref a0) → ls 1 = some (.int x1) → ls 2 = some (.int v40) → ls 3 = some (.int v296) → St T cn K N d wik_X12_laysLight wrk_X12_laysLight I0 R0 I301 R0 → v296.toInt ≤ v7.toInt → 0 ≤ v296.toInt → (ClM I301 R0 a0 v7.toInt v40.toInt (v40.toInt + 1) v296.toInt) → (-v296.toInt + 2147483647).toNat < fu → Tr X mX12_laysLight 36 ls [] cn K N I301 R0 L0 0 0 := by
          intro fu
          induction fu with
          | zero => intros; rename_i hz; exact absurd hz (Nat.not_lt_zero _)
          | succ fu ih306 =>
            intro ls v296 I301 hl297 hl298 hl299 hl300 hS302 g303 g304 rw305 hm306
            refine tr_iload_n dX12_laysLight_36 hl300 ?_
            refine tr_aload_n dX12_laysLight_37 hl297 ?_
            refine tr_getR dX12_laysLight_38 fl12_385 (kR15 hS302.1 ta0) d2 ?_
            refine q_getI dX12_laysLight_41 fl12_263 (kR14 hS302.1 ta1) ((hS302.cell ta1 (by decide +kernel)).trans c8) ?_
            refine q_icmp_ge 79 dX12_laysLight_44 (by decide) (fun h308 => ?_) (fun h308 => ?_)
            · skip
              refine q_iincE dX12_laysLight_79 hl299 (by decide) (by decide) (by intro j1 j2; exact om_ce124bf6 b5 b6.2 g46 h51 j2) ?_
              intro v309 h310
              refine tr_goto 2 dX12_laysLight_82 (by decide) ?_
              exact ih49 _ v309 I301 hl297 hl298 rfl hS302 (by exact om_68881c41 g46 h310) (by exact om_ed6eac99 h51 h310) (by have z := ClM.nx rw305 (by exact om_97f5682a h308) rfl; rw [show v40.toInt + 1 = v309.toInt by exact om_24eccdab h310] at z; exact z) (by exact om_d3a7d701 b5 b6.2 b9.2 b9.1 g46 hm49 h51 g303 h308 h310)
            · skip
              refine tr_aload_n dX12_laysLight_47 hl297 ?_
              refine tr_getR dX12_laysLight_48 fl12_43 (kR15 hS302.1 ta0) d37 ?_
              refine q_sipush dX12_laysLight_51 (by decide +kernel) ?_
              intro v311 h312
              refine tr_iload_n dX12_laysLight_54 hl300 ?_
              refine q_imulE (c := 240) dX12_laysLight_55 (by exact om_0c59d38e h312) (by exact om_1263bfb3 b9.2 b9.1 g304 h308) ?_
              intro v313 h314
              refine tr_iload_n dX12_laysLight_56 hl299 ?_
              refine q_iaddE dX12_laysLight_57 (by intro j1 j2 j3 j4; exact om_99540140 b5 b6.2 b9.2 b9.1 g46 h51 g304 h308 h314 j1 j2 j4) ?_
              intro v315 h316
              refine q_iconst dX12_laysLight_58 (by decide) ?_
              intro v317 h318
              refine q_zastE dX12_laysLight_59 (kR86 hS302.1 ta36) (ti_in (nR86 hS302.1 ta36) (by exact om_a95821b5 b5 b6.2 b9.2 b9.1 g46 h51 g304 h308 h314 h316) (by exact om_672ec08d b5 b6.2 b9.2 b9.1 g46 h51 g304 h308 h314 h316)) hS302 ta36 (by exact om_3b50ecb9 h318) rfl rfl (by rfl) ?_
              intro I319 hS320 e322 f321
              refine tr_aload_n dX12_laysLight_60 hl297 ?_
              refine tr_getR dX12_laysLight_61 fl12_34 (kR15 hS320.1 ta0) d31 ?_
              refine q_sipush dX12_laysLight_64 (by decide +kernel) ?_
              intro v323 h324
              refine tr_iload_n dX12_laysLight_67 hl300 ?_
              refine q_imulE (c := 240) dX12_laysLight_68 (by exact om_0c59d38e h324) (by exact om_1263bfb3 b9.2 b9.1 g304 h308) ?_
              intro v325 h326
              refine tr_iload_n dX12_laysLight_69 hl299 ?_
              refine q_iaddE dX12_laysLight_70 (by intro j1 j2 j3 j4; exact om_003b8580 b5 b6.2 b9.2 b9.1 g46 h51 g304 h308 h314 h316 h326 j1 j2 j4) ?_
              intro v327 h328
              refine q_iconst dX12_laysLight_71 (by decide) ?_
              intro v329 h330
              refine q_zastE dX12_laysLight_72 (kR83 hS320.1 ta30) (ti_in (nR83 hS320.1 ta30) (by exact om_d7ddaca6 b5 b6.2 b9.2 b9.1 g46 h51 g304 h308 h314 h316 h326 h328) (by exact om_7a312bb5 b5 b6.2 b9.2 b9.1 g46 h51 g304 h308 h314 h316 h326 h328)) hS320 ta30 (by exact om_3b50ecb9 h330) rfl rfl (by rfl) ?_
              intro I331 hS332 e334 f333
              refine q_iincE dX12_laysLight_73 hl300 (by decide) (by decide) (by intro j1 j2; exact om_438f9820 b9.2 b9.1 g304 h308 j2) ?_
              intro v335 h336
              refine tr_goto 36 dX12_laysLight_76 (by decide) ?_
              exact ih306 _ v335 I331 hl297 hl298 hl299 rfl hS332 (by exact om_ed6eac99 h308 h336) (by exact om_68881c41 g304 h336) (by have eq : v327.toNatClampNeg = v315.toNatClampNeg := congrArg Int.toNat (by exact om_04ace56c h314 h316 h326 h328); rw [show v335.toInt = v296.toInt + 1 by exact om_764ef139 h336]; exact ClM.st (ix := v315.toNatClampNeg) rw305 hS302.1 ta0 (by exact om_2cfcd5a5 g46) (by exact om_728c105d b5 b6.2 h51 h314 h316 h326 h328 h336) (by exact om_2cfcd5a5 g304) (by have y := ti_nat (i := v315) (by exact om_cb248f27 b5 b6.2 b9.2 b9.1 g46 h51 g304 h308 h314 h316 h326 h328 h336); exact om_664a861a h314 h316 h326 h328 y) d37 d31 (by rw [show _ = v317 from (Eq.trans (f333 _ _ (fun q => by have z := ta36; rw [q.1, ta30] at z; exact absurd z (by decide))) e322)]; exact om_29f55913 h318) (by rw [← eq]; exact (by rw [show _ = v329 from e334]; exact om_29f55913 h330)) (fun a j n0 n1 => by rw [← eq] at n1; exact (fun a j n0 n1 => ((f333 _ _ n1).trans (f321 _ _ n0))) a j n0 n1)) (by exact om_9596cbdd b9.2 b9.1 g304 hm306 h308 h336)
        exact lp306 _ _ v294 I290 hl41 hl42 hl43 rfl hS291 (by exact om_44f25859 b9.2 b9.1 h295) (by exact om_d99fa9e4 h295) (by rw [show v294.toInt = 0 by exact om_29f55913 h295]; exact ClM.sk (ix := v40.toNatClampNeg) rw48 hS45.1 ta0 (ti_nat (by exact om_2cfcd5a5 g46)) d27 d33 d35 (by rw [show _ = v276 from (Eq.trans ((f292 _ _ (fun q => by have z := ta26; rw [q.1, ta34] at z; exact absurd z (by decide))).trans (f286 _ _ (fun q => by have z := ta26; rw [q.1, ta32] at z; exact absurd z (by decide)))) e281)]; exact om_ee8a1e2d h277) (by rw [show _ = v282 from (Eq.trans (f292 _ _ (fun q => by have z := ta32; rw [q.1, ta34] at z; exact absurd z (by decide))) e287)]; exact om_29f55913 h283) (by rw [show _ = v288 from e293]; exact om_29f55913 h289) (fun a j n0 n1 n2 => ((f292 _ _ n2).trans ((f286 _ _ n1).trans (f280 _ _ n0))))) (Nat.lt_succ_self _)
  exact lp49 _ _ v38 I0 rfl rfl rfl hS0 (by exact om_d99fa9e4 h39) (by exact om_9623033c b5 b6.2 h39) (by rw [show v38.toInt = 0 by exact om_29f55913 h39]; exact ClM.z) (Nat.lt_succ_self _)
set_option maxHeartbeats 4000000 in
theorem fk_X12_changesIn {l : Launch} {T : Nat → Nat} {cn : Nat} {K N : Nat → Nat} {I0 : cz_I} {R0 : cz_R} {L0 : cz_L} {d : Int} (hW0 : Wf T cn K N I0 R0 d)  {a0 : Nat} (ta0 : T a0 = 15) {x1 : Int32} (hx1 : 0 ≤ x1.toInt ∧ x1.toInt ≤ 3) {x2 : Int32} (hx2 : 0 ≤ x2.toInt ∧ x2.toInt ≤ 239) : ConE l mX12_changesIn [.ref a0, .int x1, .int x2] cn K N I0 R0 L0 (ca_i (fun v cn' K' N' I' R' L' => cn = cn' ∧ K = K' ∧ N = N' ∧ I0 = I' ∧ R0 = R' ∧ L0 = L' ∧ (0 ≤ v.toInt ∧ v.toInt ≤ 1) ∧ (∀ r, R0 a0 22 = some r → v.toInt = if 0 < x2.toInt ∧ ¬ (I0 r (240 * x1.toInt + x2.toInt).toNat).toInt = (I0 r (240 * x1.toInt + x2.toInt - 1).toNat).toInt then 1 else 0) ∧ True)) := by
  refine ConE.of (by decide +kernel) rfl (Nat.le_of_ble_eq_true rfl) rfl (fun X hX hZ hE => ?_)
  subst hX
  obtain ⟨a1, d2, ta1⟩ := rf15_22 hW0 ta0
  refine tr_iload_n dX12_changesIn_0 rfl ?_
  refine q_if_le 37 dX12_changesIn_1 (by decide) (fun h3 => ?_) (fun h3 => ?_)
  · skip
    refine q_iconst dX12_changesIn_37 (by decide) ?_
    intro v4 h5
    exact tr_zret hZ dX12_changesIn_38 rfl (ti_b01 (by exact om_d99fa9e4 h5) (by exact om_d3de7ec9 h5)) (by decide) (by decide) ⟨v4, rfl, rfl, rfl, rfl, rfl, rfl, rfl, (by exact om_3b50ecb9 h5), (fun r hr => by obtain rfl := Option.some.inj (d2.symm.trans hr); rw [if_neg (fun q => by exact om_306867c8 hx2.2 hx2.1 h3 q.1)]; exact om_29f55913 h5), trivial⟩
  · skip
    refine tr_aload_n dX12_changesIn_4 rfl ?_
    refine tr_getR dX12_changesIn_5 fl12_31 (kR15 hW0 ta0) d2 ?_
    refine q_sipush dX12_changesIn_8 (by decide +kernel) ?_
    intro v6 h7
    refine tr_iload_n dX12_changesIn_11 rfl ?_
    refine q_imulE (c := 240) dX12_changesIn_12 (by exact om_0c59d38e h7) (by exact om_99db8683 hx1.2 hx1.1) ?_
    intro v8 h9
    refine tr_iload_n dX12_changesIn_13 rfl ?_
    refine q_iaddE dX12_changesIn_14 (by intro j1 j2 j3 j4; exact om_07d3d355 hx1.2 hx1.1 hx2.2 hx2.1 h3 h9 j1 j2) ?_
    intro v10 h11
    refine q_zald dX12_changesIn_15 (kR82 hW0 ta1) (ti_in (nR82 hW0 ta1) (by exact om_0a237d68 hx1.2 hx1.1 hx2.2 hx2.1 h3 h9 h11) (by exact om_ddb33957 hx1.2 hx1.1 hx2.2 hx2.1 h3 h9 h11)) ?_
    intro v12 c13
    have b14 := iv82 hW0 ta1 c13
    refine tr_aload_n dX12_changesIn_16 rfl ?_
    refine tr_getR dX12_changesIn_17 fl12_31 (kR15 hW0 ta0) d2 ?_
    refine q_sipush dX12_changesIn_20 (by decide +kernel) ?_
    intro v15 h16
    refine tr_iload_n dX12_changesIn_23 rfl ?_
    refine q_imulE (c := 240) dX12_changesIn_24 (by exact om_0c59d38e h16) (by exact om_99db8683 hx1.2 hx1.1) ?_
    intro v17 h18
    refine tr_iload_n dX12_changesIn_25 rfl ?_
    refine q_iaddE dX12_changesIn_26 (by intro j1 j2 j3 j4; exact om_3728e21b hx1.2 hx1.1 hx2.2 hx2.1 h3 h9 h11 h18 j1 j2) ?_
    intro v19 h20
    refine q_iconst dX12_changesIn_27 (by decide) ?_
    intro v21 h22
    refine q_isubE dX12_changesIn_28 (by intro j1 j2 j3 j4; exact om_1bd5b41c hx1.2 hx1.1 hx2.2 hx2.1 h3 h9 h11 h18 h20 h22 j1 j2) ?_
    intro v23 h24
    refine q_zald dX12_changesIn_29 (kR82 hW0 ta1) (ti_in (nR82 hW0 ta1) (by exact om_29e84e10 hx1.2 hx1.1 hx2.2 hx2.1 h3 h9 h11 h18 h20 h22 h24) (by exact om_37e720a9 hx1.2 hx1.1 hx2.2 hx2.1 h3 h9 h11 h18 h20 h22 h24)) ?_
    intro v25 c26
    have b27 := iv82 hW0 ta1 c26
    refine q_icmp_eq 37 dX12_changesIn_30 (by decide) (fun h28 => ?_) (fun h28 => ?_)
    · skip
      refine q_iconst dX12_changesIn_37 (by decide) ?_
      intro v29 h30
      exact tr_zret hZ dX12_changesIn_38 rfl (ti_b01 (by exact om_d99fa9e4 h30) (by exact om_d3de7ec9 h30)) (by decide) (by decide) ⟨v29, rfl, rfl, rfl, rfl, rfl, rfl, rfl, (by exact om_3b50ecb9 h30), (fun r hr => by obtain rfl := Option.some.inj (d2.symm.trans hr); rw [show (240 * x1.toInt + x2.toInt).toNat = v10.toNatClampNeg from congrArg Int.toNat (by exact om_f4ce7261 h9 h11), show (240 * x1.toInt + x2.toInt - 1).toNat = v23.toNatClampNeg from congrArg Int.toNat (by exact om_7b526312 h9 h11 h18 h20 h22 h24), c13, c26]; split <;> omega), trivial⟩
    · skip
      refine q_iconst dX12_changesIn_33 (by decide) ?_
      intro v31 h32
      refine tr_goto 38 dX12_changesIn_34 (by decide) ?_
      exact tr_zret hZ dX12_changesIn_38 rfl (ti_b01 (by exact om_f9079521 h32) (by exact om_e6632817 h32)) (by decide) (by decide) ⟨v31, rfl, rfl, rfl, rfl, rfl, rfl, rfl, (by exact om_d753bc65 h32), (fun r hr => by obtain rfl := Option.some.inj (d2.symm.trans hr); rw [show (240 * x1.toInt + x2.toInt).toNat = v10.toNatClampNeg from congrArg Int.toNat (by exact om_f4ce7261 h9 h11), show (240 * x1.toInt + x2.toInt - 1).toNat = v23.toNatClampNeg from congrArg Int.toNat (by exact om_7b526312 h9 h11 h18 h20 h22 h24), c13, c26]; split <;> omega), trivial⟩
set_option maxHeartbeats 4000000 in
theorem fk_X12_dueIn {l : Launch} {T : Nat → Nat} {cn : Nat} {K N : Nat → Nat} {I0 : cz_I} {R0 : cz_R} {L0 : cz_L} {d : Int} (hW0 : Wf T cn K N I0 R0 d) (gX : Nat → Nat → Int) (gm : Int) (gc : Int) (gl : Int) (gn : Nat) (gH : Nat → Int) {a0 : Nat} (ta0 : T a0 = 15) {x1 : Int32} (hx1 : 0 ≤ x1.toInt ∧ x1.toInt ≤ 239) (hM : SkM I0 R0 a0 gm gc gl gX gn gm gm 0) (hH : ∀ b r, R0 a0 3 = some b → R0 b 15 = some r → ∀ c : Nat, (c : Int) < (I0 b 3).toInt → (I0 r c).toInt = gH c ∧ 0 ≤ gH c ∧ gH c < gc ∧ gH c ≤ 3) (pre0 : 0 ≤ x1.toInt) (pre1 : x1.toInt < (gm)) (nn3 : ∃ b, R0 a0 3 = some b) : ConE l mX12_dueIn [.ref a0, .int x1] cn K N I0 R0 L0 (ca_i (fun v cn' K' N' I' R' L' => cn = cn' ∧ K = K' ∧ N = N' ∧ I0 = I' ∧ R0 = R' ∧ L0 = L' ∧ (0 ≤ v.toInt ∧ v.toInt ≤ 8) ∧ (∀ b, R0 a0 3 = some b → v.toInt = skD gX gl gn gc gH (I0 b 3).toInt.toNat x1.toInt) ∧ True)) := by
  refine ConE.of (by decide +kernel) rfl (Nat.le_of_ble_eq_true rfl) rfl (fun X hX hZ hE => ?_)
  subst hX
  obtain ⟨a1, d2⟩ := nn3
  have ta1 : T a1 = 14 := hW0.rsN ta0 rfl d2
  have p3 := pre0
  have p4 := pre1
  obtain ⟨v5, c6⟩ : ∃ v, I0 a1 3 = v := ⟨_, rfl⟩
  have b7 := iv14_3 hW0 ta1 c6
  obtain ⟨a8, d9, ta8⟩ := rf15_22 hW0 ta0
  obtain ⟨a10, d11, ta10⟩ := rf14_15 hW0 ta1
  refine q_iconst dX12_dueIn_0 (by decide) ?_
  intro v12 h13
  refine tr_istore_n dX12_dueIn_1 (by decide) (by decide) ?_
  refine q_iconst dX12_dueIn_2 (by decide) ?_
  intro v14 h15
  refine tr_istore_n dX12_dueIn_3 (by decide) (by decide) ?_
  have lp26 : ∀ (fu : Nat) (ls : Nat → Option Value) (v16 : Int32) (v17 : Int32), ls 0 = some (.ref a0) → ls 1 = some (.int x1) → ls 2 = some (.int v16) → ls 3 = some (.int v17) → v17.toInt ≤ v5.toInt → 0 ≤ v16.toInt → v16.toInt ≤ v17.toInt → (v16.toInt = cnM (fun c => skC gX gl gn gc (gH c) x1.toInt) v17.toInt.toNat) → (-v17.toInt + 2147483647).toNat < fu → Tr X mX12_dueIn 4 ls [] cn K N I0 R0 L0 0 0 := by
    intro fu
    induction fu with
    | zero => intros; rename_i hz; exact absurd hz (Nat.not_lt_zero _)
    | succ fu ih26 =>
      intro ls v16 v17 hl18 hl19 hl20 hl21 g22 g23 g24 rw25 hm26
      refine tr_iload_n dX12_dueIn_4 hl21 ?_
      refine tr_aload_n dX12_dueIn_5 hl18 ?_
      refine tr_getR dX12_dueIn_6 fl12_385 (kR15 hW0 ta0) d2 ?_
      refine q_getI dX12_dueIn_9 fl12_224 (kR14 hW0 ta1) c6 ?_
      refine q_icmp_ge 46 dX12_dueIn_12 (by decide) (fun h28 => ?_) (fun h28 => ?_)
      · skip
        refine tr_iload_n dX12_dueIn_46 hl20 ?_
        exact tr_iret hZ dX12_dueIn_47 rfl (by decide) (by decide) ⟨v16, rfl, rfl, rfl, rfl, rfl, rfl, rfl, (by omega), (fun b hb => by obtain rfl := Option.some.inj (d2.symm.trans hb); rw [c6]; have w := rw25; rw [show v17.toInt.toNat = v5.toInt.toNat from congrArg Int.toNat (by omega)] at w; show _ = cnM _ _; omega), trivial⟩
      · skip
        refine tr_iload_n dX12_dueIn_15 hl20 ?_
        refine tr_aload_n dX12_dueIn_16 hl18 ?_
        refine tr_aload_n dX12_dueIn_17 hl18 ?_
        refine tr_getR dX12_dueIn_18 fl12_385 (kR15 hW0 ta0) d2 ?_
        refine tr_getR dX12_dueIn_21 fl12_296 (kR14 hW0 ta1) d11 ?_
        refine tr_iload_n dX12_dueIn_24 hl21 ?_
        refine q_iald dX12_dueIn_25 (kR58 hW0 ta10) (ti_in (nR58 hW0 ta10) (by omega) (by omega)) ?_
        intro v29 c30
        have b31 := iv58 hW0 ta10 c30
        have hh32 := hH _ _ d2 d11 v17.toInt.toNat (by rw [c6]; omega)
        rw [show I0 a10 v17.toInt.toNat = v29 from c30] at hh32
        refine tr_iload_n dX12_dueIn_26 hl19 ?_
        refine q_callVi hE (M' := mX12_changesIn) (as := [_, _]) dX12_dueIn_27 lk12_413 inX12_changesIn seX12_changesIn myX12_changesIn (by decide) ⟨by decide, by decide⟩ rfl (kR15 hW0 ta0) (Nat.le_of_ble_eq_true rfl) rfl rfl (by decide) (by decide) (fk_X12_changesIn hW0  ta0 (by omega) (by omega)) ?_
        rintro v38 cn' K' N' I33 R34 L35 ⟨rfl, rfl, rfl, rfl, rfl, rfl, h39, rp40, -⟩
        have hc41 := SkM.ch hM d9 (by omega) (by omega) (by omega) (by omega) (rp40 _ d9)
        refine q_if_eq 37 dX12_dueIn_30 (by decide) (fun h42 => ?_) (fun h42 => ?_)
        · skip
          refine q_iconst dX12_dueIn_37 (by decide) ?_
          intro v43 h44
          refine q_iaddE dX12_dueIn_38 (by intro j1 j2 j3 j4; omega) ?_
          intro v45 h46
          refine tr_istore_n dX12_dueIn_39 (by decide) (by decide) ?_
          refine q_iincE dX12_dueIn_40 hl21 (by decide) (by decide) (by intro j1 j2; omega) ?_
          intro v47 h48
          refine tr_goto 4 dX12_dueIn_43 (by decide) ?_
          exact ih26 _ v45 v47 hl18 hl19 rfl rfl (by omega) (by omega) (by omega) (by have e := hc41; rw [hh32.1] at e; rw [show v47.toInt.toNat = v17.toInt.toNat + 1 by omega, cnM]; have w := rw25; omega) (by omega)
        · skip
          refine q_iconst dX12_dueIn_33 (by decide) ?_
          intro v49 h50
          refine tr_goto 38 dX12_dueIn_34 (by decide) ?_
          refine q_iaddE dX12_dueIn_38 (by intro j1 j2 j3 j4; omega) ?_
          intro v51 h52
          refine tr_istore_n dX12_dueIn_39 (by decide) (by decide) ?_
          refine q_iincE dX12_dueIn_40 hl21 (by decide) (by decide) (by intro j1 j2; omega) ?_
          intro v53 h54
          refine tr_goto 4 dX12_dueIn_43 (by decide) ?_
          exact ih26 _ v51 v53 hl18 hl19 rfl rfl (by omega) (by omega) (by omega) (by have e := hc41; rw [hh32.1] at e; rw [show v53.toInt.toNat = v17.toInt.toNat + 1 by omega, cnM]; have w := rw25; omega) (by omega)
  exact lp26 _ _ v12 v14 rfl rfl rfl rfl (by omega) (by omega) (by omega) (by rw [show v14.toInt.toNat = 0 by omega]; show _ = (0 : Int); omega) (Nat.lt_succ_self _)
def wik_X12_due : List Nat := [960, 961, 962, 5247, 5311, 5375, 5439, 5503, 5567]
def wrk_X12_due : List Nat := []
def Cs_X12_due (T : Nat → Nat) (I0 : cz_I) (R0 : cz_R) (a0 : Nat) (gX : Nat → Nat → Int) (gH : Nat → Int) (x1 : Int32) (v : Int32) (I' : cz_I) (R' : cz_R) : Prop :=
  ((v.toInt = -1) ∧ (R0 a0 3 = none) ∧ True) ∨
  ((∀ b1, R0 a0 3 = some b1 → (x1.toInt < 0 ∨ x1.toInt ≥ (I0 b1 0).toInt)) ∧ (v.toInt = -1) ∧ (∃ b, R0 a0 3 = some b) ∧ True) ∨
  ((0 ≤ x1.toInt) ∧ (∀ b1, R0 a0 3 = some b1 → x1.toInt < (I0 b1 0).toInt) ∧ (∃ b, R0 a0 3 = some b) ∧ (∀ b w, R0 a0 3 = some b → R0 a0 16 = some w → v.toInt = skD gX (-1) ((I0 b 2).toInt + (I0 w 1).toInt).toNat (I0 b 1).toInt gH (I0 b 3).toInt.toNat x1.toInt) ∧ True)
set_option maxHeartbeats 4000000 in
theorem fk_X12_due {l : Launch} {T : Nat → Nat} {cn : Nat} {K N : Nat → Nat} {I0 : cz_I} {R0 : cz_R} {L0 : cz_L} {d : Int} (hW0 : Wf T cn K N I0 R0 d) (gX : Nat → Nat → Int) (gH : Nat → Int) {a0 : Nat} (ta0 : T a0 = 15) {x1 : Int32} (hX : EvY I0 R0 a0 gX) (hH : ∀ b r, R0 a0 3 = some b → R0 b 15 = some r → ∀ k : Nat, (k : Int) < (I0 b 3).toInt → (I0 r k).toInt = gH k ∧ 0 ≤ gH k ∧ gH k < (I0 b 1).toInt ∧ gH k ≤ 3) : ConE l mX12_due [.ref a0, .int x1] cn K N I0 R0 L0 (ca_i (fun v cn' K' N' I' R' L' => cn = cn' ∧ K = K' ∧ N = N' ∧ R0 = R' ∧ L0 = L' ∧ St T cn K N d wik_X12_due wrk_X12_due I0 R0 I' R0 ∧ Cs_X12_due T I0 R0 a0 gX gH x1 v I' R0 ∧ True)) := by
  refine ConE.of (by decide +kernel) rfl (Nat.le_of_ble_eq_true rfl) rfl (fun X hX hZ hE => ?_)
  subst hX
  have hS0 : St T cn K N d wik_X12_due wrk_X12_due I0 R0 I0 R0 := St.rf0 hW0
  obtain ⟨a1, d2, ta1⟩ := rf15_16 hW0 ta0
  rcases rf15_3 hW0 ta0 with d4 | ⟨a3, d4, ta3⟩
  · skip
    refine tr_aload_n dX12_due_0 rfl ?_
    refine q_iconst dX12_due_1 (by decide) ?_
    intro v5 h6
    refine q_putI dX12_due_2 fl12_70 (kR15 hS0.1 ta0) (Or.inl rfl) hS0 ta0 (iokF rfl) rfl (by decide +kernel) ?_
    intro I7 hS8 e9 f10
    refine tr_aload_n dX12_due_5 rfl ?_
    refine tr_getN dX12_due_6 fl12_385 (kR15 hS8.1 ta0) d4 ?_
    refine tr_ifnonnullN dX12_due_9 ?_
    refine tr_aload_n dX12_due_12 rfl ?_
    refine q_iconst dX12_due_13 (by decide) ?_
    intro v11 h12
    refine q_callVi hE (M' := mX12_refused) (as := [_]) dX12_due_14 lk12_76 inX12_refused seX12_refused myX12_refused (by decide) ⟨by decide, by decide⟩ rfl (kR15 hS8.1 ta0) (Nat.le_of_ble_eq_true rfl) rfl rfl (by decide) (by decide) (fk_X12_refused hS8.1  ta0) ?_
    rintro v18 cn' K' N' I13 R14 L15 ⟨rfl, rfl, rfl, rfl, rfl, g16, p19, p20, p21, -⟩
    have hS22 := hS8.tr g16 (by decide +kernel) (by decide +kernel)
    have c23 : I13 a0 0 = v5 := (g16.cell ta0 (by decide +kernel)).trans e9
    obtain ⟨v24, c25⟩ : ∃ v, I13 a0 1 = v := ⟨_, rfl⟩
    rw [c25] at p20
    obtain ⟨v26, c27⟩ : ∃ v, I13 a0 2 = v := ⟨_, rfl⟩
    rw [c27] at p21
    exact tr_iret hZ dX12_due_17 rfl (by decide) (by decide) ⟨v18, rfl, rfl, rfl, rfl, rfl, rfl, hS22, (Or.inl ⟨(by first | done | with_reducible assumption | omega), d4, trivial⟩), trivial⟩
  · skip
    obtain ⟨v28, c29⟩ : ∃ v, I0 a3 3 = v := ⟨_, rfl⟩
    have b30 := iv14_3 hW0 ta3 c29
    obtain ⟨v31, c32⟩ : ∃ v, I0 a3 1 = v := ⟨_, rfl⟩
    have b33 := iv14_1 hW0 ta3 c32
    obtain ⟨a34, d35, ta34⟩ := rf14_15 hW0 ta3
    refine tr_aload_n dX12_due_0 rfl ?_
    refine q_iconst dX12_due_1 (by decide) ?_
    intro v36 h37
    refine q_putI dX12_due_2 fl12_70 (kR15 hS0.1 ta0) (Or.inl rfl) hS0 ta0 (iokF rfl) rfl (by decide +kernel) ?_
    intro I38 hS39 e40 f41
    refine tr_aload_n dX12_due_5 rfl ?_
    refine tr_getR dX12_due_6 fl12_385 (kR15 hS39.1 ta0) d4 ?_
    refine tr_ifnonnull 18 dX12_due_9 (by decide) ?_
    refine tr_aload_n dX12_due_18 rfl ?_
    refine tr_iload_n dX12_due_19 rfl ?_
    obtain ⟨v42, c43⟩ : ∃ v, I0 a3 0 = v := ⟨_, rfl⟩
    have b44 := hW0.2.2.2.2.2.1 a0 ta0 _ d4
    rw [c43] at b44
    have b45 := iv14_0 hW0 ta3 c43
    refine q_callVi hE (M' := mX12_isMinute) (as := [_]) dX12_due_20 lk12_443 inX12_isMinute seX12_isMinute myX12_isMinute (by decide) ⟨by decide, by decide⟩ rfl (kR15 hS39.1 ta0) (Nat.le_of_ble_eq_true rfl) rfl rfl (by decide) (by decide) (fk_X12_isMinute hS39.1  ta0 ⟨_, d4⟩) ?_
    rintro v51 cn' K' N' I46 R47 L48 ⟨rfl, rfl, rfl, rfl, rfl, rfl, h52, p53, p54, -⟩
    have p55 := p53 _ d4
    clear p53
    rw [((hS39.cell ta3 (by decide +kernel)).trans c43)] at p55
    have p56 := p54 _ d4
    clear p54
    rw [((hS39.cell ta3 (by decide +kernel)).trans c43)] at p56
    refine q_if_ne 32 dX12_due_23 (by decide) (fun h57 => ?_) (fun h57 => ?_)
    · skip
      refine tr_aload_n dX12_due_32 rfl ?_
      refine q_iconst dX12_due_33 (by decide) ?_
      intro v58 h59
      obtain ⟨v60, c61⟩ : ∃ v, I0 a3 2 = v := ⟨_, rfl⟩
      have b62 := iv14_2 hW0 ta3 c61
      obtain ⟨v63, c64⟩ : ∃ v, I0 a1 1 = v := ⟨_, rfl⟩
      have b65 := iv77_1 hW0 ta1 (by decide) c64
      refine q_callVv hE (M' := mX12_laysLight) (as := [_]) dX12_due_34 lk12_434 inX12_laysLight seX12_laysLight myX12_laysLight (by decide) ⟨by decide, by decide⟩ rfl (kR15 hS39.1 ta0) (Nat.le_of_ble_eq_true rfl) rfl rfl (by decide) (by decide) (fk_X12_laysLight hS39.1 (gX) ta0 (EvY.st hX hW0 ta0 hS39 (by decide +kernel)) ⟨_, d4⟩) ?_
      rintro cn' K' N' I66 R67 L68 ⟨rfl, rfl, rfl, rfl, rfl, g69, rp72, -⟩
      have hS73 := hS39.tr g69 (by decide +kernel) (by decide +kernel)
      have c74 : I66 a0 0 = v36 := (g69.cell ta0 (by decide +kernel)).trans e40
      have hz75 := rp72 _ _ d4 d2
      rw [((hS39.cell ta3 (by decide +kernel)).trans c43), ((hS39.cell ta3 (by decide +kernel)).trans c32), ((hS39.cell ta3 (by decide +kernel)).trans c61), ((hS39.cell ta1 (by decide +kernel)).trans c64), show v58.toInt = -1 by omega] at hz75
      refine tr_aload_n dX12_due_37 rfl ?_
      refine tr_aload_n dX12_due_38 rfl ?_
      refine tr_iload_n dX12_due_39 rfl ?_
      refine q_callVi hE (M' := mX12_dueIn) (as := [_]) dX12_due_40 lk12_449 inX12_dueIn seX12_dueIn myX12_dueIn (by decide) ⟨by decide, by decide⟩ rfl (kR15 hS73.1 ta0) (Nat.le_of_ble_eq_true rfl) rfl rfl (by decide) (by decide) (fk_X12_dueIn hS73.1 (gX) (v42.toInt) (v31.toInt) ((-1)) ((v60.toInt + v63.toInt).toNat) (gH) ta0 (by omega) hz75 (fun b r hb hr k hk => by obtain rfl := Option.some.inj (d4.symm.trans hb); obtain rfl := Option.some.inj (d35.symm.trans hr); rw [hS73.cell ta3 (by decide +kernel)] at hk; rw [hS73.cell ta34 (wm_no (by decide +kernel))]; have z := hH _ _ d4 d35 k hk; rw [c32] at z; exact z) (by first | done | with_reducible assumption | omega) (by first | done | with_reducible assumption | omega) ⟨_, d4⟩) ?_
      rintro v81 cn' K' N' I76 R77 L78 ⟨rfl, rfl, rfl, rfl, rfl, rfl, h82, rp83, -⟩
      have hd84 := rp83 _ d4
      rw [((hS73.cell ta3 (by decide +kernel)).trans c29)] at hd84
      refine q_callVi hE (M' := mX12_good) (as := [_]) dX12_due_43 lk12_81 inX12_good seX12_good myX12_good (by decide) ⟨by decide, by decide⟩ rfl (kR15 hS73.1 ta0) (Nat.le_of_ble_eq_true rfl) rfl rfl (by decide) (by decide) (fk_X12_good hS73.1  ta0) ?_
      rintro v90 cn' K' N' I85 R86 L87 ⟨rfl, rfl, rfl, rfl, rfl, g88, p91, p92, p93, -⟩
      have hS94 := hS73.tr g88 (by decide +kernel) (by decide +kernel)
      have c95 : I85 a0 0 = v36 := (g88.cell ta0 (by decide +kernel)).trans c74
      obtain ⟨v96, c97⟩ : ∃ v, I85 a0 1 = v := ⟨_, rfl⟩
      rw [c97] at p92
      obtain ⟨v98, c99⟩ : ∃ v, I85 a0 2 = v := ⟨_, rfl⟩
      rw [c99] at p93
      exact tr_iret hZ dX12_due_46 rfl (by decide) (by decide) ⟨v90, rfl, rfl, rfl, rfl, rfl, rfl, hS94, (Or.inr (Or.inr (⟨(by first | done | with_reducible assumption | omega), (fun q0 z0 => by obtain rfl := Option.some.inj ((d4).symm.trans z0); (try rw [c43]); first | done | with_reducible assumption | omega), ⟨_, d4⟩, (fun b w hb hw => by obtain rfl := Option.some.inj (d4.symm.trans hb); obtain rfl := Option.some.inj (d2.symm.trans hw); rw [c32, c61, c64, c29]; have e := hd84; omega), trivial⟩))), trivial⟩
    · skip
      refine tr_aload_n dX12_due_26 rfl ?_
      refine q_iconst dX12_due_27 (by decide) ?_
      intro v100 h101
      refine q_callVi hE (M' := mX12_refused) (as := [_]) dX12_due_28 lk12_76 inX12_refused seX12_refused myX12_refused (by decide) ⟨by decide, by decide⟩ rfl (kR15 hS39.1 ta0) (Nat.le_of_ble_eq_true rfl) rfl rfl (by decide) (by decide) (fk_X12_refused hS39.1  ta0) ?_
      rintro v107 cn' K' N' I102 R103 L104 ⟨rfl, rfl, rfl, rfl, rfl, g105, p108, p109, p110, -⟩
      have hS111 := hS39.tr g105 (by decide +kernel) (by decide +kernel)
      have c112 : I102 a0 0 = v36 := (g105.cell ta0 (by decide +kernel)).trans e40
      obtain ⟨v113, c114⟩ : ∃ v, I102 a0 1 = v := ⟨_, rfl⟩
      rw [c114] at p109
      obtain ⟨v115, c116⟩ : ∃ v, I102 a0 2 = v := ⟨_, rfl⟩
      rw [c116] at p110
      exact tr_iret hZ dX12_due_31 rfl (by decide) (by decide) ⟨v107, rfl, rfl, rfl, rfl, rfl, rfl, hS111, (by first | exact Or.inr (Or.inl ⟨(fun q0 z0 => by obtain rfl := Option.some.inj ((d4).symm.trans z0); (try rw [c43]); first | done | with_reducible assumption | omega), (by first | done | with_reducible assumption | omega), ⟨_, d4⟩, trivial⟩) | exact Or.inr (Or.inr (⟨(by first | done | with_reducible assumption | omega), (fun q0 z0 => by obtain rfl := Option.some.inj ((d4).symm.trans z0); (try rw [c43]); first | done | with_reducible assumption | omega), ⟨_, d4⟩, (by exfalso; omega), trivial⟩))), trivial⟩
