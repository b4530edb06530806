/-! ===== THE NIGHT of the reference ===== -/
section CzNm
variable {T : Nat → Nat} {cn : Nat} {K N : Nat → Nat} {d d1 : Int} {I J J1 J2 I9 : cz_I} {R R' R1 R2 : cz_R} {m b a r k t i q ix : Nat} {wi wr : List Nat} {Z : cz_N} {c : Nat → Int} {E : Nat → Nat → Int}
theorem AlM.tu {f : Nat} (h : AlM I R b c E) (ha : R b (20 + f) = some a) (hf : f < 6) (ht : (t : Int) < c 4) (h5 : c 4 ≤ 5) : (I a t).toInt = E (14 + t) f := by
  have z := h.2 (14 + t) f a (by omega) (by unfold Dbm Db; rw [if_neg (by omega), if_neg (by omega), if_neg (by omega), if_pos (by omega), if_pos (by omega)]; omega) (by unfold mrs; rw [if_neg (by omega), if_pos (by omega)]; exact ha)
  unfold mri at z; rw [if_neg (by omega), if_pos (by omega), show 14 + t - 14 = t by omega] at z; exact z
theorem AlM.ca {f : Nat} (h : AlM I R b c E) (ha : R b (26 + f) = some a) (hf : f < 4) (hk : (k : Int) < c 5) (h6 : c 5 ≤ 6) : (I a k).toInt = E (19 + k) f := by
  have z := h.2 (19 + k) f a (by omega) (by unfold Dbm Db; rw [if_neg (by omega), if_neg (by omega), if_neg (by omega), if_neg (by omega), if_pos (by omega), if_pos (by omega)]; omega) (by unfold mrs; rw [if_neg (by omega), if_neg (by omega), if_pos (by omega)]; exact ha)
  unfold mri at z; rw [if_neg (by omega), if_neg (by omega), if_pos (by omega), show 19 + k - 19 = k by omega] at z; exact z
theorem AlM.hu (h : AlM I R b c E) (ha : R b 15 = some a) (hk : (k : Int) < c 3) : (I a k).toInt = E 35 k := by
  have z := h.2 35 k a (by omega) (by unfold Dbm Db; rw [if_neg (by omega), if_neg (by omega), if_neg (by omega), if_neg (by omega), if_neg (by omega), if_neg (by omega), if_neg (by omega), if_neg (by omega), if_neg (by omega), if_pos rfl]; exact hk) ha
  exact z
theorem AlM.ar (h : AlM I R b c E) (ha : R b 16 = some a) (hk : (k : Int) < E 29 0) : (I a k).toInt = E 34 k := by
  have z := h.2 34 k a (by omega) (by unfold Dbm Db; rw [if_neg (by omega), if_neg (by omega), if_neg (by omega), if_neg (by omega), if_neg (by omega), if_neg (by omega), if_neg (by omega), if_neg (by omega), if_pos rfl]; exact hk) ha
  exact z
theorem AlM.pr (h : AlM I R b c E) (ha : R b 10 = some a) (hk : k < 5) (h0 : 1 ≤ c 0) : (I a k).toInt = E 36 k := by
  have z := h.2 36 k a (by omega) (by unfold Dbm Db; rw [if_neg (by omega), if_neg (by omega), if_neg (by omega), if_neg (by omega), if_neg (by omega), if_neg (by omega), if_neg (by omega), if_neg (by omega), if_neg (by omega), if_neg (by omega), if_pos rfl, if_pos h0]; omega) ha
  exact z
theorem AlM.dn (h : AlM I R b c E) (ha : R b 19 = some a) (hk : (k : Int) < c 3) : (I a k).toInt = E 37 k := by
  have z := h.2 37 k a (by omega) (by unfold Dbm; rw [if_neg (by omega), if_pos rfl]; exact hk) ha
  exact z
/-- what the reference's night reads -/
def NmA (I : cz_I) (R : cz_R) (m : Nat) (Z : cz_N) : Prop := ∀ b, R m 3 = some b → (∀ k, k < 7 → (I b k).toInt = nzc Z k) ∧ AlM I R b (nzc Z) (nzT Z)
def NmK (I : cz_I) (R : cz_R) (m : Nat) (Z : cz_N) : Prop :=
  (∀ r, R m 24 = some r → ∀ k : Nat, (k : Int) < nzc Z 0 → (I r k).toInt = nzE Z k) ∧
  (∀ r, R m 22 = some r → ∀ h k : Int, 0 ≤ h → h < nzc Z 1 → 0 ≤ k → k < nzc Z 0 → nzC Z h k = if 0 < k ∧ ¬ (I r (240 * h + k).toNat).toInt = (I r (240 * h + k - 1).toNat).toInt then 1 else 0) ∧
  (∀ r, R m 23 = some r → ∀ h k : Int, 0 ≤ h → h < nzc Z 1 → 0 ≤ k → k < nzc Z 0 → nzS Z h k = if 0 < k ∧ ¬ (I r (240 * h + k).toNat).toInt = (I r (240 * h + k - 1).toNat).toInt then 1 else 0) ∧
  (∀ r24 r25 r26, R m 24 = some r24 → R m 25 = some r25 → R m 26 = some r26 → ∀ h k : Nat, (h : Int) < nzc Z 1 → (k : Int) < nzc Z 0 → nzK Z h k = if ¬ (I r25 k).toInt = 0 ∧ (I r24 k).toInt = 0 ∧ (I r26 (240 * h + k)).toInt = 0 then 1 else 0)
def NmP (I : cz_I) (R : cz_R) (m : Nat) (Z : cz_N) : Prop := NmA I R m Z ∧ NmK I R m Z
def nmr (q : Nat) : Bool := Nat.beq q 14 || rdm q || (Nat.ble 82 q && Nat.ble q 86)
theorem NmP.st (h : NmP I R m Z) (hW : Wf T cn K N I9 R d) (tm : T m = 15) (g : St T cn K N d1 wi wr I R1 J R2) (cw : wi.all (fun c => !(nmr (c / 64))) = true) : NmP J R m Z := by
  have e : ∀ a j, nmr (T a) = true → J a j = I a j := fun a j ta => g.2.1 a j (wm_p (p := fun r => !(nmr r)) cw (by rw [ta]; rfl))
  refine ⟨fun b hb => ?_, fun r hr k hk => ?_, fun r hr h' k h0 h1 k0 k1 => ?_, fun r hr h' k h0 h1 k0 k1 => ?_, fun r24 r25 r26 h24 h25 h26 h' k h1 k1 => ?_⟩
  · have tb : T b = 14 := hW.rsN tm rfl hb
    obtain ⟨a1, a2⟩ := h.1 b hb
    exact ⟨fun k hk => by rw [e b k (by rw [tb]; rfl)]; exact a1 k hk, a2.kp hW tb (e b 8 (by rw [tb]; rfl)) (fun a j ra => e a j (by unfold nmr; rw [ra, Bool.or_true, Bool.true_or]))⟩
  · rw [e r k (by rw [show T r = 84 from hW.rs tm rfl rfl hr]; rfl)]; exact h.2.1 r hr k hk
  · have t : T r = 82 := hW.rs tm rfl rfl hr
    rw [e r _ (by rw [t]; rfl), e r _ (by rw [t]; rfl)]; exact h.2.2.1 r hr h' k h0 h1 k0 k1
  · have t : T r = 83 := hW.rs tm rfl rfl hr
    rw [e r _ (by rw [t]; rfl), e r _ (by rw [t]; rfl)]; exact h.2.2.2.1 r hr h' k h0 h1 k0 k1
  · rw [e r24 k (by rw [show T r24 = 84 from hW.rs tm rfl rfl h24]; rfl), e r25 k (by rw [show T r25 = 85 from hW.rs tm rfl rfl h25]; rfl), e r26 _ (by rw [show T r26 = 86 from hW.rs tm rfl rfl h26]; rfl)]; exact h.2.2.2.2 r24 r25 r26 h24 h25 h26 h' k h1 k1
theorem NmP.put (h : NmP I R m Z) (hW : Wf T cn K N I9 R d) (tm : T m = 15) (f : ∀ a j, ¬ (a = k ∧ j = i) → J a j = I a j) (tk : T k = q) (hq : nmr q = false) : NmP J R m Z := by
  have e : ∀ a j, nmr (T a) = true → J a j = I a j := fun a j ta => f a j (fun z => by rw [z.1, tk, hq] at ta; cases ta)
  refine ⟨fun b hb => ?_, fun r hr k hk => ?_, fun r hr h' k h0 h1 k0 k1 => ?_, fun r hr h' k h0 h1 k0 k1 => ?_, fun r24 r25 r26 h24 h25 h26 h' k h1 k1 => ?_⟩
  · have tb : T b = 14 := hW.rsN tm rfl hb
    obtain ⟨a1, a2⟩ := h.1 b hb
    exact ⟨fun k hk => by rw [e b k (by rw [tb]; rfl)]; exact a1 k hk, a2.kp hW tb (e b 8 (by rw [tb]; rfl)) (fun a j ra => e a j (by unfold nmr; rw [ra, Bool.or_true, Bool.true_or]))⟩
  · rw [e r k (by rw [show T r = 84 from hW.rs tm rfl rfl hr]; rfl)]; exact h.2.1 r hr k hk
  · have t : T r = 82 := hW.rs tm rfl rfl hr
    rw [e r _ (by rw [t]; rfl), e r _ (by rw [t]; rfl)]; exact h.2.2.1 r hr h' k h0 h1 k0 k1
  · have t : T r = 83 := hW.rs tm rfl rfl hr
    rw [e r _ (by rw [t]; rfl), e r _ (by rw [t]; rfl)]; exact h.2.2.2.1 r hr h' k h0 h1 k0 k1
  · rw [e r24 k (by rw [show T r24 = 84 from hW.rs tm rfl rfl h24]; rfl), e r25 k (by rw [show T r25 = 85 from hW.rs tm rfl rfl h25]; rfl), e r26 _ (by rw [show T r26 = 86 from hW.rs tm rfl rfl h26]; rfl)]; exact h.2.2.2.2 r24 r25 r26 h24 h25 h26 h' k h1 k1
end CzNm
section CzNm2
variable {I J J2 I9 : cz_I} {r : Nat} {b f : Nat → Int} {l l' m c3 : Int} {n ix : Nat} {v : Int32}
/-- row of turns: minute m of the first cheeses -/
def TbR (J : cz_I) (r : Nat) (m c3 : Int) (f : Nat → Int) : Prop := ∀ k : Nat, (k : Int) < c3 → (J r (240 * k + m.toNat)).toInt = f k
def TbO (I J : cz_I) (r : Nat) (m : Int) : Prop := ∀ j : Nat, ¬ (j : Int) % 240 = m → J r j = I r j
theorem TbO.rf : TbO I I r m := fun _ _ => rfl
theorem TbO.tr (h : TbO I J r m) (g : TbO J J2 r m) : TbO I J2 r m := fun j hj => (g j hj).trans (h j hj)
theorem TbO.w (h : TbO I J r m) (hx : (ix : Int) % 240 = m) (f : ∀ j, ¬ j = ix → J2 r j = J r j) : TbO I J2 r m := fun j hj => (f j (fun z => hj (by rw [z]; exact hx))).trans (h j hj)
theorem TbO.kp (h : TbO I J r m) (f : ∀ j, J2 r j = J r j) : TbO I J2 r m := fun j hj => (f j).trans (h j hj)
theorem TbR.cg {g : Nat → Int} (h : TbR J r m c3 f) (e : ∀ k : Nat, (k : Int) < c3 → g k = f k) : TbR J r m c3 g := fun k hk => (h k hk).trans (e k hk).symm
theorem TbR.kp (h : TbR J r m c3 f) (e : ∀ j, J2 r j = J r j) : TbR J2 r m c3 f := fun k hk => by rw [e]; exact h k hk
theorem TbR.no {g : Nat → Int} (h : TbR J r m c3 (fun k => if (k : Int) < l then f k else g k)) (h0 : 0 ≤ l) (hl : l' = l + 1) (hg : f l.toNat = g l.toNat) : TbR J r m c3 (fun k => if (k : Int) < l' then f k else g k) := h.cg (fun k _ => by
  by_cases z : k = l.toNat
  · subst z; rw [if_pos (by omega), if_neg (by omega)]; exact hg
  · by_cases y : (k : Int) < l
    · rw [if_pos y, if_pos (by omega)]
    · rw [if_neg y, if_neg (by omega)])
theorem TbR.ye {g : Nat → Int} (h : TbR J r m c3 (fun k => if (k : Int) < l then f k else g k)) (h0 : 0 ≤ l) (hl : l' = l + 1) (m0 : 0 ≤ m) (m1 : m < 240) (hx : (ix : Int) = 240 * l + m) (e : J2 r ix = v) (hv : v.toInt = f l.toNat) (o : ∀ j, ¬ j = ix → J2 r j = J r j) : TbR J2 r m c3 (fun k => if (k : Int) < l' then f k else g k) := fun k hk => by
  by_cases z : k = l.toNat
  · subst z
    rw [show 240 * l.toNat + m.toNat = ix by omega, e, hv]
    show f l.toNat = if ((l.toNat : Nat) : Int) < l' then f l.toNat else g l.toNat
    rw [if_pos (by omega)]
  · rw [o _ (by omega), h k hk]
    show (if (k : Int) < l then f k else g k) = if (k : Int) < l' then f k else g k
    by_cases y : (k : Int) < l
    · rw [if_pos y, if_pos (by omega)]
    · rw [if_neg y, if_neg (by omega)]
theorem TbR.e {u H : Int} {e : Nat → Int} (h : TbR J r m c3 (fun k => if (k : Int) < l then tqB u b H e k else b k)) (q : ∀ k : Nat, l ≤ (k : Int) → (k : Int) < c3 → tqG b H e k = 0) : TbR J r m c3 (tqB u b H e) := h.cg (fun k hk => by
  by_cases y : (k : Int) < l
  · rw [if_pos y]
  · rw [if_neg y]; unfold tqB; rw [q k (by omega) hk, if_neg (by decide)])
end CzNm2
