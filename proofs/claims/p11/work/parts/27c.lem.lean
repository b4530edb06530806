section CzRo
variable {T : Nat → Nat} {I I1 I2 J : cz_I} {R : cz_R} {a o f t g u ix : Nat} {l l' : Int} {va vb : Int32}
/-- the clouds' rows of o stand in a -/
def RwC (I : cz_I) (R : cz_R) (J : cz_I) (a o : Nat) (l : Int) : Prop := ∀ f t g u, R a 3 = some f → R a 4 = some t → R o 3 = some g → R o 4 = some u → ∀ k : Nat, (k : Int) < l → J f k = I g k ∧ J t k = I u k
theorem RwC.z (h : l ≤ 0) : RwC I R J a o l := fun _ _ _ _ _ _ _ _ k hk => by exact om_73ffc02a h hk
theorem RwC.stp (h : RwC I R J a o l) (hf : R a 3 = some f) (ht : R a 4 = some t) (hg : R o 3 = some g) (hu : R o 4 = some u) (hi : (ix : Int) = l) (hl : l' = l + 1) (e1 : I1 f ix = va) (f1 : ∀ b j, ¬ (b = f ∧ j = ix) → I1 b j = J b j) (e2 : I2 t ix = vb) (f2 : ∀ b j, ¬ (b = t ∧ j = ix) → I2 b j = I1 b j) (nft : ¬ f = t) (ga : I g ix = va) (ub : I u ix = vb) : RwC I R I2 a o l' := by
  subst hl
  intro f' t' g' u' hf' ht' hg' hu' k hk
  obtain rfl := Option.some.inj (hf.symm.trans hf')
  obtain rfl := Option.some.inj (ht.symm.trans ht')
  obtain rfl := Option.some.inj (hg.symm.trans hg')
  obtain rfl := Option.some.inj (hu.symm.trans hu')
  by_cases z : k = ix
  · subst z
    exact ⟨(f2 _ _ (fun q => nft q.1)).trans (e1.trans ga.symm), e2.trans ub.symm⟩
  · obtain ⟨h1, h2⟩ := h _ _ _ _ hf ht hg hu k (by exact om_9191a836 hi hk z)
    exact ⟨(f2 _ _ (fun q => z q.2)).trans ((f1 _ _ (fun q => z q.2)).trans h1), (f2 _ _ (fun q => z q.2)).trans ((f1 _ _ (fun q => z q.2)).trans h2)⟩
/-- a cloud more: its rows behind the others -/
def AdC (I : cz_I) (R : cz_R) (J : cz_I) (h : Nat) (n : Int) (va vb : Int32) : Prop := ∀ f t, R h 3 = some f → R h 4 = some t → (∀ k : Nat, (k : Int) < n → J f k = I f k ∧ J t k = I t k) ∧ J f n.toNat = va ∧ J t n.toNat = vb
theorem AdC.of {h : Nat} {n : Int} (hf : R h 3 = some f) (ht : R h 4 = some t) (nft : ¬ f = t) (hi : (ix : Int) = n) (b1 : ∀ k, J f k = I f k) (b2 : ∀ k, J t k = I t k) (e1 : I1 f ix = va) (f1 : ∀ b j, ¬ (b = f ∧ j = ix) → I1 b j = J b j) (e2 : I2 t ix = vb) (f2 : ∀ b j, ¬ (b = t ∧ j = ix) → I2 b j = I1 b j) {I3 : cz_I} (k1 : ∀ k, I3 f k = I2 f k) (k2 : ∀ k, I3 t k = I2 t k) : AdC I R I3 h n va vb := by
  intro f' t' hf' ht'
  obtain rfl := Option.some.inj (hf.symm.trans hf')
  obtain rfl := Option.some.inj (ht.symm.trans ht')
  have en : n.toNat = ix := by exact om_ece70136 hi
  rw [en]
  refine ⟨fun k hk => ⟨?_, ?_⟩, ?_, ?_⟩
  · rw [k1, f2 _ _ (fun q => nft q.1), f1 _ _ (fun q => by exact om_cf4f4a7f hi en hk q.2), b1]
  · rw [k2, f2 _ _ (fun q => by exact om_cf4f4a7f hi en hk q.2), f1 _ _ (fun q => nft q.1.symm), b2]
  · rw [k1, f2 _ _ (fun q => nft q.1), e1]
  · rw [k2, e2]
theorem adR {R2 : cz_R} {h : Nat} {n : Int} (r : ∀ j, R2 h j = R h j) (q : AdC I R2 J h n va vb) : AdC I R J h n va vb := fun f t hf ht => q f t ((r 3).trans hf) ((r 4).trans ht)
theorem AdC.cv {I0 J2 : cz_I} {h : Nat} {n n2 : Int} (q : AdC I R J h n va vb) (e : ∀ g k, R h 3 = some g ∨ R h 4 = some g → I g k = I0 g k) (e' : ∀ g k, R h 3 = some g ∨ R h 4 = some g → J2 g k = J g k) (hn : n2 = n) : AdC I0 R J2 h n2 va vb := by
  subst hn
  intro f t hf ht
  obtain ⟨h1, h2, h3⟩ := q f t hf ht
  refine ⟨fun k hk => ?_, ?_, ?_⟩
  · rw [e' f k (Or.inl hf), e' t k (Or.inr ht), ← e f k (Or.inl hf), ← e t k (Or.inr ht)]; exact h1 k hk
  · rw [e' f _ (Or.inl hf)]; exact h2
  · rw [e' t _ (Or.inr ht)]; exact h3
theorem RwC.cv {J2 : cz_I} {R2 : cz_R} {l2 : Int} (h : RwC I R J a o l) (r : ∀ j, R2 a j = R a j) (r' : ∀ j, R2 o j = R o j) (eI : ∀ g k, R o 3 = some g ∨ R o 4 = some g → I2 g k = I g k) (eJ : ∀ f k, R a 3 = some f ∨ R a 4 = some f → J2 f k = J f k) (hl : l2 = l) : RwC I2 R2 J2 a o l2 := by
  subst hl
  intro f t g u hf ht hg hu k hk
  rw [r] at hf ht
  rw [r'] at hg hu
  obtain ⟨h1, h2⟩ := h f t g u hf ht hg hu k hk
  rw [eJ f k (Or.inl hf), eJ t k (Or.inr ht), eI g k (Or.inl hg), eI u k (Or.inr hu)]
  exact ⟨h1, h2⟩
theorem RwC.le {l2 : Int} (h : RwC I R J a o l) (q : l2 ≤ l) : RwC I R J a o l2 := fun f t g u hf ht hg hu k hk => h f t g u hf ht hg hu k (by exact om_a60464d4 q hk)
theorem RwC.kp (h : RwC I R J a o l) (e : ∀ f k, R a 3 = some f → I2 f k = J f k) (e' : ∀ f k, R a 4 = some f → I2 f k = J f k) : RwC I R I2 a o l := fun f t g u hf ht hg hu k hk => ⟨(e f k hf).trans (h f t g u hf ht hg hu k hk).1, (e' t k ht).trans (h f t g u hf ht hg hu k hk).2⟩
end CzRo
section CzAc
variable {X : cz_X} {M : cz_M} {pc : Nat} {ls : Nat → Option Value} {st : List Value} {cn : Nat} {K N : Nat → Nat} {I I' : cz_I} {R R' : cz_R} {L : cz_L} {n w : Nat} {T : Nat → Nat} {d : Int} {wi wr : List Nat} {I0 : cz_I} {R0 : cz_R}
theorem q_aastE {k kd r y : Nat} {i : Int32} (hd : decode (cz_cc M) pc = .ok (.aastore, 1)) (hk : K k = kd) (h1 : 17 ≤ kd) (h2 : kd < 22) (hy : K y = cz_el kd) (hi : vp_in i (N k)) (hS : St T cn K N d wi wr I0 R0 I R) (t : T k = r) (hx : okR T (rrf r i.toNatClampNeg) (some y)) (mf : mefR r i.toNatClampNeg = true) (hwi : wm wr r i.toNatClampNeg = true)
    (kk : ∀ R' : cz_R, St T cn K N d wi wr I0 R0 I R' → R' k i.toNatClampNeg = some y → (∀ a j, ¬ (a = k ∧ j = i.toNatClampNeg) → R' a j = R a j) → Tr X M (pc + 1) ls st cn K N I R' L n w) : Tr X M pc ls (.ref y :: .int i :: .ref k :: st) cn K N I R L n w := tr_aast hd hk h1 h2 hy hi (kk _ (hS.putR t hx mf hwi) uR_at (fun _ _ q => uR_ne q))
/-- a row of twelve, its first put last -/
def RotR (R R' : cz_R) (A : Nat) : Prop := (∀ k : Nat, k < 11 → R' A k = R A (k + 1)) ∧ R' A 11 = R A 0
def RotI (R R' : cz_R) (A : Nat) (i : Int) : Prop := ∀ k : Nat, ((k : Int) + 1 < i → R' A k = R A (k + 1)) ∧ (i ≤ (k : Int) + 1 → R' A k = R A k)
theorem RotI.rf {A : Nat} {i : Int} (h : i ≤ 1) : RotI R R A i := fun k => ⟨fun q => by omega, fun _ => rfl⟩
theorem RotI.stp {R2 : cz_R} {A j y : Nat} {i i' : Int} (h : RotI R R' A i) (hj : (j : Int) + 1 = i) (hi : i' = i + 1) (hy : R' A (j + 1) = some y) (e : R2 A j = some y) (f : ∀ a k, ¬ (a = A ∧ k = j) → R2 a k = R' a k) : RotI R R2 A i' := by
  subst hi
  intro k
  refine ⟨fun q => ?_, fun q => ?_⟩
  · by_cases z : k = j
    · subst z; rw [e, ← hy, (h (k + 1)).2 (by exact om_e886ecac hj)]
    · rw [f A k (fun x => z x.2), (h k).1 (by exact om_3096f819 hj q z)]
  · rw [f A k (fun x => by exact om_c1aa7739 hj q x.2), (h k).2 (by exact om_badb57b9 q)]
theorem RotI.fin {R2 : cz_R} {A y : Nat} {i : Int} (h : RotI R R' A i) (hi : i = 12) (hy : R A 0 = some y) (e : R2 A 11 = some y) (f : ∀ a k, ¬ (a = A ∧ k = 11) → R2 a k = R' a k) : RotR R R2 A := by
  subst hi
  exact ⟨fun k hk => by rw [f A k (fun x => by exact om_a435e1af hk x.2), (h k).1 (by exact om_31638b25 hk)], by rw [e, hy]⟩
/-- what is kept of an act: the state ahead of it, in a place of its own -/
def KeC (T : Nat → Nat) (I : cz_I) (R : cz_R) (I' : cz_I) (R' : cz_R) (A nw : Nat) (n : Int) : Prop := ∃ h, T h = 10 ∧ R' A (if n < 12 then n.toNat else 11) = some h ∧ FrO 10 h T I I' ∧ (I' h 0).toInt = (I nw 0).toInt ∧ (I' h 1).toInt = (I nw 1).toInt ∧ (I' h 2).toInt = (I nw 2).toInt ∧ (∀ f, R h 3 = some f → FrO 31 f T I I') ∧ (∀ f, R h 4 = some f → FrO 32 f T I I') ∧ RwC I R I' h nw (I nw 2).toInt ∧ (n < 12 → R' = R) ∧ (¬ n < 12 → RotR R R' A)
/-- what roles the rows of a kept state have -/
def RoP (T : Nat → Nat) (R : cz_R) : Prop := ∀ h f, T h = 10 → (R h 3 = some f → T f = 31) ∧ (R h 4 = some f → T f = 32)
theorem RoP.of {cn : Nat} {K N : Nat → Nat} {d : Int} {T : Nat → Nat} {I : cz_I} {R : cz_R} (hW : Wf T cn K N I R d) : RoP T R := fun _ _ th => ⟨fun hf => hW.rs th rfl rfl hf, fun hf => hW.rs th rfl rfl hf⟩
theorem KeC.kp {T : Nat → Nat} {I I1 I2 : cz_I} {R R' : cz_R} {A nw : Nat} {n : Int} (h : KeC T I R I1 R' A nw n) (hr : RoP T R) (f : ∀ a j, T a = 10 ∨ T a = 31 ∨ T a = 32 → I2 a j = I1 a j) : KeC T I R I2 R' A nw n := by
  obtain ⟨h, th, h1, h2, h3, h4, h5, h6, h7, h8, h9, h10⟩ := h
  exact ⟨h, th, h1, fun a j ta hn => (f a j (Or.inl ta)).trans (h2 a j ta hn), by rw [f h 0 (Or.inl th)]; exact h3, by rw [f h 1 (Or.inl th)]; exact h4, by rw [f h 2 (Or.inl th)]; exact h5, fun b hb a j ta hn => (f a j (Or.inr (Or.inl ta))).trans (h6 b hb a j ta hn), fun b hb a j ta hn => (f a j (Or.inr (Or.inr ta))).trans (h7 b hb a j ta hn), h8.kp (fun b k hb => f b k (Or.inr (Or.inl ((hr h b th).1 hb)))) (fun b k hb => f b k (Or.inr (Or.inr ((hr h b th).2 hb)))), h9, h10⟩
def R7 (r : Nat) : Prop := r = 8 ∨ r = 10 ∨ r = 11 ∨ r = 27 ∨ r = 28 ∨ r = 31 ∨ r = 32
def SmC (T : Nat → Nat) (I : cz_I) (R : cz_R) (I' : cz_I) (R' : cz_R) : Prop := R' = R ∧ ∀ a j, R7 (T a) → I' a j = I a j
theorem SmC.kp {T : Nat → Nat} {I I1 I2 : cz_I} {R R' : cz_R} (h : SmC T I R I1 R') (f : ∀ a j, R7 (T a) → I2 a j = I1 a j) : SmC T I R I2 R' := ⟨h.1, fun a j ta => (f a j ta).trans (h.2 a j ta)⟩
/-- an act is kept, its number goes up -/
def KpC (T : Nat → Nat) (I : cz_I) (R : cz_R) (I' : cz_I) (R' : cz_R) (x : Nat) : Prop := ∀ nw pa A, R x 6 = some nw → R x 7 = some pa → R pa 1 = some A → KeC T I R I' R' A nw (I pa 0).toInt ∧ ((I pa 0).toInt < 12 → (I' pa 0).toInt = (I pa 0).toInt + 1) ∧ (¬ (I pa 0).toInt < 12 → (I' pa 0).toInt = 12)
/-- a state of the past has come back -/
def BkC (I : cz_I) (R : cz_R) (I' : cz_I) (b nw : Nat) (k : Nat) : Prop := ∀ h, R b k = some h → (I' nw 0).toInt = (I h 0).toInt ∧ (I' nw 1).toInt = (I h 1).toInt ∧ (I' nw 2).toInt = (I h 2).toInt ∧ RwC I R I' nw h (I h 2).toInt
/-- a state is kept, in a place of its own -/
def MkC (T : Nat → Nat) (I : cz_I) (R : cz_R) (I' : cz_I) (b nw : Nat) (k : Nat) : Prop := ∀ h, R b k = some h → T h = 10 ∧ FrO 10 h T I I' ∧ (I' h 0).toInt = (I nw 0).toInt ∧ (I' h 1).toInt = (I nw 1).toInt ∧ (I' h 2).toInt = (I nw 2).toInt ∧ (∀ f, R h 3 = some f → FrO 31 f T I I') ∧ (∀ f, R h 4 = some f → FrO 32 f T I I') ∧ RwC I R I' h nw (I nw 2).toInt
theorem BkC.kp {I I1 I2 : cz_I} {R : cz_R} {b nw k : Nat} (h : BkC I R I1 b nw k) (f : ∀ j, I2 nw j = I1 nw j) (e : ∀ a j, R nw 3 = some a ∨ R nw 4 = some a → I2 a j = I1 a j) : BkC I R I2 b nw k := fun p hp => by
  obtain ⟨h1, h2, h3, h4⟩ := h p hp
  rw [f 0, f 1, f 2]; exact ⟨h1, h2, h3, h4.kp (fun a j ha => e a j (Or.inl ha)) (fun a j ha => e a j (Or.inr ha))⟩
theorem MkC.kp {T : Nat → Nat} {I I1 I2 : cz_I} {R : cz_R} {b nw k : Nat} (h : MkC T I R I1 b nw k) (hr : RoP T R) (f : ∀ a j, T a = 10 ∨ T a = 31 ∨ T a = 32 → I2 a j = I1 a j) : MkC T I R I2 b nw k := fun p hp => by
  obtain ⟨t, h2, h3, h4, h5, h6, h7, h8⟩ := h p hp
  exact ⟨t, fun a j ta hn => (f a j (Or.inl ta)).trans (h2 a j ta hn), by rw [f p 0 (Or.inl t)]; exact h3, by rw [f p 1 (Or.inl t)]; exact h4, by rw [f p 2 (Or.inl t)]; exact h5, fun b hb a j ta hn => (f a j (Or.inr (Or.inl ta))).trans (h6 b hb a j ta hn), fun b hb a j ta hn => (f a j (Or.inr (Or.inr ta))).trans (h7 b hb a j ta hn), h8.kp (fun b k hb => f b k (Or.inr (Or.inl ((hr p b t).1 hb)))) (fun b k hb => f b k (Or.inr (Or.inr ((hr p b t).2 hb))))⟩
/-- the next number drawn -/
def dw (s : Int) : Int := (75 * s + 74) % 65537
def dwm (s m : Int) : Int := dw s % m
/-- where a drawn cloud ends -/
def dwt (s m : Int) : Int := if dwm s m + (1 + dwm (dw s) 20) < m then dwm s m + (1 + dwm (dw s) 20) else m
theorem q_iremV {x y : Int32} (hd : decode (cz_cc M) pc = .ok (.irem, 1)) (h0 : 0 ≤ x.toInt) (h1 : 0 < y.toInt) (k : ∀ v : Int32, v.toInt = x.toInt % y.toInt → Tr X M (pc + 1) ls (.int v :: st) cn K N I R L n w) : Tr X M pc ls (.int y :: .int x :: st) cn K N I R L n w := tr_irem hd (fun q => by have := h1; rw [q] at this; exact absurd this (by decide)) (k _ (ti_remE h0 h1))
theorem ti_lremE {x y : Int64} (h0 : 0 ≤ x.toInt) (h1 : 0 < y.toInt) : (x - x / y * y).toInt = x.toInt % y.toInt := by
  have hx := x.toInt_lt
  have e1 : (x / y).toInt = x.toInt / y.toInt := by
    rw [Int64.toInt_div, Int.tdiv_eq_ediv_of_nonneg h0]
    have q1 : 0 ≤ x.toInt / y.toInt := Int.ediv_nonneg h0 (by exact om_087f8ebc h1)
    have q2 : x.toInt / y.toInt ≤ x.toInt := Int.ediv_le_self _ h0
    exact Int.bmod_eq_of_le (by exact om_a084cfe6 q1) (by omega)
  have h3 : 0 ≤ x.toInt / y.toInt * y.toInt ∧ x.toInt / y.toInt * y.toInt ≤ x.toInt := ⟨Int.mul_nonneg (Int.ediv_nonneg h0 (by exact om_087f8ebc h1)) (by exact om_087f8ebc h1), Int.ediv_mul_le _ (by exact om_dd948c47 h1)⟩
  have e2 : (x / y * y).toInt = x.toInt / y.toInt * y.toInt := by
    rw [Int64.toInt_mul, e1]; exact Int.bmod_eq_of_le (by exact om_70e30cfb h3.1) (by omega)
  have e3 : (x - x / y * y).toInt = x.toInt - x.toInt / y.toInt * y.toInt := by
    rw [Int64.toInt_sub, e2]; exact Int.bmod_eq_of_le (by exact om_f47698d4 h3.2 e2) (by omega)
  have h6 := Int.emod_def x.toInt y.toInt
  rw [Int.mul_comm] at h6
  exact om_3e20ef5c e2 e3 h6
theorem q_lremV {x y : Int64} (hd : decode (cz_cc M) pc = .ok (.lrem, 1)) (h0 : 0 ≤ x.toInt) (h1 : 0 < y.toInt) (k : ∀ v : Int64, v.toInt = x.toInt % y.toInt → Tr X M (pc + 1) ls (.long v :: st) cn K N I R L n w) : Tr X M pc ls (.long y :: .long x :: st) cn K N I R L n w := tr_lrem hd (fun q => by have := h1; rw [q] at this; exact absurd this (by decide)) (k _ (ti_lremE h0 h1))
end CzAc
/-! ===== the reference's rows ===== -/
section CzAm
variable {I I1 I2 : cz_I} {w p : Nat} {n b l : Int} {T : Nat → Nat}
/-- what keeps does: w is put behind the acts, the oldest of twelve goes -/
def KeM (I I' : cz_I) (w p : Nat) (n : Int) : Prop := ∀ c : Nat, c < 15 → (∀ i : Nat, (i : Int) < (if n < 12 then n else 11) → I' p (15 * i + c) = I p (15 * (if n < 12 then i else i + 1) + c)) ∧ I' p (15 * (if n < 12 then n.toNat else 11) + c) = I w c
def ShI (I I' : cz_I) (p : Nat) (l : Int) : Prop := ∀ k : Nat, ((k : Int) < l → I' p k = I p (k + 15)) ∧ (l ≤ (k : Int) → I' p k = I p k)
/-- below b all as G says, behind it l of w -/
def CpI (G : Nat → Int32) (I I' : cz_I) (w p : Nat) (b l : Int) : Prop := (∀ k : Nat, (k : Int) < b → I' p k = G k) ∧ ∀ c : Nat, (c : Int) < l → I' p (b.toNat + c) = I w c
/-- l of row p from b on stand in w -/
def CwI (I I' : cz_I) (w p : Nat) (b l : Int) : Prop := ∀ c : Nat, (c : Int) < l → I' w c = I p (b.toNat + c)
theorem ShI.stp {j : Nat} {v : Int32} {l' : Int} (h : ShI I I1 p l) (hj : (j : Int) = l) (hl : l' = l + 1) (hv : I1 p (j + 15) = v) (e : I2 p j = v) (f : ∀ a k, ¬ (a = p ∧ k = j) → I2 a k = I1 a k) : ShI I I2 p l' := by
  subst hl
  intro k
  refine ⟨fun q => ?_, fun q => ?_⟩
  · by_cases z : k = j
    · subst z; rw [e, ← hv, (h (k + 15)).2 (by exact om_adf864d0 hj)]
    · rw [f p k (fun x => z x.2), (h k).1 (by exact om_9191a836 hj q z)]
  · rw [f p k (fun x => by exact om_1e0b7959 hj q x.2), (h k).2 (by exact om_6e29c78e q)]
theorem CpI.stp {G : Nat → Int32} {j : Nat} {l' : Int} {v : Int32} (h : CpI G I I1 w p b l) (h0 : 0 ≤ b) (h1 : 0 ≤ l) (hj : (j : Int) = b + l) (hl : l' = l + 1) (hv : I w l.toNat = v) (e : I2 p j = v) (f : ∀ a k, ¬ (a = p ∧ k = j) → I2 a k = I1 a k) : CpI G I I2 w p b l' := by
  subst hl
  refine ⟨fun k hk => ?_, fun c hc => ?_⟩
  · rw [f p k (fun x => by exact om_89ab44ac h1 hj hk x.2)]; exact h.1 k hk
  · by_cases z : (c : Int) = l
    · rw [show b.toNat + c = j by exact om_58c60a2a h0 hj z, e, ← hv]; congr 1; exact om_ece70136 z
    · rw [f p _ (fun x => by exact om_39aab948 h0 hj z x.2)]; exact h.2 c (by exact om_9cf3fb71 hc z)
theorem CwI.stp {j : Nat} {l' : Int} {v : Int32} (h : CwI I I1 w p b l) (h1 : 0 ≤ l) (hj : (j : Int) = l) (hl : l' = l + 1) (hv : I p (b.toNat + l.toNat) = v) (e : I2 w j = v) (f : ∀ a k, ¬ (a = w ∧ k = j) → I2 a k = I1 a k) : CwI I I2 w p b l' := by
  subst hl
  intro c hc
  by_cases z : (c : Int) = l
  · rw [show c = j by exact om_e23f94fb hj z, e, ← hv]; congr 2; exact om_89179481 hj z
  · rw [f w _ (fun x => by exact om_13238382 hj z x.2)]; exact h c (by exact om_5ad5dd4f hj hc z)
theorem KeM.of1 (h : CpI (fun k => I p k) I I1 w p b l) (hb : b = 15 * n) (hl : 15 ≤ l) (h0 : 0 ≤ n) (h1 : n < 12) (f : ∀ k, I2 p k = I1 p k) : KeM I I2 w p n := by
  intro c hc
  rw [if_pos h1, if_pos h1]
  refine ⟨fun i hi => ?_, ?_⟩
  · rw [if_pos h1, f, h.1 _ (by exact om_0357a8d9 hb hc hi)]
  · rw [f, show 15 * n.toNat + c = b.toNat + c by exact om_afe0d0e6 hb h0 h1, h.2 c (by exact om_3038492a hl hc)]
theorem KeM.of2 (h : CpI (fun k => I p (k + 15)) I I1 w p b l) (hb : b = 165) (hl : 15 ≤ l) (h1 : ¬ n < 12) (f : ∀ k, I2 p k = I1 p k) : KeM I I2 w p n := by
  intro c hc
  rw [if_neg h1, if_neg h1]
  refine ⟨fun i hi => ?_, ?_⟩
  · rw [if_neg h1, f, h.1 _ (by exact om_6bab1109 hb hc hi)]
    show I p (15 * i + c + 15) = _
    rw [show 15 * i + c + 15 = 15 * (i + 1) + c by exact om_c8490318]
  · rw [f, show 15 * 11 + c = b.toNat + c by exact om_ac9bac56 hb, h.2 c (by exact om_3038492a hl hc)]
theorem KeM.kp {J J1 J2 : cz_I} (h : KeM J J1 w p n) (f1 : ∀ k, J p k = I p k) (f2 : ∀ k, J w k = I w k) (f3 : ∀ k, J2 p k = J1 p k) : KeM I J2 w p n := by
  intro c hc
  obtain ⟨h1, h2⟩ := h c hc
  refine ⟨fun i hi => ?_, ?_⟩
  · rw [f3, h1 i hi, f1]
  · rw [f3, h2, f2]
/-- a cloud more in w -/
def AdM (I J : cz_I) (w : Nat) (n : Int) (va vb : Int32) : Prop := J w (3 + n.toNat) = va ∧ J w (9 + n.toNat) = vb ∧ ∀ k : Nat, k < 6 → (k : Int) < n → J w (3 + k) = I w (3 + k) ∧ J w (9 + k) = I w (9 + k)
theorem AdM.of {J1 J2 J3 : cz_I} {i1 i2 i3 : Nat} {va vb : Int32} (n0 : 0 ≤ n ∧ n ≤ 5) (h1 : i1 = 3 + n.toNat) (h2 : i2 = 9 + n.toNat) (h3 : i3 = 1) (e1 : J1 w i1 = va) (f1 : ∀ b j, ¬ (b = w ∧ j = i1) → J1 b j = I b j) (e2 : J2 w i2 = vb) (f2 : ∀ b j, ¬ (b = w ∧ j = i2) → J2 b j = J1 b j) (f3 : ∀ b j, ¬ (b = w ∧ j = i3) → J3 b j = J2 b j) : AdM I J3 w n va vb := by
  subst h1; subst h2; subst h3
  refine ⟨?_, ?_, fun k hk hn => ⟨?_, ?_⟩⟩
  · rw [f3 _ _ (fun q => by exact om_190f9db4 n0.2 n0.1 q.2), f2 _ _ (fun q => by exact om_6c81c873 q.2), e1]
  · rw [f3 _ _ (fun q => by exact om_d4798eb2 n0.2 n0.1 q.2), e2]
  · rw [f3 _ _ (fun q => by exact om_943b59d4 hk q.2), f2 _ _ (fun q => by exact om_74c7af8e n0.2 n0.1 hk hn q.2), f1 _ _ (fun q => by exact om_4307e8b1 n0.2 n0.1 hk hn q.2)]
  · rw [f3 _ _ (fun q => by exact om_bb23b890 hk q.2), f2 _ _ (fun q => by exact om_ae3e995e n0.2 n0.1 hk hn q.2), f1 _ _ (fun q => by exact om_6f2ecf61 n0.2 n0.1 hk hn q.2)]
theorem AdM.cv {J J2 : cz_I} {va vb : Int32} {n2 : Int} (h : AdM I J w n va vb) (e : ∀ c, 3 ≤ c → I w c = I2 w c) (e' : ∀ c, 3 ≤ c → J2 w c = J w c) (hn : n2 = n) : AdM I2 J2 w n2 va vb := by
  subst hn
  obtain ⟨h1, h2, h3⟩ := h
  refine ⟨by rw [e' _ (by exact om_c4fb2df5)]; exact h1, by rw [e' _ (by exact om_c73ae089)]; exact h2, fun k hk hk2 => ?_⟩
  rw [e' _ (by exact om_d1e78b61 hk), e' _ (by exact om_1378fd39 hk), ← e _ (by exact om_d1e78b61 hk), ← e _ (by exact om_1378fd39 hk)]; exact h3 k hk hk2
end CzAm
theorem bt_01 (h v : Int) : bt h v = 0 ∨ bt h v = 1 := by unfold bt; exact om_fbe6808b
theorem bt_allW : ∀ h : Nat, h < 64 → ∀ v : Nat, v < 6 → ((((Int32.ofNat h).toUInt32 >>> ((Int32.ofNat v).toUInt32 &&& Int32.toUInt32 31)).toInt32) &&& 1).toInt = bt (h : Int) (v : Int) := by decide +kernel
theorem ha_allW : ∀ h : Nat, h < 64 → ∀ v : Nat, v < 6 → (((Int32.ofNat h >>> (Int32.ofNat v &&& 31)) &&& 1).toInt = bt (h : Int) (v : Int)) := by decide +kernel
theorem xo_allW : ∀ h : Nat, h < 64 → ∀ v : Nat, v < 6 → 0 ≤ (Int32.ofNat h ^^^ ((1 : Int32) <<< (Int32.ofNat v &&& 31))).toInt ∧ (Int32.ofNat h ^^^ ((1 : Int32) <<< (Int32.ofNat v &&& 31))).toInt ≤ 63 := by decide +kernel
theorem xo_b {h v : Int32} (h0 : 0 ≤ h.toInt ∧ h.toInt ≤ 63) (h1 : 0 ≤ v.toInt ∧ v.toInt ≤ 5) : 0 ≤ (h ^^^ ((1 : Int32) <<< (v &&& 31))).toInt ∧ (h ^^^ ((1 : Int32) <<< (v &&& 31))).toInt ≤ 63 := by
  obtain ⟨a, ha, rfl, ea⟩ := i32_nat (n := 64) h0.1 (by exact om_32265370 h0.2 h0.1) (by exact om_75af46b6)
  obtain ⟨b, hb, rfl, eb⟩ := i32_nat (n := 6) h1.1 (by exact om_f219ba62 h1.2 h1.1) (by exact om_665e9967)
  exact xo_allW a ha b hb
set_option maxHeartbeats 1000000 in
theorem f_X10_bitW {l : Launch} {cn : Nat} {K N : Nat → Nat} {I0 : cz_I} {R0 : cz_R} {L0 : cz_L} {x0 x1 : Int32} (h0 : 0 ≤ x0.toInt ∧ x0.toInt ≤ 63) (h1 : 0 ≤ x1.toInt ∧ x1.toInt ≤ 5) : ConE l mX10_bit [.int x0, .int x1] cn K N I0 R0 L0 (ca_i (fun v cn' K' N' I' R' L' => cn = cn' ∧ K = K' ∧ N = N' ∧ I0 = I' ∧ R0 = R' ∧ L0 = L' ∧ (v.toInt = (bt x0.toInt x1.toInt)) ∧ True)) := by
  refine ConE.of (by decide +kernel) rfl (Nat.le_of_ble_eq_true rfl) rfl (fun X hX hZ hE => ?_)
  subst hX
  refine tr_iload_n dX10_bit_0 rfl ?_
  refine tr_iload_n dX10_bit_1 rfl ?_
  refine tr_iushr dX10_bit_2 ?_
  refine tr_iconst (v := 1) dX10_bit_3 rfl ?_
  refine tr_iand dX10_bit_4 ?_
  refine tr_iret hZ dX10_bit_5 rfl (by decide) (by decide) ⟨_, rfl, rfl, rfl, rfl, rfl, rfl, rfl, ?_, trivial⟩
  obtain ⟨a, ha, rfl, ea⟩ := i32_nat (n := 64) h0.1 (by exact om_32265370 h0.2 h0.1) (by exact om_75af46b6)
  obtain ⟨b, hb2, rfl, eb⟩ := i32_nat (n := 6) h1.1 (by exact om_f219ba62 h1.2 h1.1) (by exact om_665e9967)
  rw [ea, eb]
  exact bt_allW a ha b hb2
set_option maxHeartbeats 1000000 in
theorem f_X12_hasW {l : Launch} {cn : Nat} {K N : Nat → Nat} {I0 : cz_I} {R0 : cz_R} {L0 : cz_L} {x0 x1 : Int32} (h0 : 0 ≤ x0.toInt ∧ x0.toInt ≤ 63) (h1 : 0 ≤ x1.toInt ∧ x1.toInt ≤ 5) : ConE l mX12_has [.int x0, .int x1] cn K N I0 R0 L0 (ca_i (fun v cn' K' N' I' R' L' => cn = cn' ∧ K = K' ∧ N = N' ∧ I0 = I' ∧ R0 = R' ∧ L0 = L' ∧ (0 ≤ v.toInt ∧ v.toInt ≤ 1) ∧ (v.toInt = (bt x0.toInt x1.toInt)) ∧ True)) := by
  refine ConE.of (by decide +kernel) rfl (Nat.le_of_ble_eq_true rfl) rfl (fun X hX hZ hE => ?_)
  subst hX
  obtain ⟨a, ha, rfl, ea⟩ := i32_nat (n := 64) h0.1 (by exact om_32265370 h0.2 h0.1) (by exact om_75af46b6)
  obtain ⟨b, hb2, rfl, eb⟩ := i32_nat (n := 6) h1.1 (by exact om_f219ba62 h1.2 h1.1) (by exact om_665e9967)
  have hv := ha_allW a ha b hb2
  have hr : bt (a : Int) (b : Int) = 0 ∨ bt (a : Int) (b : Int) = 1 := by unfold bt; exact om_78312606
  refine tr_iload_n dX12_has_0 rfl ?_
  refine tr_iload_n dX12_has_1 rfl ?_
  refine tr_ishr dX12_has_2 ?_
  refine tr_iconst (v := 1) dX12_has_3 rfl ?_
  refine tr_iand dX12_has_4 ?_
  refine q_iconst dX12_has_5 (by decide) ?_
  intro v5 e5
  refine q_icmp_ne 13 dX12_has_6 (by decide) (fun h => ?_) (fun h => ?_)
  · refine q_iconst dX12_has_13 (by decide) ?_
    intro v6 e6
    exact tr_zret hZ dX12_has_14 rfl (ti_b01 (by exact om_d99fa9e4 e6) (by exact om_d3de7ec9 e6)) (by decide) (by decide) ⟨v6, rfl, rfl, rfl, rfl, rfl, rfl, rfl, (by exact om_3b50ecb9 e6), (by rw [ea, eb]; exact om_19cd2966 hv hr e5 h e6), trivial⟩
  · refine q_iconst dX12_has_9 (by decide) ?_
    intro v6 e6
    refine tr_goto 14 dX12_has_10 (by decide) ?_
    exact tr_zret hZ dX12_has_14 rfl (ti_b01 (by exact om_f9079521 e6) (by exact om_e6632817 e6)) (by decide) (by decide) ⟨v6, rfl, rfl, rfl, rfl, rfl, rfl, rfl, (by exact om_d753bc65 e6), (by rw [ea, eb]; exact om_c782e132 hv e5 h e6), trivial⟩
/-- a drawn cloud came, hidden from omega -/
def AdE (I : cz_I) (R : cz_R) (J : cz_I) (a : Nat) (m : Int) : Prop := (I a 2).toInt ≤ 5 → 1 ≤ m → ∃ va vb : Int32, AdC I R J a (I a 2).toInt va vb ∧ va.toInt = dwm (I a 1).toInt m ∧ vb.toInt = dwt (I a 1).toInt m
