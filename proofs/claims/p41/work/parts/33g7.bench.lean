section CzN7
variable {T : Nat → Nat} {cn : Nat} {K N : Nat → Nat} {d d1 : Int} {I J J2 I9 : cz_I} {R R2 : cz_R} {n al sk r t m k i q : Nat} {wi wr : List Nat} {b u : Nat → Int} {f g : Nat → Int} {l l' c1 c3 x A D : Int} {v w o y : Int32} {Z : cz_N}
theorem b8of {x : Int} (h : x = 0 ∨ x = 1) : 0 ≤ x ∧ x ≤ 8 := by omega
/-- who lies up at first -/
theorem UpZ (h : v.toInt = nzc Z 9) (h1 : 0 ≤ nzc Z 9 ∧ nzc Z 9 ≤ 255) (hb : ∀ k : Nat, k < 8 → ¬ (k : Int) < nzc Z 3 → bt (nzc Z 9) (k : Int) = 0) : B8 v (fun k => if (k : Int) < nzc Z 3 then nV Z k 0 else 0) := ⟨by omega, by omega, fun k hk => by
  rw [h]
  show bt (nzc Z 9) (k : Int) = if (k : Int) < nzc Z 3 then nV Z k 0 else 0
  by_cases z : (k : Int) < nzc Z 3
  · rw [if_pos z]; rfl
  · rw [if_neg z]; exact hb k hk z⟩
theorem RwD.one {A : Int} {v w x : Int32} (hv : J r t = v) (hw : w = v + x) (e : J2 r t = w) (hx : x.toInt = A) : RwD J J2 r t A := ⟨x, by rw [e, hw, hv], hx⟩
/-- where lightning cracks -/
theorem ckZ {g : Nat → Int} {n3 e K : Int} {h : Nat} (b : Bts v (fun j => if (if (j : Int) < c1 then (1 : Int) else 0) = 1 ∧ g j = 0 then 1 else 0)) (z : K = if ¬ n3 = 0 ∧ e = 0 ∧ (h : Int) < c1 ∧ g h = 0 then 1 else 0) (h3 : ¬ n3 = 0) (he : e = 0) (hh : h < 4) : bt v.toInt (h : Int) = K := by
  rw [b.2.2 h hh, z]
  show (if (if (h : Int) < c1 then (1 : Int) else 0) = 1 ∧ g h = 0 then (1 : Int) else 0) = _
  by_cases q : (h : Int) < c1 ∧ g h = 0
  · rw [if_pos q.1, if_pos ⟨rfl, q.2⟩, if_pos ⟨h3, he, q.1, q.2⟩]
  · have e2 : ¬ (¬ n3 = 0 ∧ e = 0 ∧ (h : Int) < c1 ∧ g h = 0) := fun w => q ⟨w.2.2.1, w.2.2.2⟩
    have e1 : ¬ ((if (h : Int) < c1 then (1 : Int) else 0) = 1 ∧ g h = 0) := fun w => q ⟨if1 w.1, w.2⟩
    rw [if_neg e1, if_neg e2]
theorem NgP.mk (hA : CVa I R al (nzc Z) (nzT Z)) (hS : SkZ I R sk Z) (g : St T cn K N d1 wi wr I R J R2) (hW : Wf T cn K N I R d) (tn : T n = 13) (ta : T al = 2) (ts : T sk = 12) (h0 : R2 n 0 = some al) (h1 : R2 n 1 = some sk) (h2 : (J n 2).toInt = nzM Z) (c : wi.all (fun c => !(ngr (c / 64))) = true) (cr : wr.all (fun c => Nat.beq (c / 64) 13) = true) : NgP J R2 n Z := by
  intro al' sk' g0 g1
  obtain rfl := Option.some.inj (h0.symm.trans g0)
  obtain rfl := Option.some.inj (h1.symm.trans g1)
  have e : ∀ a j, ngr (T a) = true → J a j = I a j := fun a j ta => g.2.1 a j (wm_p (p := fun r => !(ngr r)) c (by rw [ta]; rfl))
  have r := R13 g cr
  exact ⟨(hA.cg hW ta (fun j => e al j (by rw [ta]; rfl)) (fun a j ra => e a j (by unfold ngr; rw [ra, Bool.or_true, Bool.true_or]))).rc hW ta r, (hS.cg hW ts (fun a j ra => e a j (by unfold ngr; rw [ra, Bool.or_true]))).rc (fun j => r sk j (by omega)), h2⟩
theorem nV_01 (k : Nat) : ∀ M, nV Z k M = 0 ∨ nV Z k M = 1
  | 0 => by rw [nV]; exact bt_01 _ _
  | M + 1 => by
    have z := nV_01 k M
    rw [nV]; split <;> omega
/-- up behind a minute's turns -/
theorem TUp (hU : B8 v (fun k => if (k : Int) < nzc Z 3 then nV Z k m else 0)) (hD : B8 w (fun k => if (k : Int) < nzc Z 3 ∧ ¬ nB Z m k = -2 then 1 else 0)) (ho : o = v ^^^ w) : B8 o (fun k => if (k : Int) < nzc Z 3 then nV Z k (m + 1) else 0) := by
  rw [ho]
  refine (hU.xor hD).cg (fun k hk => ?_)
  show _ = if (if (k : Int) < nzc Z 3 then nV Z k m else 0) = (if (k : Int) < nzc Z 3 ∧ ¬ nB Z m k = -2 then (1 : Int) else 0) then (0 : Int) else 1
  by_cases z : (k : Int) < nzc Z 3
  · rw [if_pos z, if_pos z, nV]
    have y := nV_01 (Z := Z) k m
    by_cases p : nB Z m k = -2
    · have e : (if (k : Int) < nzc Z 3 ∧ ¬ nB Z m k = -2 then (1 : Int) else 0) = 0 := if_neg (fun w => w.2 p)
      rw [if_pos p, e]
      rcases y with y | y
      · rw [y, if_pos rfl]
      · rw [y, if_neg (by decide)]
    · have e : (if (k : Int) < nzc Z 3 ∧ ¬ nB Z m k = -2 then (1 : Int) else 0) = 1 := if_pos ⟨z, p⟩
      rw [if_neg p, e]
      rcases y with y | y
      · rw [y, if_neg (by decide)]; rfl
      · rw [y, if_pos rfl]; rfl
  · have e : (if (k : Int) < nzc Z 3 ∧ ¬ nB Z m k = -2 then (1 : Int) else 0) = 0 := if_neg (fun w => z w.1)
    rw [if_neg z, if_neg z, e, if_pos rfl]
/-- what a minute's turns write of a night's rows -/
def NgA (I J : cz_I) (R : cz_R) (n : Nat) (Z : cz_N) (m : Nat) : Prop :=
  (∀ r, R n 3 = some r → Nib (J r m) (fun k => if (k : Int) < nzc Z 3 then nB Z m k else -2) ∧ ∀ j, ¬ j = m → J r j = I r j) ∧
  (∀ r, R n 8 = some r → ∀ t : Nat, (t : Int) < nzc Z 4 → RwD I J r t (if 0 < m then mK Z (m : Int) (nF Z m) t else 0)) ∧
  (∀ r, R n 9 = some r → ∀ t : Nat, (t : Int) < nzc Z 4 → RwD I J r t (if 0 < m then mS Z (m : Int) (nF Z m) t else 0)) ∧
  (∀ r, R n 10 = some r → ∀ t : Nat, (t : Int) < nzc Z 4 → RwD I J r t (if 0 < m ∧ 0 < mK Z (m : Int) (nF Z m) t then 1 else 0)) ∧
  (∀ r, R n 11 = some r → ∀ t : Nat, (t : Int) < nzc Z 4 → (J r t).toInt = nF Z (m + 1) t)
/-- what a minute's judging writes -/
def NgJ (I J : cz_I) (R : cz_R) (n : Nat) (Z : cz_N) (m : Nat) : Prop :=
  (∀ r, R n 4 = some r → ∀ k : Nat, (k : Int) < nzc Z 3 → RwD I J r k (if ¬ nB Z m k = -2 ∧ nzC Z (nzT Z 35 k) m = 1 then 1 else 0)) ∧
  (∀ r, R n 5 = some r → ∀ k : Nat, (k : Int) < nzc Z 3 → RwD I J r k (if ¬ nB Z m k = -2 ∧ ¬ nzC Z (nzT Z 35 k) m = 1 then 1 else 0)) ∧
  (∀ r, R n 6 = some r → ∀ k : Nat, (k : Int) < nzc Z 3 → RwD I J r k (if nB Z m k = -2 ∧ nzC Z (nzT Z 35 k) m = 1 then 1 else 0)) ∧
  (∀ r, R n 7 = some r → ∀ k : Nat, (k : Int) < nzc Z 3 → RwD I J r k (if nV Z k (m + 1) = 1 ∧ nzK Z (nzT Z 35 k) m = 1 then 1 else 0))
theorem cnM_bd {g : Nat → Int} {c : Int} (h : ∀ k, 0 ≤ g k ∧ g k ≤ c) : ∀ n : Nat, 0 ≤ cnM g n ∧ cnM g n ≤ c * n
  | 0 => by rw [cnM]; omega
  | n + 1 => by
    have z := cnM_bd h n
    have y := h n
    rw [cnM, show ((n + 1 : Nat) : Int) = n + 1 by omega, Int.mul_add, Int.mul_one]; omega
theorem NgR.go (h : NgR I R n Z m) (hA : NgA I J R n Z m) (hJ : NgJ J J2 R n Z m) (eA : ∀ r j s, 4 ≤ s → s ≤ 7 → R n s = some r → J r j = I r j) (eJ : ∀ r j s, s = 3 ∨ (8 ≤ s ∧ s ≤ 11) → R n s = some r → J2 r j = J r j) (hm : m < 240) (h8 : nzc Z 3 ≤ 8) : NgR J2 R n Z (m + 1) := by
  obtain ⟨h3, h4, h5, h6, h7, h8', h9, h10, h11⟩ := h
  obtain ⟨a3, a8, a9, a10, a11⟩ := hA
  obtain ⟨j4, j5, j6, j7⟩ := hJ
  have one : ∀ {r k : Nat} {D A : Int}, RwD J J2 r k D → (J r k).toInt = A → (0 ≤ A ∧ A ≤ 1 * (m : Nat)) → (D = 0 ∨ D = 1) → (J2 r k).toInt = A + D := fun {r k D A} e hA hb hd => e.to hA (by omega) (by omega)
  have two : ∀ {r k : Nat} {D A : Int}, RwD I J r k D → (I r k).toInt = A → (0 ≤ A ∧ A ≤ 8 * (m : Nat)) → (0 ≤ D ∧ D ≤ 8) → (J r k).toInt = A + D := fun {r k D A} e hA hb hd => e.to hA (by omega) (by omega)
  have b01 : ∀ {p : Prop} [Decidable p], 0 ≤ (if p then (1 : Int) else 0) ∧ (if p then (1 : Int) else 0) ≤ 1 := fun {p} _ => by rcases if01 (p := p) with z | z <;> omega
  have bK : ∀ j t : Nat, 0 ≤ (if 0 < j then mK Z (j : Int) (nF Z j) t else 0) ∧ (if 0 < j then mK Z (j : Int) (nF Z j) t else 0) ≤ 8 := fun j t => by
    have z := mK_b (Z := Z) (mi := (j : Int)) (f := nF Z j) h8 t
    split <;> omega
  have bS : ∀ j t : Nat, 0 ≤ (if 0 < j then mS Z (j : Int) (nF Z j) t else 0) ∧ (if 0 < j then mS Z (j : Int) (nF Z j) t else 0) ≤ 8 := fun j t => by
    have z := mS_b (Z := Z) (m := j) (f := nF Z j) h8 t
    split <;> omega
  refine ⟨fun r hr j hj => ?_, fun r hr k hk => ?_, fun r hr k hk => ?_, fun r hr k hk => ?_, fun r hr k hk => ?_, fun r hr t ht => ?_, fun r hr t ht => ?_, fun r hr t ht => ?_, fun r hr t ht => ?_⟩
  · rw [eJ r j 3 (Or.inl rfl) hr]
    obtain ⟨y1, y2⟩ := a3 r hr
    by_cases z : j = m
    · subst z
      exact y1.cg (fun k hk => by
        by_cases q : (k : Int) < nzc Z 3
        · rw [if_pos ⟨by omega, q⟩, if_pos q]
        · rw [if_neg (fun w => q w.2), if_neg q])
    · rw [y2 j z]
      exact (h3 r hr j hj).cg (fun k hk => by
        by_cases q : j < m ∧ (k : Int) < nzc Z 3
        · rw [if_pos q, if_pos ⟨by omega, q.2⟩]
        · rw [if_neg q, if_neg (fun w => q ⟨by omega, w.2⟩)])
  · unfold qR; rw [cnM]
    exact one (j4 r hr k hk) ((congrArg Int32.toInt (eA r k 4 (by omega) (by omega) hr)).trans (h4 r hr k hk)) (cnM_bd (fun _ => b01) m) if01
  · unfold qW; rw [cnM]
    exact one (j5 r hr k hk) ((congrArg Int32.toInt (eA r k 5 (by omega) (by omega) hr)).trans (h5 r hr k hk)) (cnM_bd (fun _ => b01) m) if01
  · unfold qM; rw [cnM]
    exact one (j6 r hr k hk) ((congrArg Int32.toInt (eA r k 6 (by omega) (by omega) hr)).trans (h6 r hr k hk)) (cnM_bd (fun _ => b01) m) if01
  · unfold qK; rw [cnM]
    exact one (j7 r hr k hk) ((congrArg Int32.toInt (eA r k 7 (by omega) (by omega) hr)).trans (h7 r hr k hk)) (cnM_bd (fun _ => b01) m) if01
  · rw [eJ r t 8 (by omega) hr]; unfold qT; rw [cnM]
    exact two (a8 r hr t ht) (h8' r hr t ht) (cnM_bd (fun j => bK j t) m) (bK m t)
  · rw [eJ r t 9 (by omega) hr]; unfold qS; rw [cnM]
    exact two (a9 r hr t ht) (h9 r hr t ht) (cnM_bd (fun j => bS j t) m) (bS m t)
  · rw [eJ r t 10 (by omega) hr]; unfold qN; rw [cnM]
    exact two (a10 r hr t ht) (h10 r hr t ht) (cnM_bd (c := 8) (fun _ => ⟨b01.1, Int.le_trans b01.2 (by decide)⟩) m) ⟨b01.1, Int.le_trans b01.2 (by decide)⟩
  · rw [eJ r t 11 (by omega) hr]; exact a11 r hr t ht
/-- minute 0: nobody turns -/
theorem NgA.z (h : NgR I R n Z 0) : NgA I I R n Z 0 :=
  ⟨fun r hr => ⟨(h.1 r hr 0 (by omega)).cg (fun k hk => by
    by_cases q : (k : Int) < nzc Z 3
    · rw [if_pos q, if_neg (fun w => absurd w.1 (by omega))]; exact if_pos rfl
    · rw [if_neg q, if_neg (fun w => q w.2)]), fun _ _ => rfl⟩, fun r hr t ht => RwD.z rfl (if_neg (by omega)), fun r hr t ht => RwD.z rfl (if_neg (by omega)), fun r hr t ht => RwD.z rfl (if_neg (by omega)), fun r hr t ht => by
    rw [h.2.2.2.2.2.2.2.2 r hr t ht, nF_s, if_neg (by omega)]⟩
theorem nB_pos {m : Nat} (h : 0 < m) (k : Nat) : nB Z m k = mB Z (m : Int) (nF Z m) (nzc Z 4).toNat k := if_neg (by omega)
theorem nB_z (k : Nat) : nB Z 0 k = -2 := if_pos rfl
/-- a later minute, out of what turnAll says -/
theorem NgA.tn {mi : Int} (h0 : 0 < m) (em : (m : Int) = mi) (p3 : ∀ r, R n 3 = some r → Nib (J r m) (fun k => if (k : Int) < nzc Z 3 then mB Z mi (nF Z m) (nzc Z 4).toNat k else -2) ∧ ∀ j, ¬ j = m → J r j = I r j)
    (p8 : ∀ r, R n 8 = some r → ∀ t : Nat, (t : Int) < nzc Z 4 → RwD I J r t (mK Z mi (nF Z m) t)) (p9 : ∀ r, R n 9 = some r → ∀ t : Nat, (t : Int) < nzc Z 4 → RwD I J r t (mS Z mi (nF Z m) t)) (p10 : ∀ r, R n 10 = some r → ∀ t : Nat, (t : Int) < nzc Z 4 → RwD I J r t ((fun u => if 0 < mK Z mi (nF Z m) u then 1 else 0) t))
    (p11 : ∀ r, R n 11 = some r → ∀ t : Nat, (t : Int) < nzc Z 4 → (J r t).toInt = if 0 < mK Z mi (nF Z m) t then mi + nzT Z (14 + t) 4 else nF Z m t) : NgA I J R n Z m := by
  subst em
  refine ⟨fun r hr => ⟨(p3 r hr).1.cg (fun k hk => by rw [nB_pos h0]), (p3 r hr).2⟩, fun r hr t ht => (p8 r hr t ht).cg (if_pos h0), fun r hr t ht => (p9 r hr t ht).cg (if_pos h0), fun r hr t ht => (p10 r hr t ht).cg ?_, fun r hr t ht => ?_⟩
  · show (if 0 < m ∧ 0 < mK Z (m : Int) (nF Z m) t then (1 : Int) else 0) = if 0 < mK Z (m : Int) (nF Z m) t then 1 else 0
    by_cases q : 0 < mK Z (m : Int) (nF Z m) t
    · rw [if_pos ⟨h0, q⟩, if_pos q]
    · rw [if_neg (fun w => q w.2), if_neg q]
  · rw [p11 r hr t ht, nF_s]
    by_cases q : 0 < mK Z (m : Int) (nF Z m) t
    · rw [if_pos q, if_pos ⟨by omega, q⟩]
    · rw [if_neg q, if_neg (fun w => q w.2)]
theorem NgJ.of {mi : Int} (em : (m : Int) = mi) (p4 : ∀ r, R n 4 = some r → ∀ k : Nat, (k : Int) < nzc Z 3 → RwD I J r k ((fun k => if ¬ nB Z m k = -2 ∧ nzC Z (nzT Z 35 k) mi = 1 then 1 else 0) k)) (p5 : ∀ r, R n 5 = some r → ∀ k : Nat, (k : Int) < nzc Z 3 → RwD I J r k ((fun k => if ¬ nB Z m k = -2 ∧ ¬ nzC Z (nzT Z 35 k) mi = 1 then 1 else 0) k)) (p6 : ∀ r, R n 6 = some r → ∀ k : Nat, (k : Int) < nzc Z 3 → RwD I J r k ((fun k => if nB Z m k = -2 ∧ nzC Z (nzT Z 35 k) mi = 1 then 1 else 0) k))
    (p7 : ∀ r, R n 7 = some r → ∀ k : Nat, (k : Int) < nzc Z 3 → RwD I J r k ((fun k => if (fun k => nV Z k (m + 1)) k = 1 ∧ nzK Z (nzT Z 35 k) mi = 1 then 1 else 0) k)) : NgJ I J R n Z m := by
  subst em
  exact ⟨p4, p5, p6, p7⟩
/-- nothing is played yet -/
theorem NgR.z (z3 : ∀ r, R n 3 = some r → ∀ j : Nat, j < 240 → I r j = 0) (z8 : ∀ s r, 4 ≤ s → s ≤ 7 → R n s = some r → ∀ j : Nat, j < 8 → I r j = 0) (z5 : ∀ s r, 8 ≤ s → s ≤ 11 → R n s = some r → ∀ j : Nat, j < 5 → I r j = 0) (h3 : nzc Z 3 ≤ 8) (h4 : nzc Z 4 ≤ 5) : NgR I R n Z 0 :=
  ⟨fun r hr j hj => (Nib.z (by rw [z3 r hr j hj]; rfl)).cg (fun k hk => by rw [if_neg (fun w => absurd w.1 (by omega))]), fun r hr k hk => by rw [z8 4 r (by omega) (by omega) hr k (by omega)]; rfl, fun r hr k hk => by rw [z8 5 r (by omega) (by omega) hr k (by omega)]; rfl, fun r hr k hk => by rw [z8 6 r (by omega) (by omega) hr k (by omega)]; rfl, fun r hr k hk => by rw [z8 7 r (by omega) (by omega) hr k (by omega)]; rfl, fun r hr k hk => by rw [z5 8 r (by omega) (by omega) hr k (by omega)]; rfl, fun r hr k hk => by rw [z5 9 r (by omega) (by omega) hr k (by omega)]; rfl, fun r hr k hk => by rw [z5 10 r (by omega) (by omega) hr k (by omega)]; rfl, fun r hr k hk => by rw [z5 11 r (by omega) (by omega) hr k (by omega)]; rfl⟩
end CzN7
