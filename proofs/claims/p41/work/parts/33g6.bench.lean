theorem b4_and : ∀ a : Nat, a < 16 → ∀ b : Nat, b < 16 → 0 ≤ (Int32.ofNat a &&& Int32.ofNat b).toInt ∧ (Int32.ofNat a &&& Int32.ofNat b).toInt ≤ 15 ∧ ∀ h : Nat, h < 4 → bt (Int32.ofNat a &&& Int32.ofNat b).toInt (h : Int) = if bt (a : Int) (h : Int) = 1 ∧ bt (b : Int) (h : Int) = 1 then 1 else 0 := by decide +kernel
section CzN6
variable {I J J2 I9 : cz_I} {r t ix : Nat} {f : Nat → Int} {l l' c3 c4 m x u : Int} {v w o c y : Int32} {Z : cz_N}
theorem and15h (hv : v = w &&& y) (hw : 0 ≤ w.toInt ∧ w.toInt ≤ 15) (hy : 0 ≤ y.toInt ∧ y.toInt ≤ 15) : 0 ≤ v.toInt ∧ v.toInt ≤ 15 ∧ ∀ h : Nat, h < 4 → bt v.toInt (h : Int) = if bt w.toInt (h : Int) = 1 ∧ bt y.toInt (h : Int) = 1 then 1 else 0 := by
  obtain ⟨a, ha, rfl, ea⟩ := i32_nat (n := 16) hw.1 (by omega) (by omega)
  obtain ⟨b, hb, rfl, eb⟩ := i32_nat (n := 16) hy.1 (by omega) (by omega)
  rw [hv, ea, eb]; exact b4_and a ha b hb
theorem akZ_1 {t : Nat} (h1 : bt (nzW Z) (t : Int) = 1) (h2 : f t ≤ m) (h3 : awZ Z t m = 1) : akZ Z m f t = 1 := if_pos ⟨h1, h2, h3⟩
theorem akZ_n {t : Nat} (h : bt (nzW Z) (t : Int) = 1 → f t ≤ m → awZ Z t m = 1 → False) : akZ Z m f t = 0 := if_neg (fun z => h z.1 z.2.1 z.2.2)
theorem if1 {p : Prop} [Decidable p] (h : (if p then (1 : Int) else 0) = 1) : p := by
  by_cases q : p
  · exact q
  · rw [if_neg q] at h; omega
/-- nobody turns there -/
theorem elZ_n {t k : Nat} {H : Int} (hU : ∀ h : Nat, (h : Int) < nzc Z 1 → bt H (h : Int) = if bt (nzT Z (14 + t) 5) (h : Int) = 1 ∧ noZ Z t (h : Int) m = 1 then 1 else 0) (h0 : H = 0) (hG : GdN Z) (hk : (k : Int) < nzc Z 3) : ¬ elZ Z t m k = 1 := by
  intro q
  have b := hG.ch hk
  have z := hU (nzT Z 35 k).toNat (by omega)
  rw [h0, bt_z, show (((nzT Z 35 k).toNat : Nat) : Int) = nzT Z 35 k by omega] at z
  unfold elZ at q
  by_cases y : bt (nzT Z (14 + t) 5) (nzT Z 35 k) = 1 ∧ noZ Z t (nzT Z 35 k) m = 1
  · rw [if_pos y] at z; omega
  · rw [if_neg y] at q; omega
theorem mBi_s (u k : Nat) : mB Z m f (u + 1) k = if akZ Z m f u = 1 then tqB (u : Int) (mB Z m f u) (nzT Z (14 + u) 3) (elZ Z u m) k else mB Z m f u k := rfl
theorem mB_sk {t : Nat} (h : akZ Z m f t = 0 ∨ ∀ k : Nat, (k : Int) < nzc Z 3 → ¬ elZ Z t m k = 1) : ∀ k : Nat, (k : Int) < nzc Z 3 → mB Z m f (t + 1) k = mB Z m f t k ∧ mG Z m f t k = 0 := by
  intro k hk
  rcases h with h | h
  · rw [mBi_s, mG, if_neg (by omega), if_neg (by omega)]; exact ⟨rfl, rfl⟩
  · have g : tqG (mB Z m f t) (nzT Z (14 + t) 3) (elZ Z t m) k = 0 := tqG_n (fun z => h k hk z.2.2)
    rw [mBi_s, mG]
    by_cases a : akZ Z m f t = 1
    · rw [if_pos a, if_pos a, tqB_n g, g]; exact ⟨rfl, rfl⟩
    · rw [if_neg a, if_neg a]; exact ⟨rfl, rfl⟩
theorem mB_tk {t : Nat} (h : akZ Z m f t = 1) (k : Nat) : mB Z m f (t + 1) k = tqB (t : Int) (mB Z m f t) (nzT Z (14 + t) 3) (elZ Z t m) k := by rw [mBi_s, if_pos h]
theorem mG_tk {t : Nat} (h : akZ Z m f t = 1) : mG Z m f t = tqG (mB Z m f t) (nzT Z (14 + t) 3) (elZ Z t m) := by funext k; rw [mG, if_pos h]
theorem mK_tk {t : Nat} (h : akZ Z m f t = 1) : mK Z m f t = tqN (mB Z m f t) (nzT Z (14 + t) 3) (elZ Z t m) (nzc Z 3).toNat := by unfold mK; rw [mG_tk h, tqN_cn]
theorem mS_tk {t : Nat} (h : akZ Z m f t = 1) : mS Z m f t = cnM (fun k => if tqG (mB Z m f t) (nzT Z (14 + t) 3) (elZ Z t m) k = 1 ∧ nzC Z (nzT Z 35 k) m = 1 then 1 else 0) (nzc Z 3).toNat := by unfold mS; rw [mG_tk h]
theorem mK_sk {t : Nat} (h : ∀ k : Nat, (k : Int) < nzc Z 3 → mB Z m f (t + 1) k = mB Z m f t k ∧ mG Z m f t k = 0) : mK Z m f t = 0 := cnM_0 _ (fun k hk => (h k (by omega)).2)
theorem mS_sk {t : Nat} (h : ∀ k : Nat, (k : Int) < nzc Z 3 → mB Z m f (t + 1) k = mB Z m f t k ∧ mG Z m f t k = 0) : mS Z m f t = 0 := cnM_0 _ (fun k hk => if_neg (fun z => by have := (h k (by omega)).2; omega))
theorem mS_b (h8 : nzc Z 3 ≤ 8) (u : Nat) : 0 ≤ mS Z m f u ∧ mS Z m f u ≤ 8 := by
  have z := cnM_b (g := fun k => if mG Z m f u k = 1 ∧ nzC Z (nzT Z 35 k) m = 1 then 1 else 0) (nzc Z 3).toNat (fun k _ => if01)
  unfold mS; omega
/-! the turners, one by one -/
theorem TA1n (h : B8 v (fun k => if (k : Int) < nzc Z 3 ∧ ¬ mB Z m f l.toNat k = -2 then 1 else 0)) (h0 : 0 ≤ l) (hl : l' = l + 1) (q : ∀ k : Nat, (k : Int) < nzc Z 3 → mB Z m f (l.toNat + 1) k = mB Z m f l.toNat k ∧ mG Z m f l.toNat k = 0) : B8 v (fun k => if (k : Int) < nzc Z 3 ∧ ¬ mB Z m f l'.toNat k = -2 then 1 else 0) := h.cg (fun k hk => by
  rw [show l'.toNat = l.toNat + 1 by omega]
  by_cases z : (k : Int) < nzc Z 3
  · rw [(q k z).1]
  · rw [if_neg (fun w => z w.1), if_neg (fun w => z w.1)])
theorem TA1y (h : B8 v (fun k => if (k : Int) < nzc Z 3 ∧ ¬ mB Z m f l.toNat k = -2 then 1 else 0)) (h0 : 0 ≤ l) (hl : l' = l + 1) (a : akZ Z m f l.toNat = 1) (hw : B8 w (fun k => if (k : Int) < nzc Z 3 ∧ tqG (mB Z m f l.toNat) (nzT Z (14 + l.toNat) 3) (elZ Z l.toNat m) k = 1 then 1 else 0)) (ho : o = v ||| w) : B8 o (fun k => if (k : Int) < nzc Z 3 ∧ ¬ mB Z m f l'.toNat k = -2 then 1 else 0) := by
  rw [ho]
  refine (h.or hw).cg (fun k hk => ?_)
  rw [show l'.toNat = l.toNat + 1 by omega, mB_tk a]
  show _ = if (if (k : Int) < nzc Z 3 ∧ ¬ mB Z m f l.toNat k = -2 then (1 : Int) else 0) = 1 ∨ (if (k : Int) < nzc Z 3 ∧ tqG (mB Z m f l.toNat) (nzT Z (14 + l.toNat) 3) (elZ Z l.toNat m) k = 1 then (1 : Int) else 0) = 1 then (1 : Int) else 0
  have hC : ((k : Int) < nzc Z 3 ∧ ¬ tqB ((l.toNat : Nat) : Int) (mB Z m f l.toNat) (nzT Z (14 + l.toNat) 3) (elZ Z l.toNat m) k = -2) ↔ (((k : Int) < nzc Z 3 ∧ ¬ mB Z m f l.toNat k = -2) ∨ ((k : Int) < nzc Z 3 ∧ tqG (mB Z m f l.toNat) (nzT Z (14 + l.toNat) 3) (elZ Z l.toNat m) k = 1)) := by
    have g := tqG_01 (b := mB Z m f l.toNat) (h := nzT Z (14 + l.toNat) 3) (e := elZ Z l.toNat m) k
    constructor
    · intro w
      rcases g with y | y
      · rw [tqB_n y] at w; exact Or.inl w
      · exact Or.inr ⟨w.1, y⟩
    · intro w
      rcases w with w | w
      · rcases g with y | y
        · rw [tqB_n y]; exact w
        · rw [tqB_1 y]; exact ⟨w.1, by omega⟩
      · rw [tqB_1 w.2]; exact ⟨w.1, by omega⟩
  by_cases z : ((k : Int) < nzc Z 3 ∧ ¬ tqB ((l.toNat : Nat) : Int) (mB Z m f l.toNat) (nzT Z (14 + l.toNat) 3) (elZ Z l.toNat m) k = -2)
  · rw [if_pos z]
    rcases hC.mp z with w | w
    · rw [if_pos (Or.inl (if_pos w))]
    · rw [if_pos (Or.inr (if_pos w))]
  · rw [if_neg z, if_neg (fun q => z (hC.mpr (by
      rcases q with q | q
      · exact Or.inl (if1 q)
      · exact Or.inr (if1 q))))]
theorem TA2n (h : Nib v (fun k => if (k : Int) < nzc Z 3 then mB Z m f l.toNat k else -2)) (h0 : 0 ≤ l) (hl : l' = l + 1) (q : ∀ k : Nat, (k : Int) < nzc Z 3 → mB Z m f (l.toNat + 1) k = mB Z m f l.toNat k ∧ mG Z m f l.toNat k = 0) : Nib v (fun k => if (k : Int) < nzc Z 3 then mB Z m f l'.toNat k else -2) := h.cg (fun k hk => by
  rw [show l'.toNat = l.toNat + 1 by omega]
  by_cases z : (k : Int) < nzc Z 3
  · rw [if_pos z, if_pos z, (q k z).1]
  · rw [if_neg z, if_neg z])
theorem TA2y (h : Nib v (fun k => if (k : Int) < nzc Z 3 then tqB l (mB Z m f l.toNat) (nzT Z (14 + l.toNat) 3) (elZ Z l.toNat m) k else -2)) (h0 : 0 ≤ l) (hl : l' = l + 1) (a : akZ Z m f l.toNat = 1) : Nib v (fun k => if (k : Int) < nzc Z 3 then mB Z m f l'.toNat k else -2) := h.cg (fun k hk => by
  rw [show l'.toNat = l.toNat + 1 by omega, mB_tk a, show ((l.toNat : Nat) : Int) = l by omega])
theorem TA3n {g : Nat → Int} (h : ∀ u : Nat, (u : Int) < c4 → RwD I J r u (if (u : Int) < l then g u else 0)) (h0 : 0 ≤ l) (hl : l' = l + 1) (hg : g l.toNat = 0) : ∀ u : Nat, (u : Int) < c4 → RwD I J r u (if (u : Int) < l' then g u else 0) := fun u hu => (h u hu).cg (by
  by_cases z : u = l.toNat
  · subst z; rw [if_pos (by omega), if_neg (by omega)]; exact hg
  · by_cases y : (u : Int) < l
    · rw [if_pos y, if_pos (by omega)]
    · rw [if_neg y, if_neg (by omega)])
theorem TA3y {g : Nat → Int} {A : Int} (h : ∀ u : Nat, (u : Int) < c4 → RwD I J r u (if (u : Int) < l then g u else 0)) (h0 : 0 ≤ l) (h4 : l < c4) (hl : l' = l + 1) (k : RwD J J2 r l.toNat A ∧ ∀ j, ¬ j = l.toNat → J2 r j = J r j) (hg : A = g l.toNat) (b : 0 ≤ g l.toNat ∧ g l.toNat ≤ 8) : ∀ u : Nat, (u : Int) < c4 → RwD I J2 r u (if (u : Int) < l' then g u else 0) := fun u hu => by
  by_cases z : u = l.toNat
  · subst z
    have e := (h _ hu).tr k.1 (by rw [if_neg (by omega)]; omega) (by omega)
    exact e.cg (by rw [if_pos (by omega), if_neg (by omega)]; omega)
  · exact ((h u hu).kp (k.2 u z)).cg (by
      by_cases y : (u : Int) < l
      · rw [if_pos y, if_pos (by omega)]
      · rw [if_neg y, if_neg (by omega)])
theorem TA6n {p : Nat → Int} (h : ∀ u : Nat, (u : Int) < c4 → (J r u).toInt = if (u : Int) < l ∧ 0 < p u then m + nzT Z (14 + u) 4 else f u) (h0 : 0 ≤ l) (hl : l' = l + 1) (hp : p l.toNat = 0) : ∀ u : Nat, (u : Int) < c4 → (J r u).toInt = if (u : Int) < l' ∧ 0 < p u then m + nzT Z (14 + u) 4 else f u := fun u hu => by
  rw [h u hu]
  by_cases z : u = l.toNat
  · subst z; rw [if_neg (fun w => by omega), if_neg (fun w => by omega)]
  · by_cases y : (u : Int) < l ∧ 0 < p u
    · rw [if_pos y, if_pos ⟨by omega, y.2⟩]
    · rw [if_neg y, if_neg (fun w => y ⟨by omega, w.2⟩)]
theorem TA6y {p : Nat → Int} {A : Int} (h : ∀ u : Nat, (u : Int) < c4 → (J r u).toInt = if (u : Int) < l ∧ 0 < p u then m + nzT Z (14 + u) 4 else f u) (h0 : 0 ≤ l) (h4 : l < c4) (hl : l' = l + 1) (k : (J2 r l.toNat).toInt = (if 0 < A then m + nzT Z (14 + l.toNat) 4 else (J r l.toNat).toInt) ∧ ∀ j, ¬ j = l.toNat → J2 r j = J r j) (hp : A = p l.toNat) : ∀ u : Nat, (u : Int) < c4 → (J2 r u).toInt = if (u : Int) < l' ∧ 0 < p u then m + nzT Z (14 + u) 4 else f u := fun u hu => by
  by_cases z : u = l.toNat
  · subst z
    have e := h _ hu
    rw [if_neg (fun w => by omega)] at e
    rw [k.1, hp]
    by_cases y : 0 < p l.toNat
    · rw [if_pos y, if_pos ⟨by omega, y⟩]
    · rw [if_neg y, if_neg (fun w => y w.2)]; exact e
  · rw [k.2 u z, h u hu]
    by_cases y : (u : Int) < l ∧ 0 < p u
    · rw [if_pos y, if_pos ⟨by omega, y.2⟩]
    · rw [if_neg y, if_neg (fun w => y ⟨by omega, w.2⟩)]
end CzN6
