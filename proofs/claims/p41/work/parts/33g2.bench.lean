/-! ===== bits of cheeses; four bits a cheese ===== -/
theorem bt_X : ∀ h : Nat, h < 256 → ∀ v : Nat, v < 8 → ((((Int32.ofNat h).toUInt32 >>> ((Int32.ofNat v).toUInt32 &&& Int32.toUInt32 31)).toInt32) &&& 1).toInt = bt (h : Int) (v : Int) := by decide +kernel
def B8 (v : Int32) (f : Nat → Int) : Prop := 0 ≤ v.toInt ∧ v.toInt ≤ 255 ∧ ∀ k : Nat, k < 8 → bt v.toInt (k : Int) = f k
theorem B8.cg {v : Int32} {f g : Nat → Int} (h : B8 v f) (e : ∀ k : Nat, k < 8 → g k = f k) : B8 v g := ⟨h.1, h.2.1, fun k hk => (h.2.2 k hk).trans (e k hk).symm⟩
theorem b8_or : ∀ a : Nat, a < 256 → ∀ b : Nat, b < 256 → (Int32.ofNat a ||| Int32.ofNat b).toInt = ((a ||| b : Nat) : Int) := by
  intro a ha b hb
  have hab : a ||| b < 2 ^ 8 := Nat.or_lt_two_pow (by omega) (by omega)
  have e : Int32.ofNat a ||| Int32.ofNat b = Int32.ofNat (a ||| b) := by
    apply Int32.toBitVec_inj.mp
    show BitVec.ofNat 32 a ||| BitVec.ofNat 32 b = BitVec.ofNat 32 (a ||| b)
    exact (BitVec.ofNat_or).symm
  rw [e]
  exact (Int32.toInt_ofNat_of_lt (by omega)).trans rfl
theorem b8_xor : ∀ a : Nat, a < 256 → ∀ b : Nat, b < 256 → (Int32.ofNat a ^^^ Int32.ofNat b).toInt = ((a ^^^ b : Nat) : Int) := by
  intro a ha b hb
  have hab : a ^^^ b < 2 ^ 8 := Nat.xor_lt_two_pow (by omega) (by omega)
  have e : Int32.ofNat a ^^^ Int32.ofNat b = Int32.ofNat (a ^^^ b) := by
    apply Int32.toBitVec_inj.mp
    show BitVec.ofNat 32 a ^^^ BitVec.ofNat 32 b = BitVec.ofNat 32 (a ^^^ b)
    exact (BitVec.ofNat_xor).symm
  rw [e]
  exact (Int32.toInt_ofNat_of_lt (by omega)).trans rfl
theorem bt_tb (a k : Nat) : bt (a : Int) (k : Int) = if a.testBit k = true then 1 else 0 := by
  unfold bt pw
  rw [show ((k : Int)).toNat = k by omega]
  rw [Nat.testBit_eq_decide_div_mod_eq]
  have e : ((a : Int) / 2 ^ k % 2) = ((a / 2 ^ k % 2 : Nat) : Int) := by
    rw [Int.natCast_emod, Int.natCast_ediv, Int.natCast_pow]; rfl
  rw [e]
  have h : a / 2 ^ k % 2 < 2 := Nat.mod_lt _ (by decide)
  by_cases z : a / 2 ^ k % 2 = 1
  · rw [z]; simp
  · rw [show a / 2 ^ k % 2 = 0 by omega]; simp
theorem B8.or {v w : Int32} {f g : Nat → Int} (h : B8 v f) (k : B8 w g) : B8 (v ||| w) (fun j => if f j = 1 ∨ g j = 1 then 1 else 0) := by
  obtain ⟨a, ha, rfl, ea⟩ := i32_nat (n := 256) h.1 (by have := h.2.1; omega) (by omega)
  obtain ⟨b, hb, rfl, eb⟩ := i32_nat (n := 256) k.1 (by have := k.2.1; omega) (by omega)
  have hab : a ||| b < 2 ^ 8 := Nat.or_lt_two_pow (by omega) (by omega)
  have e := b8_or a ha b hb
  refine ⟨by rw [e]; omega, by rw [e]; omega, fun j hj => ?_⟩
  have h3 := h.2.2 j hj
  have k3 := k.2.2 j hj
  rw [ea, bt_tb] at h3
  rw [eb, bt_tb] at k3
  show _ = if f j = 1 ∨ g j = 1 then (1 : Int) else 0
  rw [e, bt_tb, Nat.testBit_or, ← h3, ← k3]
  cases a.testBit j <;> cases b.testBit j <;> simp
theorem B8.xor {v w : Int32} {f g : Nat → Int} (h : B8 v f) (k : B8 w g) : B8 (v ^^^ w) (fun j => if f j = g j then 0 else 1) := by
  obtain ⟨a, ha, rfl, ea⟩ := i32_nat (n := 256) h.1 (by have := h.2.1; omega) (by omega)
  obtain ⟨b, hb, rfl, eb⟩ := i32_nat (n := 256) k.1 (by have := k.2.1; omega) (by omega)
  have hab : a ^^^ b < 2 ^ 8 := Nat.xor_lt_two_pow (by omega) (by omega)
  have e := b8_xor a ha b hb
  refine ⟨by rw [e]; omega, by rw [e]; omega, fun j hj => ?_⟩
  have h3 := h.2.2 j hj
  have k3 := k.2.2 j hj
  rw [ea, bt_tb] at h3
  rw [eb, bt_tb] at k3
  show _ = if f j = g j then (0 : Int) else 1
  rw [e, bt_tb, Nat.testBit_xor, ← h3, ← k3]
  cases a.testBit j <;> cases b.testBit j <;> simp
theorem B8.z {v : Int32} (h : v.toInt = 0) : B8 v (fun _ => 0) := by
  obtain rfl : v = 0 := Int32.toInt_inj.mp (h.trans rfl)
  exact ⟨by decide, by decide, by decide⟩
theorem b8_sh : ∀ k : Nat, k < 8 → 0 ≤ ((1 : Int32) <<< (Int32.ofNat k &&& 31)).toInt ∧ ((1 : Int32) <<< (Int32.ofNat k &&& 31)).toInt ≤ 255 ∧ ∀ h : Nat, h < 8 → bt ((1 : Int32) <<< (Int32.ofNat k &&& 31)).toInt (h : Int) = if h = k then 1 else 0 := by decide +kernel
theorem B8.sh {o v : Int32} {c : Nat} (ho : o.toInt = 1) (hv : v.toInt = (c : Int)) (hc : c < 8) : B8 (o <<< (v &&& 31)) (fun j => if j = c then 1 else 0) := by
  obtain rfl : o = 1 := Int32.toInt_inj.mp (ho.trans rfl)
  obtain ⟨a, ha, rfl, ea⟩ := i32_nat (n := 8) (x := v) (by omega) (by omega) (by omega)
  obtain rfl : a = c := by omega
  exact b8_sh a ha
/-- the four bits at y -/
def nbW (w y : Int32) : Int32 := ((w.toUInt32 >>> (y.toUInt32 &&& Int32.toUInt32 31)).toInt32) &&& 15
theorem nbW_or (w x y : Int32) : nbW (w ||| x) y = nbW w y ||| nbW x y := by
  apply Int32.toBitVec_inj.mp
  show (((w.toBitVec ||| x.toBitVec) >>> _) &&& _ : BitVec 32) = ((w.toBitVec >>> _) &&& _) ||| ((x.toBitVec >>> _) &&& _)
  simp only [BitVec.ushiftRight_eq', BitVec.ushiftRight_or_distrib, BitVec.and_or_distrib_right]
theorem nb_one : ∀ t : Nat, t < 6 → ∀ c : Nat, c < 8 → ∀ k : Nat, k < 8 → nbW (Int32.ofNat t <<< (Int32.ofNat (4 * c) &&& 31)) (Int32.ofNat (4 * k)) = if k = c then Int32.ofNat t else 0 := by decide +kernel
def Nib (w : Int32) (f : Nat → Int) : Prop := ∀ k : Nat, k < 8 → (nbW w (Int32.ofNat (4 * k))).toInt = if f k = -2 then 0 else f k + 1
theorem Nib.cg {v : Int32} {f g : Nat → Int} (h : Nib v f) (e : ∀ k : Nat, k < 8 → g k = f k) : Nib v g := fun k hk => by rw [e k hk]; exact h k hk
theorem Nib.z {v : Int32} (h : v.toInt = 0) : Nib v (fun _ => -2) := by
  obtain rfl : v = 0 := Int32.toInt_inj.mp (h.trans rfl)
  intro k hk
  rw [if_pos rfl]
  exact (by decide : ∀ k : Nat, k < 8 → (nbW 0 (Int32.ofNat (4 * k))).toInt = 0) k hk
theorem i6_or : ∀ a : Nat, a < 6 → ((0 : Int32) ||| Int32.ofNat a).toInt = (a : Int) := by decide
theorem Nib.up {w x y : Int32} {f : Nat → Int} {c : Nat} {t : Int} (h : Nib w f) (hc : c < 8) (hf : f c = -2) (h0 : 0 ≤ t) (h4 : t ≤ 4) (hx : x.toInt = t + 1) (hy : y.toInt = 4 * (c : Int)) : Nib (w ||| (x <<< (y &&& 31))) (fun k => if k = c then t else f k) := by
  obtain ⟨a, ha, rfl, ea⟩ := i32_nat (n := 6) (x := x) (by omega) (by omega) (by omega)
  obtain ⟨b, hb, rfl, eb⟩ := i32_nat (n := 29) (x := y) (by omega) (by omega) (by omega)
  obtain rfl : b = 4 * c := by omega
  intro k hk
  rw [nbW_or, nb_one a ha c hc k hk]
  have hw := h k hk
  by_cases z : k = c
  · subst z
    rw [if_pos rfl]
    show _ = if (if k = k then t else f k) = -2 then 0 else (if k = k then t else f k) + 1
    rw [if_pos rfl, if_neg (by omega)]
    rw [if_pos hf] at hw
    rw [show nbW w (Int32.ofNat (4 * k)) = 0 from Int32.toInt_inj.mp (hw.trans rfl), i6_or a ha]; omega
  · rw [if_neg z]
    show _ = if (if k = c then t else f k) = -2 then 0 else (if k = c then t else f k) + 1
    rw [if_neg z, Int32.or_zero]; exact hw
/-- a row's number that grew -/
def RwD (I J : cz_I) (r t : Nat) (D : Int) : Prop := ∃ d : Int32, J r t = I r t + d ∧ d.toInt = D
def RwV (I J : cz_I) (r : Nat) (D : Nat → Int) : Prop := ∀ t : Nat, t < 8 → RwD I J r t (D t)
section CzN2
variable {I J J2 : cz_I} {r t ix : Nat} {D D' : Int}
theorem RwD.z (h : J r t = I r t) (hD : D = 0) : RwD I J r t D := ⟨0, by rw [h]; exact (Int32.add_zero _).symm, by rw [hD]; rfl⟩
theorem RwD.kp (h : RwD I J r t D) (e : J2 r t = J r t) : RwD I J2 r t D := by
  obtain ⟨d, h1, h2⟩ := h
  exact ⟨d, e.trans h1, h2⟩
theorem RwD.cg (h : RwD I J r t D) (e : D' = D) : RwD I J r t D' := e ▸ h
theorem RwD.ad {v w x : Int32} {A : Int} (h : RwD I J r t D) (hv : J r t = v) (hw : w = v + x) (e : J2 r t = w) (hx : x.toInt = A) (hD : D' = D + A) (b1 : -1000 ≤ D ∧ D ≤ 1000) (b2 : -1000 ≤ A ∧ A ≤ 1000) : RwD I J2 r t D' := by
  obtain ⟨d, h1, h2⟩ := h
  refine ⟨d + x, ?_, ?_⟩
  · rw [e, hw, ← hv, h1, Int32.add_assoc]
  · rw [ti_add (by omega) (by omega)]; omega
theorem RwD.tr (h : RwD I J r t D) (g : RwD J J2 r t D') (b1 : -1000 ≤ D ∧ D ≤ 1000) (b2 : -1000 ≤ D' ∧ D' ≤ 1000) : RwD I J2 r t (D + D') := by
  obtain ⟨d, h1, h2⟩ := h
  obtain ⟨d', g1, g2⟩ := g
  exact ⟨d + d', by rw [g1, h1, Int32.add_assoc], by rw [ti_add (by omega) (by omega)]; omega⟩
/-- by numbers, without a turn-over -/
theorem RwD.to {A : Int} (h : RwD I J r t D) (hA : (I r t).toInt = A) (b1 : -100000 ≤ A ∧ A ≤ 100000) (b2 : -1000 ≤ D ∧ D ≤ 1000) : (J r t).toInt = A + D := by
  obtain ⟨d, h1, h2⟩ := h
  rw [h1, ti_add (by omega) (by omega)]; omega
theorem an01 : ∀ a : Nat, a < 2 → ∀ b : Nat, b < 2 → (Int32.ofNat a &&& Int32.ofNat b).toInt = (if a = 1 ∧ b = 1 then 1 else 0) ∧ (Int32.ofNat a &&& (Int32.ofNat b ^^^ (-1))).toInt = (if a = 1 ∧ b = 0 then 1 else 0) := by decide
theorem an_01 {x y : Int32} (hx : 0 ≤ x.toInt ∧ x.toInt ≤ 1) (hy : 0 ≤ y.toInt ∧ y.toInt ≤ 1) : (x &&& y).toInt = if x.toInt = 1 ∧ y.toInt = 1 then 1 else 0 := by
  obtain ⟨a, ha, rfl, ea⟩ := i32_nat (n := 2) hx.1 (by omega) (by omega)
  obtain ⟨b, hb, rfl, eb⟩ := i32_nat (n := 2) hy.1 (by omega) (by omega)
  rw [(an01 a ha b hb).1, ea, eb]
  by_cases p : a = 1 ∧ b = 1
  · rw [if_pos p, if_pos (by omega)]
  · rw [if_neg p, if_neg (by omega)]
theorem ann_01 {x y n : Int32} (hx : 0 ≤ x.toInt ∧ x.toInt ≤ 1) (hy : 0 ≤ y.toInt ∧ y.toInt ≤ 1) (hn : n.toInt = -1) : (x &&& (y ^^^ n)).toInt = if x.toInt = 1 ∧ y.toInt = 0 then 1 else 0 := by
  obtain rfl : n = -1 := Int32.toInt_inj.mp (hn.trans rfl)
  obtain ⟨a, ha, rfl, ea⟩ := i32_nat (n := 2) hx.1 (by omega) (by omega)
  obtain ⟨b, hb, rfl, eb⟩ := i32_nat (n := 2) hy.1 (by omega) (by omega)
  rw [(an01 a ha b hb).2, ea, eb]
  by_cases p : a = 1 ∧ b = 0
  · rw [if_pos p, if_pos (by omega)]
  · rw [if_neg p, if_neg (by omega)]
end CzN2
