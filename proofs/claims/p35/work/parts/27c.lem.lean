section CzAc
variable {X : cz_X} {M : cz_M} {pc : Nat} {ls : Nat → Option Value} {st : List Value} {cn : Nat} {K N : Nat → Nat} {I I' : cz_I} {R R' : cz_R} {L : cz_L} {n w : Nat} {T : Nat → Nat} {d : Int} {wi wr : List Nat} {I0 : cz_I} {R0 : cz_R}
theorem q_aastE {k kd r y : Nat} {i : Int32} (hd : decode (cz_cc M) pc = .ok (.aastore, 1)) (hk : K k = kd) (h1 : 17 ≤ kd) (h2 : kd < 22) (hy : K y = cz_el kd) (hi : vp_in i (N k)) (hS : St T cn K N d wi wr I0 R0 I R) (t : T k = r) (hx : okR T (rrf r i.toNatClampNeg) (some y)) (mf : mefR r i.toNatClampNeg = true) (hwi : wm wr r i.toNatClampNeg = true)
    (kk : ∀ R' : cz_R, St T cn K N d wi wr I0 R0 I R' → R' k i.toNatClampNeg = some y → (∀ a j, ¬ (a = k ∧ j = i.toNatClampNeg) → R' a j = R a j) → Tr X M (pc + 1) ls st cn K N I R' L n w) : Tr X M pc ls (.ref y :: .int i :: .ref k :: st) cn K N I R L n w := tr_aast hd hk h1 h2 hy hi (kk _ (hS.putR t hx mf hwi) uR_at (fun _ _ q => uR_ne q))
/-- a row of twelve, its first put last -/
def RotR (R R' : cz_R) (A : Nat) : Prop := (∀ k : Nat, k < 11 → R' A k = R A (k + 1)) ∧ R' A 11 = R A 0
def RotI (R R' : cz_R) (A : Nat) (i : Int) : Prop := ∀ k : Nat, ((k : Int) + 1 < i → R' A k = R A (k + 1)) ∧ (i ≤ (k : Int) + 1 → R' A k = R A k)
theorem RotI.rf {A : Nat} {i : Int} (h : i ≤ 1) : RotI R R A i := fun k => ⟨fun q => by omega, fun _ => rfl⟩
theorem RotI.stp {R2 : cz_R} {A j y : Nat} {i i' : Int} (h : RotI R R' A i) (hj : (j : Int) + 1 = i) (hi : i' = i + 1) (hy : R' A (j + 1) = some y) (e : R2 A j = some y) (f : ∀ a k, ¬ (a = A ∧ k = j) → R2 a k = R' a k) : RotI R R2 A i' := by
  subst hi
  intro k
  refine ⟨fun q => ?_, fun q => ?_⟩
  · by_cases z : k = j
    · subst z; rw [e, ← hy, (h (k + 1)).2 (by exact om_e886ecac hj)]
    · rw [f A k (fun x => z x.2), (h k).1 (by exact om_3096f819 hj q z)]
  · rw [f A k (fun x => by exact om_c1aa7739 hj q x.2), (h k).2 (by exact om_badb57b9 q)]
theorem RotI.fin {R2 : cz_R} {A y : Nat} {i : Int} (h : RotI R R' A i) (hi : i = 12) (hy : R A 0 = some y) (e : R2 A 11 = some y) (f : ∀ a k, ¬ (a = A ∧ k = 11) → R2 a k = R' a k) : RotR R R2 A := by
  subst hi
  exact ⟨fun k hk => by rw [f A k (fun x => by exact om_a435e1af hk x.2), (h k).1 (by exact om_31638b25 hk)], by rw [e, hy]⟩
/-- what is kept of an act: the state ahead of it, in a place of its own -/
def KeC (T : Nat → Nat) (I : cz_I) (R : cz_R) (I' : cz_I) (R' : cz_R) (A nw : Nat) (n : Int) : Prop := ∃ h, T h = 10 ∧ R' A (if n < 12 then n.toNat else 11) = some h ∧ FrO 10 h T I I' ∧ (I' h 0).toInt = (I nw 0).toInt ∧ (I' h 1).toInt = (I nw 1).toInt ∧ (I' h 2).toInt = (I nw 2).toInt ∧ (n < 12 → R' = R) ∧ (¬ n < 12 → RotR R R' A)
theorem KeC.kp {T : Nat → Nat} {I I1 I2 : cz_I} {R R' : cz_R} {A nw : Nat} {n : Int} (h : KeC T I R I1 R' A nw n) (f : ∀ a j, T a = 10 → I2 a j = I1 a j) : KeC T I R I2 R' A nw n := by
  obtain ⟨h, th, h1, h2, h3, h4, h5, h6, h7⟩ := h
  exact ⟨h, th, h1, fun a j ta hn => (f a j ta).trans (h2 a j ta hn), by rw [f h 0 th]; exact h3, by rw [f h 1 th]; exact h4, by rw [f h 2 th]; exact h5, h6, h7⟩
def SmC (T : Nat → Nat) (I : cz_I) (R : cz_R) (I' : cz_I) (R' : cz_R) : Prop := R' = R ∧ ∀ a j, T a = 8 ∨ T a = 10 ∨ T a = 11 → I' a j = I a j
theorem SmC.kp {T : Nat → Nat} {I I1 I2 : cz_I} {R R' : cz_R} (h : SmC T I R I1 R') (f : ∀ a j, T a = 8 ∨ T a = 10 ∨ T a = 11 → I2 a j = I1 a j) : SmC T I R I2 R' := ⟨h.1, fun a j ta => (f a j ta).trans (h.2 a j ta)⟩
/-- an act is kept, its number goes up -/
def KpC (T : Nat → Nat) (I : cz_I) (R : cz_R) (I' : cz_I) (R' : cz_R) (x : Nat) : Prop := ∀ nw pa A, R x 6 = some nw → R x 7 = some pa → R pa 1 = some A → KeC T I R I' R' A nw (I pa 0).toInt ∧ ((I pa 0).toInt < 12 → (I' pa 0).toInt = (I pa 0).toInt + 1) ∧ (¬ (I pa 0).toInt < 12 → (I' pa 0).toInt = 12)
/-- a state of the past has come back -/
def BkC (I : cz_I) (R : cz_R) (I' : cz_I) (b nw : Nat) (k : Nat) : Prop := ∀ h, R b k = some h → (I' nw 0).toInt = (I h 0).toInt ∧ (I' nw 1).toInt = (I h 1).toInt ∧ (I' nw 2).toInt = (I h 2).toInt
/-- a state is kept, in a place of its own -/
def MkC (T : Nat → Nat) (I : cz_I) (R : cz_R) (I' : cz_I) (b nw : Nat) (k : Nat) : Prop := ∀ h, R b k = some h → T h = 10 ∧ FrO 10 h T I I' ∧ (I' h 0).toInt = (I nw 0).toInt ∧ (I' h 1).toInt = (I nw 1).toInt ∧ (I' h 2).toInt = (I nw 2).toInt
theorem BkC.kp {I I1 I2 : cz_I} {R : cz_R} {b nw k : Nat} (h : BkC I R I1 b nw k) (f : ∀ j, I2 nw j = I1 nw j) : BkC I R I2 b nw k := fun p hp => by rw [f 0, f 1, f 2]; exact h p hp
theorem MkC.kp {T : Nat → Nat} {I I1 I2 : cz_I} {R : cz_R} {b nw k : Nat} (h : MkC T I R I1 b nw k) (f : ∀ a j, T a = 10 → I2 a j = I1 a j) : MkC T I R I2 b nw k := fun p hp => by
  obtain ⟨t, h2, h3, h4, h5⟩ := h p hp
  exact ⟨t, fun a j ta hn => (f a j ta).trans (h2 a j ta hn), by rw [f p 0 t]; exact h3, by rw [f p 1 t]; exact h4, by rw [f p 2 t]; exact h5⟩
/-- the next number drawn -/
def dw (s : Int) : Int := (75 * s + 74) % 65537
def dwm (s m : Int) : Int := dw s % m
theorem q_iremV {x y : Int32} (hd : decode (cz_cc M) pc = .ok (.irem, 1)) (h0 : 0 ≤ x.toInt) (h1 : 0 < y.toInt) (k : ∀ v : Int32, v.toInt = x.toInt % y.toInt → Tr X M (pc + 1) ls (.int v :: st) cn K N I R L n w) : Tr X M pc ls (.int y :: .int x :: st) cn K N I R L n w := tr_irem hd (fun q => by have := h1; rw [q] at this; exact absurd this (by decide)) (k _ (ti_remE h0 h1))
theorem ti_lremE {x y : Int64} (h0 : 0 ≤ x.toInt) (h1 : 0 < y.toInt) : (x - x / y * y).toInt = x.toInt % y.toInt := by
  have hx := x.toInt_lt
  have e1 : (x / y).toInt = x.toInt / y.toInt := by
    rw [Int64.toInt_div, Int.tdiv_eq_ediv_of_nonneg h0]
    have q1 : 0 ≤ x.toInt / y.toInt := Int.ediv_nonneg h0 (by exact om_087f8ebc h1)
    have q2 : x.toInt / y.toInt ≤ x.toInt := Int.ediv_le_self _ h0
    exact Int.bmod_eq_of_le (by exact om_a084cfe6 q1) (by omega)
  have h3 : 0 ≤ x.toInt / y.toInt * y.toInt ∧ x.toInt / y.toInt * y.toInt ≤ x.toInt := ⟨Int.mul_nonneg (Int.ediv_nonneg h0 (by exact om_087f8ebc h1)) (by exact om_087f8ebc h1), Int.ediv_mul_le _ (by exact om_dd948c47 h1)⟩
  have e2 : (x / y * y).toInt = x.toInt / y.toInt * y.toInt := by
    rw [Int64.toInt_mul, e1]; exact Int.bmod_eq_of_le (by exact om_70e30cfb h3.1) (by omega)
  have e3 : (x - x / y * y).toInt = x.toInt - x.toInt / y.toInt * y.toInt := by
    rw [Int64.toInt_sub, e2]; exact Int.bmod_eq_of_le (by exact om_f47698d4 h3.2 e2) (by omega)
  have h6 := Int.emod_def x.toInt y.toInt
  rw [Int.mul_comm] at h6
  exact om_3e20ef5c e2 e3 h6
theorem q_lremV {x y : Int64} (hd : decode (cz_cc M) pc = .ok (.lrem, 1)) (h0 : 0 ≤ x.toInt) (h1 : 0 < y.toInt) (k : ∀ v : Int64, v.toInt = x.toInt % y.toInt → Tr X M (pc + 1) ls (.long v :: st) cn K N I R L n w) : Tr X M pc ls (.long y :: .long x :: st) cn K N I R L n w := tr_lrem hd (fun q => by have := h1; rw [q] at this; exact absurd this (by decide)) (k _ (ti_lremE h0 h1))
end CzAc
/-! ===== the reference's rows ===== -/
section CzAm
variable {I I1 I2 : cz_I} {w p : Nat} {n b l : Int} {T : Nat → Nat}
/-- what keeps does: w is put behind the acts, the oldest of twelve goes -/
def KeM (I I' : cz_I) (w p : Nat) (n : Int) : Prop := ∀ c : Nat, c < 15 → (∀ i : Nat, (i : Int) < (if n < 12 then n else 11) → I' p (15 * i + c) = I p (15 * (if n < 12 then i else i + 1) + c)) ∧ I' p (15 * (if n < 12 then n.toNat else 11) + c) = I w c
def ShI (I I' : cz_I) (p : Nat) (l : Int) : Prop := ∀ k : Nat, ((k : Int) < l → I' p k = I p (k + 15)) ∧ (l ≤ (k : Int) → I' p k = I p k)
/-- below b all as G says, behind it l of w -/
def CpI (G : Nat → Int32) (I I' : cz_I) (w p : Nat) (b l : Int) : Prop := (∀ k : Nat, (k : Int) < b → I' p k = G k) ∧ ∀ c : Nat, (c : Int) < l → I' p (b.toNat + c) = I w c
/-- l of row p from b on stand in w -/
def CwI (I I' : cz_I) (w p : Nat) (b l : Int) : Prop := ∀ c : Nat, (c : Int) < l → I' w c = I p (b.toNat + c)
theorem ShI.stp {j : Nat} {v : Int32} {l' : Int} (h : ShI I I1 p l) (hj : (j : Int) = l) (hl : l' = l + 1) (hv : I1 p (j + 15) = v) (e : I2 p j = v) (f : ∀ a k, ¬ (a = p ∧ k = j) → I2 a k = I1 a k) : ShI I I2 p l' := by
  subst hl
  intro k
  refine ⟨fun q => ?_, fun q => ?_⟩
  · by_cases z : k = j
    · subst z; rw [e, ← hv, (h (k + 15)).2 (by exact om_adf864d0 hj)]
    · rw [f p k (fun x => z x.2), (h k).1 (by exact om_9191a836 hj q z)]
  · rw [f p k (fun x => by exact om_1e0b7959 hj q x.2), (h k).2 (by exact om_6e29c78e q)]
theorem CpI.stp {G : Nat → Int32} {j : Nat} {l' : Int} {v : Int32} (h : CpI G I I1 w p b l) (h0 : 0 ≤ b) (h1 : 0 ≤ l) (hj : (j : Int) = b + l) (hl : l' = l + 1) (hv : I w l.toNat = v) (e : I2 p j = v) (f : ∀ a k, ¬ (a = p ∧ k = j) → I2 a k = I1 a k) : CpI G I I2 w p b l' := by
  subst hl
  refine ⟨fun k hk => ?_, fun c hc => ?_⟩
  · rw [f p k (fun x => by exact om_89ab44ac h1 hj hk x.2)]; exact h.1 k hk
  · by_cases z : (c : Int) = l
    · rw [show b.toNat + c = j by exact om_58c60a2a h0 hj z, e, ← hv]; congr 1; exact om_ece70136 z
    · rw [f p _ (fun x => by exact om_39aab948 h0 hj z x.2)]; exact h.2 c (by exact om_9cf3fb71 hc z)
theorem CwI.stp {j : Nat} {l' : Int} {v : Int32} (h : CwI I I1 w p b l) (h1 : 0 ≤ l) (hj : (j : Int) = l) (hl : l' = l + 1) (hv : I p (b.toNat + l.toNat) = v) (e : I2 w j = v) (f : ∀ a k, ¬ (a = w ∧ k = j) → I2 a k = I1 a k) : CwI I I2 w p b l' := by
  subst hl
  intro c hc
  by_cases z : (c : Int) = l
  · rw [show c = j by exact om_e23f94fb hj z, e, ← hv]; congr 2; exact om_89179481 hj z
  · rw [f w _ (fun x => by exact om_13238382 hj z x.2)]; exact h c (by exact om_5ad5dd4f hj hc z)
theorem KeM.of1 (h : CpI (fun k => I p k) I I1 w p b l) (hb : b = 15 * n) (hl : 15 ≤ l) (h0 : 0 ≤ n) (h1 : n < 12) (f : ∀ k, I2 p k = I1 p k) : KeM I I2 w p n := by
  intro c hc
  rw [if_pos h1, if_pos h1]
  refine ⟨fun i hi => ?_, ?_⟩
  · rw [if_pos h1, f, h.1 _ (by exact om_0357a8d9 hb hc hi)]
  · rw [f, show 15 * n.toNat + c = b.toNat + c by exact om_afe0d0e6 hb h0 h1, h.2 c (by exact om_3038492a hl hc)]
theorem KeM.of2 (h : CpI (fun k => I p (k + 15)) I I1 w p b l) (hb : b = 165) (hl : 15 ≤ l) (h1 : ¬ n < 12) (f : ∀ k, I2 p k = I1 p k) : KeM I I2 w p n := by
  intro c hc
  rw [if_neg h1, if_neg h1]
  refine ⟨fun i hi => ?_, ?_⟩
  · rw [if_neg h1, f, h.1 _ (by exact om_6bab1109 hb hc hi)]
    show I p (15 * i + c + 15) = _
    rw [show 15 * i + c + 15 = 15 * (i + 1) + c by exact om_c8490318]
  · rw [f, show 15 * 11 + c = b.toNat + c by exact om_ac9bac56 hb, h.2 c (by exact om_3038492a hl hc)]
theorem KeM.kp {J J1 J2 : cz_I} (h : KeM J J1 w p n) (f1 : ∀ k, J p k = I p k) (f2 : ∀ k, J w k = I w k) (f3 : ∀ k, J2 p k = J1 p k) : KeM I J2 w p n := by
  intro c hc
  obtain ⟨h1, h2⟩ := h c hc
  refine ⟨fun i hi => ?_, ?_⟩
  · rw [f3, h1 i hi, f1]
  · rw [f3, h2, f2]
end CzAm
theorem bt_01 (h v : Int) : bt h v = 0 ∨ bt h v = 1 := by unfold bt; exact om_fbe6808b
theorem bt_allW : ∀ h : Nat, h < 64 → ∀ v : Nat, v < 6 → ((((Int32.ofNat h).toUInt32 >>> ((Int32.ofNat v).toUInt32 &&& Int32.toUInt32 31)).toInt32) &&& 1).toInt = bt (h : Int) (v : Int) := by decide +kernel
theorem ha_allW : ∀ h : Nat, h < 64 → ∀ v : Nat, v < 6 → (((Int32.ofNat h >>> (Int32.ofNat v &&& 31)) &&& 1).toInt = bt (h : Int) (v : Int)) := by decide +kernel
theorem xo_allW : ∀ h : Nat, h < 64 → ∀ v : Nat, v < 6 → 0 ≤ (Int32.ofNat h ^^^ ((1 : Int32) <<< (Int32.ofNat v &&& 31))).toInt ∧ (Int32.ofNat h ^^^ ((1 : Int32) <<< (Int32.ofNat v &&& 31))).toInt ≤ 63 := by decide +kernel
theorem xo_b {h v : Int32} (h0 : 0 ≤ h.toInt ∧ h.toInt ≤ 63) (h1 : 0 ≤ v.toInt ∧ v.toInt ≤ 5) : 0 ≤ (h ^^^ ((1 : Int32) <<< (v &&& 31))).toInt ∧ (h ^^^ ((1 : Int32) <<< (v &&& 31))).toInt ≤ 63 := by
  obtain ⟨a, ha, rfl, ea⟩ := i32_nat (n := 64) h0.1 (by exact om_32265370 h0.2 h0.1) (by exact om_75af46b6)
  obtain ⟨b, hb, rfl, eb⟩ := i32_nat (n := 6) h1.1 (by exact om_f219ba62 h1.2 h1.1) (by exact om_665e9967)
  exact xo_allW a ha b hb
set_option maxHeartbeats 1000000 in
theorem f_X10_bitW {l : Launch} {cn : Nat} {K N : Nat → Nat} {I0 : cz_I} {R0 : cz_R} {L0 : cz_L} {x0 x1 : Int32} (h0 : 0 ≤ x0.toInt ∧ x0.toInt ≤ 63) (h1 : 0 ≤ x1.toInt ∧ x1.toInt ≤ 5) : ConE l mX10_bit [.int x0, .int x1] cn K N I0 R0 L0 (ca_i (fun v cn' K' N' I' R' L' => cn = cn' ∧ K = K' ∧ N = N' ∧ I0 = I' ∧ R0 = R' ∧ L0 = L' ∧ (v.toInt = (bt x0.toInt x1.toInt)) ∧ True)) := by
  refine ConE.of (by decide +kernel) rfl (Nat.le_of_ble_eq_true rfl) rfl (fun X hX hZ hE => ?_)
  subst hX
  refine tr_iload_n dX10_bit_0 rfl ?_
  refine tr_iload_n dX10_bit_1 rfl ?_
  refine tr_iushr dX10_bit_2 ?_
  refine tr_iconst (v := 1) dX10_bit_3 rfl ?_
  refine tr_iand dX10_bit_4 ?_
  refine tr_iret hZ dX10_bit_5 rfl (by decide) (by decide) ⟨_, rfl, rfl, rfl, rfl, rfl, rfl, rfl, ?_, trivial⟩
  obtain ⟨a, ha, rfl, ea⟩ := i32_nat (n := 64) h0.1 (by exact om_32265370 h0.2 h0.1) (by exact om_75af46b6)
  obtain ⟨b, hb2, rfl, eb⟩ := i32_nat (n := 6) h1.1 (by exact om_f219ba62 h1.2 h1.1) (by exact om_665e9967)
  rw [ea, eb]
  exact bt_allW a ha b hb2
set_option maxHeartbeats 1000000 in
theorem f_X12_hasW {l : Launch} {cn : Nat} {K N : Nat → Nat} {I0 : cz_I} {R0 : cz_R} {L0 : cz_L} {x0 x1 : Int32} (h0 : 0 ≤ x0.toInt ∧ x0.toInt ≤ 63) (h1 : 0 ≤ x1.toInt ∧ x1.toInt ≤ 5) : ConE l mX12_has [.int x0, .int x1] cn K N I0 R0 L0 (ca_i (fun v cn' K' N' I' R' L' => cn = cn' ∧ K = K' ∧ N = N' ∧ I0 = I' ∧ R0 = R' ∧ L0 = L' ∧ (0 ≤ v.toInt ∧ v.toInt ≤ 1) ∧ (v.toInt = (bt x0.toInt x1.toInt)) ∧ True)) := by
  refine ConE.of (by decide +kernel) rfl (Nat.le_of_ble_eq_true rfl) rfl (fun X hX hZ hE => ?_)
  subst hX
  obtain ⟨a, ha, rfl, ea⟩ := i32_nat (n := 64) h0.1 (by exact om_32265370 h0.2 h0.1) (by exact om_75af46b6)
  obtain ⟨b, hb2, rfl, eb⟩ := i32_nat (n := 6) h1.1 (by exact om_f219ba62 h1.2 h1.1) (by exact om_665e9967)
  have hv := ha_allW a ha b hb2
  have hr : bt (a : Int) (b : Int) = 0 ∨ bt (a : Int) (b : Int) = 1 := by unfold bt; exact om_78312606
  refine tr_iload_n dX12_has_0 rfl ?_
  refine tr_iload_n dX12_has_1 rfl ?_
  refine tr_ishr dX12_has_2 ?_
  refine tr_iconst (v := 1) dX12_has_3 rfl ?_
  refine tr_iand dX12_has_4 ?_
  refine q_iconst dX12_has_5 (by decide) ?_
  intro v5 e5
  refine q_icmp_ne 13 dX12_has_6 (by decide) (fun h => ?_) (fun h => ?_)
  · refine q_iconst dX12_has_13 (by decide) ?_
    intro v6 e6
    exact tr_zret hZ dX12_has_14 rfl (ti_b01 (by exact om_d99fa9e4 e6) (by exact om_d3de7ec9 e6)) (by decide) (by decide) ⟨v6, rfl, rfl, rfl, rfl, rfl, rfl, rfl, (by exact om_3b50ecb9 e6), (by rw [ea, eb]; exact om_19cd2966 hv hr e5 h e6), trivial⟩
  · refine q_iconst dX12_has_9 (by decide) ?_
    intro v6 e6
    refine tr_goto 14 dX12_has_10 (by decide) ?_
    exact tr_zret hZ dX12_has_14 rfl (ti_b01 (by exact om_f9079521 e6) (by exact om_e6632817 e6)) (by decide) (by decide) ⟨v6, rfl, rfl, rfl, rfl, rfl, rfl, rfl, (by exact om_d753bc65 e6), (by rw [ea, eb]; exact om_c782e132 hv e5 h e6), trivial⟩
