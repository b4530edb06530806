/-! ===== level N: the class's own night, by numbers ===== -/
section CzN18
variable {T : Nat → Nat} {cn : Nat} {K N : Nat → Nat} {d d' : Int} {wi wr : List Nat} {I I' I8 I9 J : cz_I} {R R' R8 R9 : cz_R} {x m : Nat} {ha n mk : Int} {c : Nat → Int} {E X : Nat → Nat → Int} {s s' : Nat → Int} {g q : Nat → Nat → Int}
theorem CVw.s0q {nw : Nat} (h : CVw I R x ha c E s n mk g q) (h6 : R x 6 = some nw) : (I nw 0).toInt = s 0 := by
  obtain ⟨al, dr, nw', pa, A, B, ⟨-, -, -, p4, -⟩, -, -, -, ⟨t0, -⟩, -⟩ := h
  obtain rfl := Option.some.inj (p4.symm.trans h6)
  exact t0
def NgN (I : cz_I) (R : cz_R) (x : Nat) (c : Nat → Int) (E : Nat → Nat → Int) (s : Nat → Int) (X : Nat → Nat → Int) : Prop :=
  ((I x 9).toInt = 1 → ∀ sk, R x 8 = some sk → Bts (I sk 1) (fun j => if (j : Int) < c 1 then 1 else 0) ∧ StR I R sk (c 0) (stI X (-1) ((c 2).toNat + (s 1).toNat) (c 1) (alE E))) ∧
  ((I x 11).toInt = 1 → (I x 9).toInt = 1 ∧ ∀ n al sk, R x 10 = some n → R x 2 = some al → R x 8 = some sk → R n 0 = some al ∧ R n 1 = some sk ∧ (I n 2).toInt = s 0 ∧ NgR I R n (mkZ X (-1) ((c 2).toNat + (s 1).toNat) E c (s 0) (pw (c 4) - 1)) (c 0).toNat)
theorem NgN.z (h9 : (I x 9).toInt = 0) (h11 : (I x 11).toInt = 0) : NgN I R x c E s X := ⟨fun w => by omega, fun w => by omega⟩
def rdN (q : Nat) : Bool := Nat.beq q 12 || Nat.beq q 13 || (Nat.ble 43 q && Nat.ble q 52)
theorem NgN.cg (h : NgN I R x c E s X) (hW : Wf T cn K N J R d) (tx : T x = 1) (e9 : (I' x 9).toInt = (I x 9).toInt) (e11 : (I' x 11).toInt = (I x 11).toInt ∧ s' 0 = s 0 ∨ (I' x 11).toInt = 0) (e : ∀ a j, rdN (T a) = true → I' a j = I a j) (rx : ∀ j, j = 2 ∨ j = 8 ∨ j = 10 → R' x j = R x j) (r : ∀ a j, T a = 12 ∨ T a = 13 → R' a j = R a j) (hs : s' 1 = s 1) : NgN I' R' x c E s' X := by
  have rd : ∀ a k, T a = k → rdN k = true → ∀ j, I' a j = I a j := fun a k ta hk j => e a j (by rw [ta]; exact hk)
  refine ⟨fun h9 sk h8 => ?_, fun h11 => ?_⟩
  · rw [rx 8 (by omega)] at h8
    have ts : T sk = 12 := hW.rs tx rfl rfl h8
    obtain ⟨a, b1, b2⟩ := h.1 (by rw [← e9]; exact h9) sk h8
    rw [rd sk 12 ts rfl 1, hs]
    refine ⟨a, by rw [rd sk 12 ts rfl 10]; exact b1, fun r' hr m hm hf => ?_⟩
    rw [r sk 11 (Or.inl ts)] at hr
    rw [rd r' 43 (hW.rs ts rfl rfl hr) rfl]; exact b2 r' hr m hm hf
  · rcases e11 with ⟨e11, e0⟩ | e11
    · obtain ⟨a, b⟩ := h.2 (by rw [← e11]; exact h11)
      refine ⟨by rw [e9]; exact a, fun n al sk h10 h2 h8 => ?_⟩
      rw [rx 10 (by omega)] at h10
      rw [rx 2 (by omega)] at h2
      rw [rx 8 (by omega)] at h8
      have tn : T n = 13 := hW.rs tx rfl rfl h10
      obtain ⟨b1, b2, b3, b4⟩ := b n al sk h10 h2 h8
      have rn : ∀ j, R' n j = R n j := fun j => r n j (Or.inr tn)
      rw [rn, rn, rd n 13 tn rfl 2, e0, hs]
      refine ⟨b1, b2, b3, (b4.rc (fun k _ _ => rn k)).kp (fun q j s1 k1 k2 hq => ?_)⟩
      have hq' : R n s1 = some q := (rn s1).symm.trans hq
      have hk : s1 = 3 ∨ s1 = 4 ∨ s1 = 5 ∨ s1 = 6 ∨ s1 = 7 ∨ s1 = 8 ∨ s1 = 9 ∨ s1 = 10 ∨ s1 = 11 := by omega
      rcases hk with rfl | rfl | rfl | rfl | rfl | rfl | rfl | rfl | rfl
      · exact rd q 44 (hW.rs tn rfl rfl hq') rfl j
      · exact rd q 45 (hW.rs tn rfl rfl hq') rfl j
      · exact rd q 46 (hW.rs tn rfl rfl hq') rfl j
      · exact rd q 47 (hW.rs tn rfl rfl hq') rfl j
      · exact rd q 48 (hW.rs tn rfl rfl hq') rfl j
      · exact rd q 49 (hW.rs tn rfl rfl hq') rfl j
      · exact rd q 50 (hW.rs tn rfl rfl hq') rfl j
      · exact rd q 51 (hW.rs tn rfl rfl hq') rfl j
      · exact rd q 52 (hW.rs tn rfl rfl hq') rfl j
    · omega
/-- a call that writes nothing of sky and night -/
theorem NgN.st (h : NgN I R x c E s X) (hW : Wf T cn K N J R d) (tx : T x = 1) (hS : St T cn K N d' wi wr I R I' R') (e9 : (I' x 9).toInt = (I x 9).toInt) (e11 : (I' x 11).toInt = (I x 11).toInt ∧ s' 0 = s 0 ∨ (I' x 11).toInt = 0) (hs : s' 1 = s 1) (k1 : wi.all (fun z => !(rdN (z / 64))) = true) (k2 : okI [12, 13] wr = true) (k3 : wm wr 1 2 = false) (k4 : wm wr 1 8 = false) (k5 : wm wr 1 10 = false) : NgN I' R' x c E s' X :=
  h.cg hW tx e9 e11 (fun a j ta => hS.2.1 a j (wm_p (p := fun r => !(rdN r)) k1 (by rw [ta]; rfl))) (fun j hj => by rcases hj with rfl | rfl | rfl; exact hS.rcell tx k3; exact hS.rcell tx k4; exact hS.rcell tx k5) (fun a j ta => by rcases ta with ta | ta <;> exact hS.rcell ta (wm_no (okI_at k2 (by decide)))) hs
/-- the law's words out of the calls' and back -/
theorem NgN.qq (hC : CVw I R x ha c E s n mk g q) (h : NgN I R x c E s X) : NgQ I R x X E c := by
  obtain ⟨al, nw, p1, p4, -, f0, f1, f3, f6, fw⟩ := hC.num
  have s0 := hC.s0q p4
  refine ⟨fun h9 sk al' nw' h8 h2 h6 => ?_, fun h11 => ⟨(h.2 h11).1, fun n al' sk nw' h10 h2 h8 h6 => ?_⟩⟩
  · obtain rfl := Option.some.inj (p1.symm.trans h2)
    obtain rfl := Option.some.inj (p4.symm.trans h6)
    rw [f3, fw]; exact h.1 h9 sk h8
  · obtain rfl := Option.some.inj (p1.symm.trans h2)
    obtain rfl := Option.some.inj (p4.symm.trans h6)
    obtain ⟨b1, b2, b3, b4⟩ := (h.2 h11).2 n al sk h10 h2 h8
    refine ⟨b1, b2, by rw [s0]; exact b3, ?_⟩
    unfold NgZ; rw [f3, fw, s0]; exact b4
theorem NgN.of (hC : CVw I R x ha c E s n mk g q) (h : NgQ I R x X E c) : NgN I R x c E s X := by
  obtain ⟨al, nw, p1, p4, -, f0, f1, f3, f6, fw⟩ := hC.num
  have s0 := hC.s0q p4
  refine ⟨fun h9 sk h8 => ?_, fun h11 => ⟨(h.2 h11).1, fun n al' sk h10 h2 h8 => ?_⟩⟩
  · have z := h.1 h9 sk al nw h8 p1 p4
    rw [f3, fw] at z; exact z
  · obtain rfl := Option.some.inj (p1.symm.trans h2)
    obtain ⟨b1, b2, b3, b4⟩ := (h.2 h11).2 n al sk nw h10 p1 h8 p4
    refine ⟨b1, b2, by rw [← s0]; exact b3, ?_⟩
    unfold NgZ at b4; rw [f3, fw, s0] at b4; exact b4
end CzN18
