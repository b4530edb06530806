section CzN17
variable {B : cz_B} {s : Int} {Q : Nat → Int} {E E' : Nat → Nat → Int} {c : Nat → Int} {ha : Int}
theorem nmF_b (b : Nat) (w : Int) : ∀ (k c : Nat), nmF Q b w k c = -1 ∨ ((c : Int) ≤ nmF Q b w k c ∧ nmF Q b w k c < (c : Int) + (k : Int))
  | 0, c => Or.inl rfl
  | k + 1, c => by
    rw [nmF]
    by_cases z : Q (b + c) = w
    · rw [if_pos z]; exact Or.inr ⟨Int.le_refl _, by omega⟩
    · rw [if_neg z]; rcases nmF_b b w k (c + 1) with h | h
      · exact Or.inl h
      · exact Or.inr ⟨by omega, by omega⟩
theorem nmI_b (b : Nat) (n w : Int) (h : ¬ nmI Q b n w = -1) (hn : 0 ≤ n) : 0 ≤ nmI Q b n w ∧ nmI Q b n w < n := by
  unfold nmI at h ⊢
  rcases nmF_b (Q := Q) b w n.toNat 0 with z | z
  · exact absurd z h
  · exact ⟨by omega, by omega⟩
theorem tkd_b (h : ¬ tkd B s = -1) : 0 ≤ tkd B s ∧ tkd B s ≤ 3 := by
  unfold tkd at h ⊢; repeat' (first | omega | split | split at h)
theorem ri_ok : ∀ (k : Nat) (lo s : Int), 0 ≤ lo → riF B Q k lo s = 0 → (1 ≤ riC B k s ∧ riC B k s ≤ (k : Int)) ∧ ∀ j : Nat, (j : Int) < riC B k s → 0 ≤ tkV B (it2 B j s) ∧ tkV B (it2 B j s) ≤ Q 0 - 1
  | 0, lo, s, h0, h => by
    rw [riF] at h; repeat' (first | omega | split at h)
  | k + 1, lo, s, h0, h => by
    rw [riF] at h
    obtain ⟨a1, h⟩ := if_0 h (by decide)
    obtain ⟨a2, h⟩ := if_0 h (by decide)
    rw [riC]
    by_cases z : tkK B (tkN B s) = 4
    · rw [if_pos z] at h ⊢
      obtain ⟨b1, b2⟩ := ri_ok k _ _ (by omega) h
      refine ⟨by omega, fun j hj => ?_⟩
      match j, hj with
      | 0, _ => show 0 ≤ tkV B s ∧ tkV B s ≤ Q 0 - 1; omega
      | j + 1, hj => exact b2 j (by omega)
    · rw [if_neg z]
      refine ⟨by omega, fun j hj => ?_⟩
      obtain rfl : j = 0 := (by omega)
      show 0 ≤ tkV B s ∧ tkV B s ≤ Q 0 - 1
      omega
theorem hu_1 : ∀ q : Nat, q < 5 → ∀ h : Nat, h < 16 → ∀ v : Nat, v < 4 → (pw (q : Int) ≤ (h : Int) ∨ q ≤ v ∨ bt (h : Int) (v : Int) = 1 ∨ (h : Int) + pw (v : Int) < pw (q : Int)) := by decide +kernel
theorem pw_4 {q : Int} (h0 : 0 ≤ q) (h4 : q ≤ 4) : pw q ≤ 16 := by
  have e : q = 0 ∨ q = 1 ∨ q = 2 ∨ q = 3 ∨ q = 4 := by omega
  rcases e with rfl | rfl | rfl | rfl | rfl <;> decide
theorem pw_p {v : Int} : 0 < pw v := by unfold pw; exact Int.pow_pos (by decide)
theorem hu_ok (q0 : 0 ≤ Q 1) (q4 : Q 1 ≤ 4) : ∀ (k : Nat) (h s : Int), 0 ≤ h → h < pw (Q 1) → huF B Q k h s = 0 → 0 ≤ huV B k h s ∧ huV B k h s < pw (Q 1)
  | 0, h, s, h0, h1, hF => by rw [huF] at hF; omega
  | k + 1, h, s, h0, h1, hF => by
    rw [huF] at hF
    obtain ⟨a1, hF⟩ := if_0 hF (by decide)
    obtain ⟨a2, hF⟩ := if_0 hF (by decide)
    obtain ⟨a3, hF⟩ := if_0 hF (by decide)
    have p := pw_4 q0 q4
    have pv := pw_p (v := tkV B s)
    have y : h + pw (tkV B s) < pw (Q 1) := by
      have z := hu_1 (Q 1).toNat (by omega) h.toNat (by omega) (tkV B s).toNat (by omega)
      rw [show ((h.toNat : Nat) : Int) = h by omega, show (((Q 1).toNat : Nat) : Int) = Q 1 by omega, show (((tkV B s).toNat : Nat) : Int) = tkV B s by omega] at z
      rcases z with z | z | z | z
      · omega
      · omega
      · exact absurd z a3
      · exact z
    rw [huV]
    by_cases z : tkK B (tkN B s) = 4
    · rw [if_pos z] at hF ⊢; exact hu_ok q0 q4 k _ _ (by omega) y hF
    · rw [if_neg z]; exact ⟨by omega, y⟩
/-- turners, CALLS, slices, who lies up, the almanac, prices -/
def TuG (c4 : Int) (E : Nat → Nat → Int) : Prop := ∀ t : Nat, (t : Int) < c4 → (0 ≤ E (14 + t) 0 ∧ E (14 + t) 0 ≤ 3) ∧ (0 ≤ E (14 + t) 1 ∧ 0 ≤ E (14 + t) 2 ∧ E (14 + t) 2 ≤ 240) ∧ (1 ≤ E (14 + t) 3 ∧ E (14 + t) 3 ≤ 8) ∧ (1 ≤ E (14 + t) 4 ∧ E (14 + t) 4 ≤ 20) ∧ 0 ≤ E (14 + t) 5 ∧ E (14 + t) 5 ≤ 15
def CaG (c5 : Int) (E : Nat → Nat → Int) : Prop := ∀ k : Nat, (k : Int) < c5 → (0 ≤ E (19 + k) 0 ∧ E (19 + k) 0 ≤ 4) ∧ (0 ≤ E (19 + k) 1 ∧ E (19 + k) 1 ≤ 239) ∧ (1 ≤ E (19 + k) 2 ∧ E (19 + k) 2 ≤ 60) ∧ 0 ≤ E (19 + k) 3 ∧ E (19 + k) 3 ≤ 99
def SlG (c0 c6 : Int) (E : Nat → Nat → Int) : Prop := ∀ i j : Nat, (i : Int) < c6 → (j : Int) < E (25 + i) 0 → E (30 + i) j < c0
def DnG (c3 c9 : Int) (E : Nat → Nat → Int) : Prop := (0 ≤ c9 ∧ c9 < pw c3) ∧ ∀ k : Nat, (k : Int) < c3 → E 37 k = 1 - bt c9 (k : Int)
def PrG (E : Nat → Nat → Int) : Prop := (0 ≤ E 29 0 ∧ E 29 0 ≤ 8) ∧ ∀ j : Nat, j < 5 → 0 ≤ E 36 j ∧ E 36 j ≤ 99
theorem TuG.cg {c4 : Int} (h : TuG c4 E) (h5 : c4 ≤ 5) (e : ∀ u j, 14 ≤ u → u < 19 → E' u j = E u j) : TuG c4 E' := fun t ht => by
  have z := h t ht
  rw [e (14 + t) 0 (by omega) (by omega), e (14 + t) 1 (by omega) (by omega), e (14 + t) 2 (by omega) (by omega), e (14 + t) 3 (by omega) (by omega), e (14 + t) 4 (by omega) (by omega), e (14 + t) 5 (by omega) (by omega)]; exact z
theorem CaG.cg {c5 : Int} (h : CaG c5 E) (h6 : c5 ≤ 6) (e : ∀ u j, 19 ≤ u → u < 25 → E' u j = E u j) : CaG c5 E' := fun t ht => by
  have z := h t ht
  rw [e (19 + t) 0 (by omega) (by omega), e (19 + t) 1 (by omega) (by omega), e (19 + t) 2 (by omega) (by omega), e (19 + t) 3 (by omega) (by omega)]; exact z
theorem SlG.cg {c0 c6 : Int} (h : SlG c0 c6 E) (h4 : c6 ≤ 4) (e : ∀ u j, (25 ≤ u ∧ u < 29) ∨ (30 ≤ u ∧ u < 34) → E' u j = E u j) : SlG c0 c6 E' := fun i j hi hj => by
  rw [e (25 + i) 0 (Or.inl ⟨by omega, by omega⟩)] at hj
  rw [e (30 + i) j (Or.inr ⟨by omega, by omega⟩)]; exact h i j hi hj
theorem DnG.cg {c3 c9 : Int} (h : DnG c3 c9 E) (e : ∀ j, E' 37 j = E 37 j) : DnG c3 c9 E' := ⟨h.1, fun k hk => by rw [e k]; exact h.2 k hk⟩
theorem PrG.cg (h : PrG E) (e : ∀ u j, u = 29 ∨ u = 36 → E' u j = E u j) : PrG E' := ⟨by rw [e 29 0 (Or.inl rfl)]; exact h.1, fun j hj => by rw [e 36 j (Or.inr rfl)]; exact h.2 j hj⟩
theorem bt_ad : ∀ n : Nat, n < 8 → ∀ a : Nat, a < 256 → (pw (n : Int) ≤ (a : Int) ∨ (bt ((a : Int) + pw (n : Int)) (n : Int) = 1 ∧ bt (a : Int) (n : Int) = 0 ∧ ∀ k : Nat, k < 8 → (n ≤ k ∨ bt ((a : Int) + pw (n : Int)) (k : Int) = bt (a : Int) (k : Int)))) := by decide +kernel
theorem pw_8 {q : Int} (h0 : 0 ≤ q) (h8 : q ≤ 8) : pw q ≤ 256 := by
  have e : q = 0 ∨ q = 1 ∨ q = 2 ∨ q = 3 ∨ q = 4 ∨ q = 5 ∨ q = 6 ∨ q = 7 ∨ q = 8 := by omega
  rcases e with rfl | rfl | rfl | rfl | rfl | rfl | rfl | rfl | rfl <;> decide
def GdX (Q : Nat → Int) (E : Nat → Nat → Int) : Prop := (0 ≤ Q 0 ∧ Q 0 ≤ 240) ∧ (0 ≤ Q 4 ∧ Q 4 ≤ 5) ∧ (0 ≤ Q 5 ∧ Q 5 ≤ 6) ∧ (0 ≤ Q 6 ∧ Q 6 ≤ 4) ∧ TuG (Q 4) E ∧ CaG (Q 5) E ∧ SlG (Q 0) (Q 6) E ∧ DnG (Q 3) (Q 9) E ∧ PrG E ∧ (¬ Q 7 = 1 → Q 6 = 0)
theorem sp_ok (h : spF B Q s = 0) : 0 ≤ tkV B s ∧ 0 ≤ tkV B (tkN B (tkN B s)) ∧ tkV B (tkN B (tkN B s)) ≤ Q 0 := by
  unfold spF at h
  obtain ⟨a1, h⟩ := if_0 h (by decide)
  obtain ⟨a2, h⟩ := if_0 h (by decide)
  obtain ⟨a3, h⟩ := if_0 h (by decide)
  obtain ⟨a4, h⟩ := if_0 h (by decide)
  obtain ⟨a5, h⟩ := if_0 h (by decide)
  exact ⟨by omega, by omega, by omega⟩
theorem tu_ok (h : tuF B Q s = 0) (q0 : Q 0 ≤ 240) (q1 : 0 ≤ Q 1 ∧ Q 1 ≤ 4) : (0 ≤ tuD B s 0 ∧ tuD B s 0 ≤ 3) ∧ (0 ≤ tuD B s 1 ∧ 0 ≤ tuD B s 2 ∧ tuD B s 2 ≤ 240) ∧ (1 ≤ tuD B s 3 ∧ tuD B s 3 ≤ 8) ∧ (1 ≤ tuD B s 4 ∧ tuD B s 4 ≤ 20) ∧ 0 ≤ tuD B s 5 ∧ tuD B s 5 ≤ 15 := by
  unfold tuF at h
  obtain ⟨a1, h⟩ := if_0 h (by decide)
  obtain ⟨a2, h⟩ := if_0 h (by decide)
  obtain ⟨a3, h⟩ := if_0 h (by decide)
  obtain ⟨a4, h⟩ := if_0 h (by decide)
  have hs : spF B Q (tkN B (tkN B (tkN B s))) = 0 := by
    by_cases z : spF B Q (tkN B (tkN B (tkN B s))) = 0
    · exact z
    · rw [if_pos z] at h; exact h
  rw [if_neg (fun z => z hs)] at h
  obtain ⟨b1, h⟩ := if_0 h (by decide)
  obtain ⟨b2, h⟩ := if_0 h (by decide)
  obtain ⟨b3, h⟩ := if_0 h (by decide)
  obtain ⟨b4, h⟩ := if_0 h (by decide)
  obtain ⟨b5, h⟩ := if_0 h (by decide)
  obtain ⟨b6, h⟩ := if_0 h (by decide)
  obtain ⟨b7, h⟩ := if_0 h (by decide)
  have k := tkd_b a3
  have p := sp_ok hs
  have u := hu_ok q1.1 q1.2 901 0 _ (Int.le_refl _) pw_p h
  have w := pw_4 q1.1 q1.2
  refine ⟨k, ⟨p.1, p.2.1, ?_⟩, ?_, ?_, u.1, ?_⟩
  · have y := p.2.2
    show tkV B (tkN B (tkN B (tkN B (tkN B (tkN B s))))) ≤ 240
    omega
  · show 1 ≤ tkV B (tkN B (tkN B (tkN B (tkN B (tkN B (tkN B (tkN B s))))))) ∧ tkV B (tkN B (tkN B (tkN B (tkN B (tkN B (tkN B (tkN B s))))))) ≤ 8
    omega
  · show 1 ≤ tkV B (tkN B (tkN B (tkN B (tkN B (tkN B (tkN B (tkN B (tkN B (tkN B s))))))))) ∧ tkV B (tkN B (tkN B (tkN B (tkN B (tkN B (tkN B (tkN B (tkN B (tkN B s))))))))) ≤ 20
    omega
  · have y := u.2
    show huV B 901 0 _ ≤ 15
    omega
theorem ca_ok (h : caF B Q s = 0) (q0 : Q 0 ≤ 240) (q4 : 0 ≤ Q 4 ∧ Q 4 ≤ 5) : (0 ≤ caD B Q s 0 ∧ caD B Q s 0 ≤ 4) ∧ (0 ≤ caD B Q s 1 ∧ caD B Q s 1 ≤ 239) ∧ (1 ≤ caD B Q s 2 ∧ caD B Q s 2 ≤ 60) ∧ 0 ≤ caD B Q s 3 ∧ caD B Q s 3 ≤ 99 := by
  unfold caF at h
  obtain ⟨a1, h⟩ := if_0 h (by decide)
  obtain ⟨a2, h⟩ := if_0 h (by decide)
  obtain ⟨a3, h⟩ := if_0 h (by decide)
  obtain ⟨a4, h⟩ := if_0 h (by decide)
  obtain ⟨a5, h⟩ := if_0 h (by decide)
  obtain ⟨a6, h⟩ := if_0 h (by decide)
  obtain ⟨a7, h⟩ := if_0 h (by decide)
  obtain ⟨a8, h⟩ := if_0 h (by decide)
  obtain ⟨a9, h⟩ := if_0 h (by decide)
  obtain ⟨a10, h⟩ := if_0 h (by decide)
  obtain ⟨a11, h⟩ := if_0 h (by decide)
  have n := nmI_b 200 (Q 4) (tkW B s) a2 q4.1
  refine ⟨⟨n.1, ?_⟩, ?_, ?_, ?_⟩
  · show nmI Q 200 (Q 4) (tkW B s) ≤ 4
    omega
  · show 0 ≤ tkV B (tkN B (tkN B s)) ∧ tkV B (tkN B (tkN B s)) ≤ 239
    omega
  · show 1 ≤ tkV B (tkN B (tkN B (tkN B (tkN B s)))) ∧ tkV B (tkN B (tkN B (tkN B (tkN B s)))) ≤ 60
    omega
  · show 0 ≤ tkV B (tkN B (tkN B (tkN B (tkN B (tkN B (tkN B s)))))) ∧ tkV B (tkN B (tkN B (tkN B (tkN B (tkN B (tkN B s)))))) ≤ 99
    omega
theorem al_ok (h : alF B Q s = 0) : (10 ≤ tkV B (tkN B s) ∧ tkV B (tkN B s) ≤ 240) ∧ ∀ j : Nat, j < 5 → 0 ≤ tkV B (it2 B j (tkN B (tkN B (tkN B (tkN B (tkN B s)))))) ∧ tkV B (it2 B j (tkN B (tkN B (tkN B (tkN B (tkN B s)))))) ≤ 99 := by
  unfold alF at h
  obtain ⟨a1, h⟩ := if_0 h (by decide)
  obtain ⟨a2, h⟩ := if_0 h (by decide)
  obtain ⟨a3, h⟩ := if_0 h (by decide)
  obtain ⟨a4, h⟩ := if_0 h (by decide)
  obtain ⟨a5, h⟩ := if_0 h (by decide)
  obtain ⟨a6, h⟩ := if_0 h (by decide)
  obtain ⟨a7, h⟩ := if_0 h (by decide)
  obtain ⟨a8, h⟩ := if_0 h (by decide)
  obtain ⟨a9, h⟩ := if_0 h (by decide)
  obtain ⟨a10, h⟩ := if_0 h (by decide)
  obtain ⟨a11, h⟩ := if_0 h (by decide)
  obtain ⟨a12, h⟩ := if_0 h (by decide)
  obtain ⟨a13, h⟩ := if_0 h (by decide)
  obtain ⟨a14, h⟩ := if_0 h (by decide)
  obtain ⟨a15, h⟩ := if_0 h (by decide)
  obtain ⟨a16, h⟩ := if_0 h (by decide)
  obtain ⟨a17, h⟩ := if_0 h (by decide)
  obtain ⟨a18, h⟩ := if_0 h (by decide)
  obtain ⟨a19, h⟩ := if_0 h (by decide)
  obtain ⟨a20, h⟩ := if_0 h (by decide)
  obtain ⟨a21, h⟩ := if_0 h (by decide)
  refine ⟨by omega, fun j hj => ?_⟩
  have e : j = 0 ∨ j = 1 ∨ j = 2 ∨ j = 3 ∨ j = 4 := by omega
  rcases e with rfl | rfl | rfl | rfl | rfl
  · show 0 ≤ tkV B (tkN B (tkN B (tkN B (tkN B (tkN B s))))) ∧ tkV B (tkN B (tkN B (tkN B (tkN B (tkN B s))))) ≤ 99
    clear a1 a2 a3 a4 a5 a6 a7 a8 a10 a11 a12 a13 a14 a15 a16 a17 a18 a19 a20 a21 h
    omega
  · show 0 ≤ tkV B (tkN B (tkN B (tkN B (tkN B (tkN B (tkN B (tkN B s))))))) ∧ tkV B (tkN B (tkN B (tkN B (tkN B (tkN B (tkN B (tkN B s))))))) ≤ 99
    clear a1 a2 a3 a4 a5 a6 a7 a8 a9 a10 a11 a13 a14 a15 a16 a17 a18 a19 a20 a21 h
    omega
  · show 0 ≤ tkV B (tkN B (tkN B (tkN B (tkN B (tkN B (tkN B (tkN B (tkN B (tkN B s))))))))) ∧ tkV B (tkN B (tkN B (tkN B (tkN B (tkN B (tkN B (tkN B (tkN B (tkN B s))))))))) ≤ 99
    clear a1 a2 a3 a4 a5 a6 a7 a8 a9 a10 a11 a12 a13 a14 a16 a17 a18 a19 a20 a21 h
    omega
  · show 0 ≤ tkV B (tkN B (tkN B (tkN B (tkN B (tkN B (tkN B (tkN B (tkN B (tkN B (tkN B (tkN B s))))))))))) ∧ tkV B (tkN B (tkN B (tkN B (tkN B (tkN B (tkN B (tkN B (tkN B (tkN B (tkN B (tkN B s))))))))))) ≤ 99
    clear a1 a2 a3 a4 a5 a6 a7 a8 a9 a10 a11 a12 a13 a14 a15 a16 a17 a19 a20 a21 h
    omega
  · show 0 ≤ tkV B (tkN B (tkN B (tkN B (tkN B (tkN B (tkN B (tkN B (tkN B (tkN B (tkN B (tkN B (tkN B (tkN B s))))))))))))) ∧ tkV B (tkN B (tkN B (tkN B (tkN B (tkN B (tkN B (tkN B (tkN B (tkN B (tkN B (tkN B (tkN B (tkN B s))))))))))))) ≤ 99
    clear a1 a2 a3 a4 a5 a6 a7 a8 a9 a10 a11 a12 a13 a14 a15 a16 a17 a18 a19 a20 h
    omega
set_option maxHeartbeats 1000000 in
theorem GdX.ln (g : GdT Q E) (h : GdX Q E) (hF : lnF B Q s = 0) : GdX (lnQ B Q s) (lnE B Q s E) := by
  obtain ⟨f1, f2, f3, f4, f5⟩ := lnF_0 hF
  obtain ⟨⟨g1, g2, g3, gE, gH⟩, g7⟩ := g
  obtain ⟨q0, q4, q5, q6, hT, hC, hS, hD, hP, h7⟩ := h
  have hr := srt_b B s
  by_cases c5 : srt B s = 5
  · obtain ⟨b1, -, -, e0, e1, e2, e3, e4, e5, e6, e7, -⟩ := lnl_5 (B := B) (Q := Q) (s := s) c5
    have e9 := lnq9_5 (Q := Q) c5
    unfold GdX
    rw [e0, e3, e4, e5, e6, e7, e9]
    have o : ∀ u j, ¬ u = 35 → ¬ u = 37 → lnE B Q s E u j = E u j := fun u j h1 h2 => by rw [lnE_5 c5, if_neg (fun w => h1 w.1), if_neg (fun w => h2 w.1)]
    refine ⟨q0, q4, q5, q6, hT.cg q4.2 (fun u j _ _ => o u j (by omega) (by omega)), hC.cg q5.2 (fun u j _ _ => o u j (by omega) (by omega)), hS.cg q6.2 (fun u j _ => o u j (by omega) (by omega)), ?_, hP.cg (fun u j hu => o u j (by omega) (by omega)), h7⟩
    have p := pw_on g3.1
    have p8 := pw_8 g3.1 g3.2
    have z := bt_ad (Q 3).toNat (by omega) (Q 9).toNat (by have := hD.1; omega)
    rw [show (((Q 3).toNat : Nat) : Int) = Q 3 by omega, show (((Q 9).toNat : Nat) : Int) = Q 9 by have := hD.1.1; omega] at z
    obtain ⟨z1, z2, z3⟩ := z.resolve_left (by have := hD.1.2; omega)
    have hd := hD.1
    have n0 := pw_p (v := Q 3)
    by_cases y : tkK B (tkN B (tkN B (tkN B (tkN B s)))) = 1 ∧ tkW B (tkN B (tkN B (tkN B (tkN B s)))) = 147182
    · rw [if_pos y]
      refine ⟨⟨hd.1, by omega⟩, fun k hk => ?_⟩
      rw [lnE_5 c5, if_neg (fun w => absurd w.1 (by decide))]
      by_cases x : k = (Q 3).toNat
      · rw [if_pos ⟨rfl, x⟩]; unfold dnD; rw [if_pos y, show (k : Int) = Q 3 by omega, z2]; rfl
      · rw [if_neg (fun w => x w.2)]; exact hD.2 k (by omega)
    · rw [if_neg y]
      refine ⟨⟨by omega, by omega⟩, fun k hk => ?_⟩
      rw [lnE_5 c5, if_neg (fun w => absurd w.1 (by decide))]
      by_cases x : k = (Q 3).toNat
      · rw [if_pos ⟨rfl, x⟩]; unfold dnD; rw [if_neg y, show (k : Int) = Q 3 by omega, z1]; rfl
      · rw [if_neg (fun w => x w.2), (z3 k (by omega)).resolve_left (by omega)]; exact hD.2 k (by omega)
  have e9 := lnq9_o (Q := Q) c5
  by_cases c6 : srt B s = 6
  · obtain ⟨b1, -, -, e0, e1, e2, e3, e4, e5, e6, e7, -⟩ := lnl_6 (B := B) (Q := Q) (s := s) c6
    rw [b1] at f5
    obtain ⟨r1, r2⟩ := ri_ok 8 0 _ (Int.le_refl _) f5
    unfold GdX
    rw [e0, e3, e4, e5, e6, e7, e9]
    have o : ∀ u j, ¬ u = 29 → ¬ u = 34 → lnE B Q s E u j = E u j := fun u j h1 h2 => by rw [lnE_6 c6, if_neg (fun w => h1 w.1), if_neg h2]
    refine ⟨q0, q4, q5, q6, hT.cg q4.2 (fun u j _ _ => o u j (by omega) (by omega)), hC.cg q5.2 (fun u j _ _ => o u j (by omega) (by omega)), hS.cg q6.2 (fun u j _ => o u j (by omega) (by omega)), hD.cg (fun j => o 37 j (by omega) (by omega)), ⟨?_, fun j hj => ?_⟩, h7⟩
    · rw [lnE_6 c6, if_pos ⟨rfl, rfl⟩]; exact ⟨by omega, by omega⟩
    · rw [o 36 j (by omega) (by omega)]; exact hP.2 j hj
  by_cases c7 : srt B s = 7
  · obtain ⟨b1, -, -, e0, e1, e2, e3, e4, e5, e6, e7, -⟩ := lnl_7 (B := B) (Q := Q) (s := s) c7
    rw [b1] at f5
    have t := tu_ok f5 q0.2 g1
    unfold GdX
    rw [e0, e3, e4, e5, e6, e7, e9]
    have o : ∀ u j, ¬ u = 14 + (Q 4).toNat → lnE B Q s E u j = E u j := fun u j h1 => by rw [lnE_7 c7, if_neg h1]
    refine ⟨q0, by omega, q5, q6, fun k hk => ?_, hC.cg q5.2 (fun u j _ _ => o u j (by omega)), hS.cg q6.2 (fun u j _ => o u j (by omega)), hD.cg (fun j => o 37 j (by omega)), hP.cg (fun u j hu => o u j (by omega)), h7⟩
    by_cases x : k = (Q 4).toNat
    · have e : ∀ j, lnE B Q s E (14 + k) j = tuD B (tkN B s) j := fun j => by rw [lnE_7 c7, if_pos (by omega)]
      rw [e 0, e 1, e 2, e 3, e 4, e 5]; exact t
    · rw [o (14 + k) 0 (by omega), o (14 + k) 1 (by omega), o (14 + k) 2 (by omega), o (14 + k) 3 (by omega), o (14 + k) 4 (by omega), o (14 + k) 5 (by omega)]; exact hT k (by omega)
  by_cases c8 : srt B s = 8
  · obtain ⟨b1, -, -, e0, e1, e2, e3, e4, e5, e6, e7, -⟩ := lnl_8 (B := B) (Q := Q) (s := s) c8
    rw [b1] at f5
    have t := ca_ok f5 q0.2 q4
    unfold GdX
    rw [e0, e3, e4, e5, e6, e7, e9]
    have o : ∀ u j, ¬ u = 19 + (Q 5).toNat → lnE B Q s E u j = E u j := fun u j h1 => by rw [lnE_8 c8, if_neg h1]
    refine ⟨q0, q4, by omega, q6, hT.cg q4.2 (fun u j _ _ => o u j (by omega)), fun k hk => ?_, hS.cg q6.2 (fun u j _ => o u j (by omega)), hD.cg (fun j => o 37 j (by omega)), hP.cg (fun u j hu => o u j (by omega)), h7⟩
    by_cases x : k = (Q 5).toNat
    · have e : ∀ j, lnE B Q s E (19 + k) j = caD B Q (tkN B s) j := fun j => by rw [lnE_8 c8, if_pos (by omega)]
      rw [e 0, e 1, e 2, e 3]; exact t
    · rw [o (19 + k) 0 (by omega), o (19 + k) 1 (by omega), o (19 + k) 2 (by omega), o (19 + k) 3 (by omega)]; exact hC k (by omega)
  by_cases c9 : srt B s = 9
  · obtain ⟨b1, -, -, e0, e1, e2, e3, e4, e5, e6, e7, -⟩ := lnl_9 (B := B) (Q := Q) (s := s) c9
    rw [b1] at f5
    obtain ⟨r1, r2⟩ := ri_ok 8 0 _ (Int.le_refl _) f5
    unfold GdX
    rw [e0, e3, e4, e5, e6, e7, e9]
    have o : ∀ u j, ¬ u = 25 + (Q 6).toNat → ¬ u = 30 + (Q 6).toNat → lnE B Q s E u j = E u j := fun u j h1 h2 => by rw [lnE_9 c9, if_neg (fun w => h1 w.1), if_neg h2]
    refine ⟨q0, q4, q5, by omega, hT.cg q4.2 (fun u j _ _ => o u j (by omega) (by omega)), hC.cg q5.2 (fun u j _ _ => o u j (by omega) (by omega)), fun i j hi hj => ?_, hD.cg (fun j => o 37 j (by omega) (by omega)), hP.cg (fun u j hu => o u j (by omega) (by omega)), fun w => by omega⟩
    by_cases x : i = (Q 6).toNat
    · rw [lnE_9 c9, if_pos ⟨by omega, rfl⟩] at hj
      rw [lnE_9 c9, if_neg (fun w => by have := w.1; omega), if_pos (by omega)]
      have := r2 j hj
      omega
    · rw [o (25 + i) 0 (by omega) (by omega)] at hj
      rw [o (30 + i) j (by omega) (by omega)]; exact hS i j (by omega) hj
  by_cases ca : srt B s = 10
  · obtain ⟨b1, -, -, e0, e1, e2, e3, e4, e5, e6, e7, -⟩ := lnl_10 (B := B) (Q := Q) (s := s) ca
    rw [b1] at f5
    obtain ⟨t1, t2⟩ := al_ok f5
    have z6 := h7 (by omega)
    unfold GdX
    rw [e0, e3, e4, e5, e6, e7, e9]
    have o : ∀ u j, ¬ u = 36 → lnE B Q s E u j = E u j := fun u j h1 => by rw [lnE_10 ca, if_neg h1]
    refine ⟨⟨by omega, by omega⟩, q4, q5, q6, hT.cg q4.2 (fun u j _ _ => o u j (by omega)), hC.cg q5.2 (fun u j _ _ => o u j (by omega)), fun i j hi _ => by omega, hD.cg (fun j => o 37 j (by omega)), ⟨by rw [o 29 0 (by omega)]; exact hP.1, fun j hj => ?_⟩, fun w => absurd rfl w⟩
    rw [lnE_10 ca, if_pos rfl]; exact t2 j hj
  · have hs : srt B s ≤ 4 := by omega
    obtain ⟨b1, -, -, e0, e1, e2, e3, e4, e5, e6, e7, -⟩ := lnl_e (B := B) (Q := Q) (s := s) (by omega) hs
    unfold GdX
    rw [e0, e3, e4, e5, e6, e7, e9]
    have o : ∀ u j, ¬ u = (Q 2).toNat → lnE B Q s E u j = E u j := fun u j h1 => by rw [lnE_e hs, if_neg h1]
    have hu : (Q 2).toNat < 14 := by omega
    exact ⟨q0, q4, q5, q6, hT.cg q4.2 (fun u j _ _ => o u j (by omega)), hC.cg q5.2 (fun u j _ _ => o u j (by omega)), hS.cg q6.2 (fun u j _ => o u j (by omega)), hD.cg (fun j => o 37 j (by omega)), hP.cg (fun u j hu' => o u j (by omega)), h7⟩
theorem GdX.e {Q' c : Nat → Int} (g : GdC (c 1) (c 2) (c 3) E) (h : GdX Q' E) (e0 : c 0 = Q' 0) (e3 : c 3 = Q' 3) (e4 : c 4 = Q' 4) (e5 : c 5 = Q' 5) (e6 : c 6 = Q' 6) (e9 : c 9 = Q' 9) : GdE c E ∧ GdS c E := by
  obtain ⟨g1, g2, g3, gE, gH⟩ := g
  obtain ⟨q0, q4, q5, q6, hT, hC, hS, hD, hP, -⟩ := h
  rw [← e0] at q0 hS
  rw [← e4] at q4 hT
  rw [← e5] at q5 hC
  rw [← e6] at hS
  rw [← e3, ← e9] at hD
  exact ⟨fun X lo n cl th hc ht => ⟨q0, g1, g3, q4, q5, hT, hC, gH, hP.1, hP.2, hD.1, hc, ht, hD.2⟩, hS⟩
theorem GdT.z : GdT Q00 E00 := ⟨⟨⟨by decide, by decide⟩, ⟨by decide, by decide⟩, ⟨by decide, by decide⟩, fun e he => by have he : (e : Int) < 0 := he; omega, fun k hk => by have hk : (k : Int) < 0 := hk; omega⟩, fun _ => ⟨rfl, rfl⟩⟩
theorem GdX.z : GdX Q00 E00 := ⟨⟨by decide, by decide⟩, ⟨by decide, by decide⟩, ⟨by decide, by decide⟩, ⟨by decide, by decide⟩, fun t ht => by have ht : (t : Int) < 0 := ht; omega, fun t ht => by have ht : (t : Int) < 0 := ht; omega, fun i j hi _ => by have hi : (i : Int) < 0 := hi; omega, ⟨⟨by decide, by decide⟩, fun k hk => by have hk : (k : Int) < 0 := hk; omega⟩, ⟨⟨by decide, by decide⟩, fun j _ => ⟨Int.le_refl 0, (by show (0 : Int) ≤ 99; decide)⟩⟩, fun _ => rfl⟩
/-- an ALP's tables are as they must be -/
theorem OrC.ge (h : OrC ha c E) : GdE c E ∧ GdS c E := by
  have g := h.gd
  rcases h with ⟨-, rfl, rfl⟩ | ⟨-, B, hF, rfl, rfl⟩
  · exact GdX.e g GdX.z rfl rfl rfl rfl rfl rfl
  · obtain ⟨Q', ⟨-, hX⟩, a0, -, -, a3, a4, a5, a6, a9⟩ := ls_inv (P := fun Q E => GdT Q E ∧ GdX Q E) (fun Q E s h hF => ⟨GdT.ln h.1 hF, GdX.ln h.1 h.2 hF⟩) 901 0 Q00 E00 ⟨GdT.z, GdX.z⟩ hF
    exact GdX.e g hX a0 a3 a4 a5 a6 a9
end CzN17
