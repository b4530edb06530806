/-! ===== level C: views kept, the law's roads of the acts ===== -/
/-- lists that leave roles -/
def okI (rs wi : List Nat) : Bool := rs.all (fun r => wi.all (fun c => !(Nat.beq (c / 64) r)))
theorem okI_at {rs wi : List Nat} {r : Nat} (h : okI rs wi = true) (hr : r ∈ rs) : wi.all (fun c => !(Nat.beq (c / 64) r)) = true := List.all_eq_true.mp h r hr
section CzVk
variable {T : Nat → Nat} {cn : Nat} {K N : Nat → Nat} {d d' : Int} {wi wr : List Nat} {I I' : cz_I} {R R' : cz_R} {x m : Nat} {ha n mk : Int} {c : Nat → Int} {E : Nat → Nat → Int} {s s' : Nat → Int} {g q : Nat → Nat → Int}
theorem CVw.kp (h : CVw I R x ha c E s n mk g q) (hW : Wf T cn K N I R d) (tx : T x = 1) (hS : St T cn K N d' wi wr I R I' R') (c1 : okI [2, 3, 4, 5, 6, 18, 20, 24, 8, 10, 11, 27, 28, 31, 32] wi = true) (c2 : okI [2, 8, 10, 11, 19, 6, 21, 22, 23, 33, 34] wr = true) (c3 : wm wi 1 5 = false) (c4 : wm wr 1 2 = false) (c5 : wm wr 1 3 = false) (c6 : wm wr 1 6 = false) (c7 : wm wr 1 7 = false) : CVw I' R' x ha c E s n mk g q := by
  have kI : ∀ r a j, T a = r → r ∈ [2, 3, 4, 5, 6, 18, 20, 24, 8, 10, 11, 27, 28, 31, 32] → I' a j = I a j := fun r a j ta hr => hS.cell ta (wm_no (okI_at c1 hr))
  have kR : ∀ r a j, T a = r → r ∈ [2, 8, 10, 11, 19, 6, 21, 22, 23, 33, 34] → R' a j = R a j := fun r a j ta hr => hS.rcell ta (wm_no (okI_at c2 hr))
  refine h.of hW tx (hS.cell tx c3) (fun al j hal => kI 2 al j (hW.rs tx rfl rfl hal) (by decide)) (fun al hal v => v.kp hW (hW.rs tx rfl rfl hal) (kI 2 al 7 (hW.rs tx rfl rfl hal) (by decide)) (fun a j ta => by
    rcases rdc_in ta with ta | ta | ta | ta | ta | ta | ta <;> exact kI _ a j ta (by decide))) (fun a j ta => ?_) (hS.rcell tx c4) (hS.rcell tx c5) (hS.rcell tx c6) (hS.rcell tx c7) (fun a j ta => ?_)
  · unfold R7 at ta
    rcases ta with ta | ta | ta | ta | ta | ta | ta <;> exact kI _ a j ta (by decide)
  · rcases ta with ta | ta | ta | ta | ta | ta | ta | ta | ta | ta | ta <;> exact kR _ a j ta (by decide)
theorem MVw.kp (h : MVw I R m ha c E s n mk g q) (hW : Wf T cn K N I R d) (tm : T m = 15) (hS : St T cn K N d' wi wr I R I' R') (c1 : okI [14, 77, 78, 79] wi = true) (c0 : wi.all (fun c => !(rdm (c / 64))) = true) (c2 : okI [14] wr = true) (c3 : wm wi 15 19 = false) (c4 : wm wi 15 20 = false) (c5 : wm wr 15 3 = false) (c6 : wm wr 15 16 = false) (c7 : wm wr 15 17 = false) (c8 : wm wr 15 18 = false) : MVw I' R' m ha c E s n mk g q := by
  have kI : ∀ r a j, T a = r → r ∈ [14, 77, 78, 79] → I' a j = I a j := fun r a j ta hr => hS.cell ta (wm_no (okI_at c1 hr))
  obtain ⟨w, p, k, p1, p2, p3, hav, hs, hn, hm, hp, hk⟩ := h
  have tw : T w = 77 := hW.rs tm rfl rfl p1
  have tp : T p = 78 := hW.rs tm rfl rfl p2
  have tk : T k = 79 := hW.rs tm rfl rfl p3
  refine ⟨w, p, k, (hS.rcell tm c6).trans p1, (hS.rcell tm c7).trans p2, (hS.rcell tm c8).trans p3, hav.kp (hS.rcell tm c5) (fun b hb => ?_), hs.eq (fun c _ => kI 77 w c tw (by decide)), by rw [hS.cell tm c3]; exact hn, by rw [hS.cell tm c4]; exact hm, fun i hi => (hp i hi).eq (fun c _ => kI 78 p _ tp (by decide)), fun i hi => (hk i hi).eq (fun c _ => kI 79 k _ tk (by decide))⟩
  have tb : T b = 14 := hW.rsN tm rfl hb
  exact ⟨fun j => kI 14 b j tb (by decide), fun v => (v.kp hW tb (kI 14 b 8 tb (by decide)) (RoF.st hS c0)).cr (fun j => hS.rcell tb (wm_no (okI_at c2 (by decide))))⟩
theorem CVw.cab (h : CVw I R x ha c E s n mk g q) (hW : Wf T cn K N I R d) (tx : T x = 1) : 0 ≤ c 5 ∧ c 5 ≤ 6 := by
  obtain ⟨al, dr, nw, pa, A, B, ⟨p1, -⟩, -, ⟨-, -, -, s3, -⟩, -⟩ := h
  have a := iv2_11 hW (hW.rs tx rfl rfl p1) (rfl : I al 11 = I al 11)
  exact om_495ffa83 s3 a.2 a.1
theorem CVw.s1b (h : CVw I R x ha c E s n mk g q) (hW : Wf T cn K N I R d) (tx : T x = 1) : 0 ≤ s 1 ∧ s 1 ≤ 6 := by
  obtain ⟨al, dr, nw, pa, A, B, ⟨-, -, -, p4, -⟩, -, -, -, ⟨-, t1, -⟩, -⟩ := h
  have a := iv8_2 hW (hW.rs tx rfl rfl p4) (rfl : I nw 2 = I nw 2)
  exact om_495ffa83 t1 a.2 a.1
theorem ac_0 {z a b : Int} (h : 0 ≤ s 0 ∧ s 0 ≤ 63) : 0 ≤ ac s z a b 0 ∧ ac s z a b 0 ≤ 63 := by
  unfold ac; rw [if_neg (by exact om_7331eb88), if_neg (by exact om_b6c03d6e), if_neg (by exact om_4f53e234), if_neg (by exact om_813b33f0)]; exact h
end CzVk
/-- what both views share: small calls, and without an ALP nothing was done -/
def RgC (ha : Int) (s : Nat → Int) (n mk : Int) (g q : Nat → Nat → Int) : Prop := (0 ≤ s 0 ∧ s 0 ≤ 63) ∧ (∀ i : Nat, (i : Int) < n → 0 ≤ g i 0 ∧ g i 0 ≤ 63) ∧ (∀ i : Nat, (i : Int) < mk → 0 ≤ q i 0 ∧ q i 0 ≤ 63) ∧ (ha = 0 → s 1 = 0 ∧ n = 0 ∧ mk = 0 ∧ s 2 = 0)
theorem RgC.keep {ha : Int} {s s' : Nat → Int} {n mk : Int} {g q : Nat → Nat → Int} (h : RgC ha s n mk g q) (h0 : ¬ ha = 0) (hs : 0 ≤ s' 0 ∧ s' 0 ≤ 63) : RgC ha s' (kn n) mk (kg n g s) q := by
  obtain ⟨h1, h2, h3, h4⟩ := h
  refine ⟨hs, fun i hi => ?_, h3, fun z => absurd z h0⟩
  unfold kg
  by_cases z : (i : Int) < (if n < 12 then n else 11)
  · rw [if_pos z]
    by_cases y : n < 12
    · rw [if_pos y] at z ⊢; exact h2 i z
    · rw [if_neg y] at z ⊢; exact h2 (i + 1) (by exact om_6db87102 z y)
  · rw [if_neg z]; exact h1
/-- where an ALP is from: there is none, or a text told it -/
def OrC (ha : Int) (c : Nat → Int) (E : Nat → Nat → Int) : Prop := (ha = 0 ∧ c = Q00 ∧ E = E00) ∨ (ha = 1 ∧ ∃ B : cz_B, lsF B 901 0 Q00 = 0 ∧ c = cnt B ∧ E = lsE B 901 0 Q00 E00)
def LawC (I : cz_I) (R : cz_R) (x m : Nat) : Prop := ∃ (ha : Int) (c : Nat → Int) (E : Nat → Nat → Int) (s : Nat → Int) (n mk : Int) (g q : Nat → Nat → Int), OrC ha c E ∧ CVw I R x ha c E s n mk g q ∧ MVw I R m ha c E s n mk g q ∧ RgC ha s n mk g q
theorem LawC.kp {T : Nat → Nat} {cn : Nat} {K N : Nat → Nat} {d d' : Int} {wi wr : List Nat} {I I' : cz_I} {R R' : cz_R} {x m : Nat} (h : LawC I R x m) (hW : Wf T cn K N I R d) (tx : T x = 1) (tm : T m = 15) (hS : St T cn K N d' wi wr I R I' R') (c1 : okI [2, 3, 4, 5, 6, 18, 20, 24, 8, 10, 11, 27, 28, 31, 32] wi = true) (c2 : okI [2, 8, 10, 11, 19, 6, 21, 22, 23, 33, 34] wr = true) (c3 : wm wi 1 5 = false) (c4 : wm wr 1 2 = false) (c5 : wm wr 1 3 = false) (c6 : wm wr 1 6 = false) (c7 : wm wr 1 7 = false) (m1 : okI [14, 77, 78, 79] wi = true) (m0 : wi.all (fun c => !(rdm (c / 64))) = true) (m2 : okI [14] wr = true) (m3 : wm wi 15 19 = false) (m4 : wm wi 15 20 = false) (m5 : wm wr 15 3 = false) (m6 : wm wr 15 16 = false) (m7 : wm wr 15 17 = false) (m8 : wm wr 15 18 = false) : LawC I' R' x m := by
  obtain ⟨ha, c, E, s, n, mk, g, q, hOr, hC, hM, hR⟩ := h
  exact ⟨ha, c, E, s, n, mk, g, q, hOr, hC.kp hW tx hS c1 c2 c3 c4 c5 c6 c7, hM.kp hW tm hS m1 m0 m2 m3 m4 m5 m6 m7 m8, hR⟩
section CzVl
variable {T : Nat → Nat} {cn : Nat} {K N : Nat → Nat} {I I8 I9 : cz_I} {R R8 : cz_R} {x m : Nat} {v8 v9 u1 u2 b8 b9 : Int32}
end CzVl
