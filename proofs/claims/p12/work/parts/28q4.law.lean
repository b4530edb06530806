/-- what both are, with the class's own sky -/
def LawN (I : cz_I) (R : cz_R) (x m : Nat) : Prop := ∃ (ha : Int) (c : Nat → Int) (E : Nat → Nat → Int) (s : Nat → Int) (n mk : Int) (g q : Nat → Nat → Int), OrC ha c E ∧ CVn I R x ha c E s n mk g q ∧ MVw I R m ha c E s n mk g q ∧ RgC ha s n mk g q
theorem LawN.s {I : cz_I} {R : cz_R} {x m : Nat} (h : LawN I R x m) : LawS I R x m := by
  obtain ⟨ha, c, E, s, n, mk, g, q, hOr, hC, hM, hR⟩ := h
  exact ⟨ha, c, E, s, n, mk, g, q, hOr, hC.1, hM, hR⟩
theorem LawN.c {I : cz_I} {R : cz_R} {x m : Nat} (h : LawN I R x m) : LawC I R x m := h.s.c
theorem LawN.kp {T : Nat → Nat} {cn : Nat} {K N : Nat → Nat} {d d' : Int} {wi wr : List Nat} {I I' : cz_I} {R R' : cz_R} {x m : Nat} (h : LawN I R x m) (hW : Wf T cn K N I R d) (tx : T x = 1) (tm : T m = 15) (hS : St T cn K N d' wi wr I R I' R') (c1 : okI [2, 3, 4, 5, 6, 18, 20, 24, 8, 10, 11, 27, 28, 31, 32] wi = true) (c2 : okI [2, 8, 10, 11, 19, 6, 21, 22, 23, 33, 34] wr = true) (c3 : wm wi 1 5 = false) (c4 : wm wr 1 2 = false) (c5 : wm wr 1 3 = false) (c6 : wm wr 1 6 = false) (c7 : wm wr 1 7 = false) (m1 : okI [14, 77, 78, 79] wi = true) (m0 : wi.all (fun c => !(rdm (c / 64))) = true) (m2 : okI [14] wr = true) (m3 : wm wi 15 19 = false) (m4 : wm wi 15 20 = false) (m5 : wm wr 15 3 = false) (m6 : wm wr 15 16 = false) (m7 : wm wr 15 17 = false) (m8 : wm wr 15 18 = false) (k1 : wi.all (fun z => !(Nat.ble 35 (z / 64) && Nat.ble (z / 64) 42)) = true := by decide +kernel) (k2 : okI [12] wr = true := by decide +kernel) (k3 : wm wi 1 9 = false := by decide +kernel) (k4 : wm wr 1 8 = false := by decide +kernel) (k5 : wm wr 1 13 = false := by decide +kernel) (n1 : wi.all (fun z => !(rdN (z / 64))) = true := by decide +kernel) (n2 : okI [12, 13] wr = true := by decide +kernel) (n3 : wm wi 1 11 = false := by decide +kernel) (n5 : wm wr 1 10 = false := by decide +kernel) (n6 : wm wr 1 14 = false := by decide +kernel) (n7 : okI [13] wr = true := by decide +kernel) : LawN I' R' x m := by
  obtain ⟨ha, c, E, s, n, mk, g, q, hOr, hC, hM, hR⟩ := h
  exact ⟨ha, c, E, s, n, mk, g, q, hOr, hC.kp hW tx hS c1 c2 c3 c4 c5 c6 c7 k1 k2 k3 k4 k5 n1 n2 n3 n5 n6 n7, hM.kp hW tm hS m1 m0 m2 m3 m4 m5 m6 m7 m8, hR⟩
section CzLn
variable {T : Nat → Nat} {cn : Nat} {K N : Nat → Nat} {I I8 I9 : cz_I} {R R8 R9 : cz_R} {x m : Nat} {v8 v9 u1 u2 b8 b9 : Int32}
theorem ln_cloud (h : LawN I R x m) (hW : Wf T cn K N I R 0) (tx : T x = 1) (tm : T m = 15) (g8 : St T cn K N 0 wik_X10_cloud wrk_X10_cloud I R I8 R8) (d8 : Cs_X10_cloud T I R x u1 u2 v8 I8 R8) (g9 : St T cn K N 0 wik_X12_cloud wrk_X12_cloud I8 R8 I9 R8) (d9 : Cs_X12_cloud T I8 R8 m u1 u2 v9 I9 R8) : v8.toInt = v9.toInt ∧ LawN I9 R8 x m := by
  obtain ⟨ha, c, E, s, n, mk, g, q, hOr, hC, hM, hR⟩ := h
  have cb := hC.cab hW tx
  have nb := hC.nb hW tx
  have h01 := hM.h01
  have hM8 := hM.kp hW tm g8 (by decide +kernel) (by decide +kernel) (by decide +kernel) (by decide +kernel) (by decide +kernel) (by decide +kernel) (by decide +kernel) (by decide +kernel) (by decide +kernel)
  have cc := cn_cloud hC hW tx g8 d8
  have mm := m_cloud hM8 g8.1 tm g9 d9 (hC.s1b hW tx)
  have hR2 := hR
  obtain ⟨r0, rg, rq, rh⟩ := hR2
  rcases cc with ⟨a1, a2, a3⟩ | ⟨a1, a2, a3⟩ <;> rcases mm with ⟨b1, b2, b3⟩ | ⟨b1, b2, b3⟩
  · exact ⟨by omega, ha, c, E, s, n, mk, g, q, hOr, a3.kp g8.1 tx g9 (by decide +kernel) (by decide +kernel) (by decide +kernel) (by decide +kernel) (by decide +kernel) (by decide +kernel) (by decide +kernel), b3, hR⟩
  · exfalso; exact a2 b2
  · exfalso; exact b2 a2
  · exact ⟨by omega, ha, c, E, _, _, _, _, _, hOr, a3.kp g8.1 tx g9 (by decide +kernel) (by decide +kernel) (by decide +kernel) (by decide +kernel) (by decide +kernel) (by decide +kernel) (by decide +kernel), b3, hR.keep (by omega) (ac_0 r0)⟩
theorem ln_draw (h : LawN I R x m) (hW : Wf T cn K N I R 0) (tx : T x = 1) (tm : T m = 15) (g8 : St T cn K N 0 wik_X10_draw wrk_X10_draw I R I8 R8) (d8 : Cs_X10_draw T I R x v8 I8 R8) (g9 : St T cn K N 0 wik_X12_draw wrk_X12_draw I8 R8 I9 R8) (d9 : Cs_X12_draw T I8 R8 m v9 I9 R8) : v8.toInt = v9.toInt ∧ LawN I9 R8 x m := by
  obtain ⟨ha, c, E, s, n, mk, g, q, hOr, hC, hM, hR⟩ := h
  have cb := hC.cab hW tx
  have nb := hC.nb hW tx
  have h01 := hM.h01
  have hM8 := hM.kp hW tm g8 (by decide +kernel) (by decide +kernel) (by decide +kernel) (by decide +kernel) (by decide +kernel) (by decide +kernel) (by decide +kernel) (by decide +kernel) (by decide +kernel)
  have cc := cn_draw hC hW tx g8 d8
  have mm := m_draw hM8 g8.1 tm g9 d9 (hC.s1b hW tx)
  have hR2 := hR
  obtain ⟨r0, rg, rq, rh⟩ := hR2
  rcases cc with ⟨a1, a2, a3⟩ | ⟨a1, a2, a3⟩ <;> rcases mm with ⟨b1, b2, b3⟩ | ⟨b1, b2, b3⟩
  · exact ⟨by omega, ha, c, E, s, n, mk, g, q, hOr, a3.kp g8.1 tx g9 (by decide +kernel) (by decide +kernel) (by decide +kernel) (by decide +kernel) (by decide +kernel) (by decide +kernel) (by decide +kernel), b3, hR⟩
  · exfalso; exact a2 b2
  · exfalso; exact b2 a2
  · exact ⟨by omega, ha, c, E, _, _, _, _, _, hOr, a3.kp g8.1 tx g9 (by decide +kernel) (by decide +kernel) (by decide +kernel) (by decide +kernel) (by decide +kernel) (by decide +kernel) (by decide +kernel), b3, hR.keep (by omega) (ac_0 r0)⟩
theorem ln_lift (h : LawN I R x m) (hW : Wf T cn K N I R 0) (tx : T x = 1) (tm : T m = 15) (g8 : St T cn K N 0 wik_X10_lift wrk_X10_lift I R I8 R8) (d8 : Cs_X10_lift T I R x v8 I8 R8) (g9 : St T cn K N 0 wik_X12_lift wrk_X12_lift I8 R8 I9 R8) (d9 : Cs_X12_lift T I8 R8 m v9 I9 R8) : v8.toInt = v9.toInt ∧ LawN I9 R8 x m := by
  obtain ⟨ha, c, E, s, n, mk, g, q, hOr, hC, hM, hR⟩ := h
  have cb := hC.cab hW tx
  have nb := hC.nb hW tx
  have h01 := hM.h01
  have hM8 := hM.kp hW tm g8 (by decide +kernel) (by decide +kernel) (by decide +kernel) (by decide +kernel) (by decide +kernel) (by decide +kernel) (by decide +kernel) (by decide +kernel) (by decide +kernel)
  have cc := cn_lift hC hW tx g8 d8
  have mm := m_lift hM8 g8.1 tm g9 d9 (hC.s1b hW tx)
  have hR2 := hR
  obtain ⟨r0, rg, rq, rh⟩ := hR2
  rcases cc with ⟨a1, a2, a3⟩ | ⟨a1, a2, a3⟩ <;> rcases mm with ⟨b1, b2, b3⟩ | ⟨b1, b2, b3⟩
  · exact ⟨by omega, ha, c, E, s, n, mk, g, q, hOr, a3.kp g8.1 tx g9 (by decide +kernel) (by decide +kernel) (by decide +kernel) (by decide +kernel) (by decide +kernel) (by decide +kernel) (by decide +kernel), b3, hR⟩
  · exfalso; omega
  · exfalso; have := rh; omega
  · exact ⟨by omega, ha, c, E, _, _, _, _, _, hOr, a3.kp g8.1 tx g9 (by decide +kernel) (by decide +kernel) (by decide +kernel) (by decide +kernel) (by decide +kernel) (by decide +kernel) (by decide +kernel), b3, hR.keep (by omega) ⟨show 0 ≤ s 0 from r0.1, r0.2⟩⟩
theorem ln_seed (h : LawN I R x m) (hW : Wf T cn K N I R 0) (tx : T x = 1) (tm : T m = 15) (g8 : St T cn K N 0 wik_X10_seed wrk_X10_seed I R I8 R) (d8 : Cs_X10_seed T I R x u1 v8 I8 R) (g9 : St T cn K N 0 wik_X12_seed wrk_X12_seed I8 R I9 R) (d9 : Cs_X12_seed T I8 R m u1 v9 I9 R) : v8.toInt = v9.toInt ∧ LawN I9 R x m := by
  obtain ⟨ha, c, E, s, n, mk, g, q, hOr, hC, hM, hR⟩ := h
  have cb := hC.cab hW tx
  have nb := hC.nb hW tx
  have h01 := hM.h01
  have hM8 := hM.kp hW tm g8 (by decide +kernel) (by decide +kernel) (by decide +kernel) (by decide +kernel) (by decide +kernel) (by decide +kernel) (by decide +kernel) (by decide +kernel) (by decide +kernel)
  have cc := cn_seed hC hW tx g8 d8
  have mm := m_seed hM8 g8.1 tm g9 d9 (hC.s1b hW tx)
  have hR2 := hR
  obtain ⟨r0, rg, rq, rh⟩ := hR2
  rcases cc with ⟨a1, a2, a3⟩ | ⟨a1, a2, a3⟩ <;> rcases mm with ⟨b1, b2, b3⟩ | ⟨b1, b2, b3⟩
  · exact ⟨by omega, ha, c, E, s, n, mk, g, q, hOr, a3.kp g8.1 tx g9 (by decide +kernel) (by decide +kernel) (by decide +kernel) (by decide +kernel) (by decide +kernel) (by decide +kernel) (by decide +kernel), b3, hR⟩
  · exfalso; exact a2 b2
  · exfalso; exact b2 a2
  · exact ⟨by omega, ha, c, E, _, _, _, _, _, hOr, a3.kp g8.1 tx g9 (by decide +kernel) (by decide +kernel) (by decide +kernel) (by decide +kernel) (by decide +kernel) (by decide +kernel) (by decide +kernel), b3, ⟨r0, rg, rq, fun z => by omega⟩⟩
theorem ln_undo (h : LawN I R x m) (hW : Wf T cn K N I R 0) (tx : T x = 1) (tm : T m = 15) (g8 : St T cn K N 0 wik_X10_undo wrk_X10_undo I R I8 R) (d8 : Cs_X10_undo T I R x v8 I8 R) (g9 : St T cn K N 0 wik_X12_undo wrk_X12_undo I8 R I9 R) (d9 : Cs_X12_undo T I8 R m v9 I9 R) : v8.toInt = v9.toInt ∧ LawN I9 R x m := by
  obtain ⟨ha, c, E, s, n, mk, g, q, hOr, hC, hM, hR⟩ := h
  have cb := hC.cab hW tx
  have nb := hC.nb hW tx
  have h01 := hM.h01
  have hM8 := hM.kp hW tm g8 (by decide +kernel) (by decide +kernel) (by decide +kernel) (by decide +kernel) (by decide +kernel) (by decide +kernel) (by decide +kernel) (by decide +kernel) (by decide +kernel)
  have cc := cn_undo hC hW tx g8 d8
  have mm := m_undo hM8 g8.1 tm g9 d9 (hC.s1b hW tx)
  have hR2 := hR
  obtain ⟨r0, rg, rq, rh⟩ := hR2
  rcases cc with ⟨a1, a2, a3⟩ | ⟨a1, a2, a3⟩ <;> rcases mm with ⟨b1, b2, b3⟩ | ⟨b1, b2, b3⟩
  · exact ⟨by omega, ha, c, E, s, n, mk, g, q, hOr, a3.kp g8.1 tx g9 (by decide +kernel) (by decide +kernel) (by decide +kernel) (by decide +kernel) (by decide +kernel) (by decide +kernel) (by decide +kernel), b3, hR⟩
  · exfalso; omega
  · exfalso; have := rh; omega
  · exact ⟨by omega, ha, c, E, _, _, _, _, _, hOr, a3.kp g8.1 tx g9 (by decide +kernel) (by decide +kernel) (by decide +kernel) (by decide +kernel) (by decide +kernel) (by decide +kernel) (by decide +kernel), b3, ⟨rg _ (by omega), fun i hi => rg i (by omega), rq, fun z => by omega⟩⟩
theorem ln_back (h : LawN I R x m) (hW : Wf T cn K N I R 0) (tx : T x = 1) (tm : T m = 15) (g8 : St T cn K N 0 wik_X10_back wrk_X10_back I R I8 R) (d8 : Cs_X10_back T I R x u1 v8 I8 R) (g9 : St T cn K N 0 wik_X12_back wrk_X12_back I8 R I9 R) (d9 : Cs_X12_back T I8 R m u1 v9 I9 R) : v8.toInt = v9.toInt ∧ LawN I9 R x m := by
  obtain ⟨ha, c, E, s, n, mk, g, q, hOr, hC, hM, hR⟩ := h
  have cb := hC.cab hW tx
  have nb := hC.nb hW tx
  have h01 := hM.h01
  have hM8 := hM.kp hW tm g8 (by decide +kernel) (by decide +kernel) (by decide +kernel) (by decide +kernel) (by decide +kernel) (by decide +kernel) (by decide +kernel) (by decide +kernel) (by decide +kernel)
  have cc := cn_back hC hW tx g8 d8
  have mm := m_back hM8 g8.1 tm g9 d9 (hC.s1b hW tx)
  have hR2 := hR
  obtain ⟨r0, rg, rq, rh⟩ := hR2
  rcases cc with ⟨a1, a2, a3⟩ | ⟨a1, a2, a3⟩ <;> rcases mm with ⟨b1, b2, b3⟩ | ⟨b1, b2, b3⟩
  · exact ⟨by omega, ha, c, E, s, n, mk, g, q, hOr, a3.kp g8.1 tx g9 (by decide +kernel) (by decide +kernel) (by decide +kernel) (by decide +kernel) (by decide +kernel) (by decide +kernel) (by decide +kernel), b3, hR⟩
  · exfalso; omega
  · exfalso; have := rh; omega
  · exact ⟨by omega, ha, c, E, _, _, _, _, _, hOr, a3.kp g8.1 tx g9 (by decide +kernel) (by decide +kernel) (by decide +kernel) (by decide +kernel) (by decide +kernel) (by decide +kernel) (by decide +kernel), b3, ⟨rq _ (by omega), fun i hi => by omega, rq, fun z => by omega⟩⟩
theorem ln_mark (h : LawN I R x m) (hW : Wf T cn K N I R 0) (tx : T x = 1) (tm : T m = 15) (g8 : St T cn K N 0 wik_X10_mark wrk_X10_mark I R I8 R) (d8 : Cs_X10_mark T I R x v8 I8 R) (g9 : St T cn K N 0 wik_X12_mark wrk_X12_mark I8 R I9 R) (d9 : Cs_X12_mark T I8 R m v9 I9 R) : v8.toInt = v9.toInt ∧ LawN I9 R x m := by
  obtain ⟨ha, c, E, s, n, mk, g, q, hOr, hC, hM, hR⟩ := h
  have cb := hC.cab hW tx
  have nb := hC.nb hW tx
  have h01 := hM.h01
  have hM8 := hM.kp hW tm g8 (by decide +kernel) (by decide +kernel) (by decide +kernel) (by decide +kernel) (by decide +kernel) (by decide +kernel) (by decide +kernel) (by decide +kernel) (by decide +kernel)
  have cc := cn_mark hC hW tx g8 d8
  have mm := m_mark hM8 g8.1 tm g9 d9 (hC.s1b hW tx)
  have hR2 := hR
  obtain ⟨r0, rg, rq, rh⟩ := hR2
  rcases cc with ⟨a1, a2, a3⟩ | ⟨a1, a2, a3⟩ <;> rcases mm with ⟨b1, b2, b3⟩ | ⟨b1, b2, b3⟩
  · exact ⟨by omega, ha, c, E, s, n, mk, g, q, hOr, a3.kp g8.1 tx g9 (by decide +kernel) (by decide +kernel) (by decide +kernel) (by decide +kernel) (by decide +kernel) (by decide +kernel) (by decide +kernel), b3, hR⟩
  · exfalso; exact a2 b2
  · exfalso; exact b2 a2
  · exact ⟨by omega, ha, c, E, _, _, _, _, _, hOr, a3.kp g8.1 tx g9 (by decide +kernel) (by decide +kernel) (by decide +kernel) (by decide +kernel) (by decide +kernel) (by decide +kernel) (by decide +kernel), b3, ⟨r0, rg, fun i hi => by
      show 0 ≤ (if (i : Int) < mk then q i 0 else s 0) ∧ (if (i : Int) < mk then q i 0 else s 0) ≤ 63
      split
      · rename_i z; exact rq i z
      · exact r0, fun z => by omega⟩⟩
theorem ln_call (h : LawN I R x m) (hW : Wf T cn K N I R 0) (tx : T x = 1) (tm : T m = 15) (g8 : St T cn K N 0 wik_X10_call wrk_X10_call I R I8 R8) (d8 : Cs_X10_call T I R x u1 b8 v8 I8 R8) (g9 : St T cn K N 0 wik_X12_call wrk_X12_call I8 R8 I9 R8) (d9 : Cs_X12_call T I8 R8 m u1 b9 v9 I9 R8) (eb : b8.toInt = b9.toInt) : v8.toInt = v9.toInt ∧ LawN I9 R8 x m := by
  obtain ⟨ha, c, E, s, n, mk, g, q, hOr, hC, hM, hR⟩ := h
  have cb := hC.cab hW tx
  have nb := hC.nb hW tx
  have h01 := hM.h01
  have hM8 := hM.kp hW tm g8 (by decide +kernel) (by decide +kernel) (by decide +kernel) (by decide +kernel) (by decide +kernel) (by decide +kernel) (by decide +kernel) (by decide +kernel) (by decide +kernel)
  have cc := cn_call hC hW tx g8 d8
  have mm := m_call hM8 g8.1 tm g9 d9 (hC.s1b hW tx)
  have hR2 := hR
  obtain ⟨r0, rg, rq, rh⟩ := hR2
  rw [← eb] at mm
  rcases cc with ⟨a1, a2, a3⟩ | ⟨a1, a2, z1, y1, a3⟩ <;> rcases mm with ⟨b1, b2, b3⟩ | ⟨b1, b2, z2, y2, b3⟩
  · exact ⟨by omega, ha, c, E, s, n, mk, g, q, hOr, a3.kp g8.1 tx g9 (by decide +kernel) (by decide +kernel) (by decide +kernel) (by decide +kernel) (by decide +kernel) (by decide +kernel) (by decide +kernel), b3, hR⟩
  · exact absurd b2.2 a2
  · exfalso
    obtain ⟨w, p, k, -, -, -, hav, -⟩ := hM
    rcases hav with ⟨h1, -, h4⟩ | ⟨h1, -⟩
    · have := h4 5; omega
    · exact b2 ⟨h1, a2⟩
  · obtain rfl : z1 = z2 := Int32.toInt_inj.mp (y1.trans y2.symm)
    exact ⟨by omega, ha, c, E, _, _, _, _, _, hOr, a3.kp g8.1 tx g9 (by decide +kernel) (by decide +kernel) (by decide +kernel) (by decide +kernel) (by decide +kernel) (by decide +kernel) (by decide +kernel), b3, hR.keep (by omega) (xo_b (by rw [y1]; exact r0) (by omega))⟩
theorem ln_calls (h : LawN I R x m) (hW : Wf T cn K N I R 0) (tx : T x = 1) (tm : T m = 15) (g8 : St T cn K N 0 wik_X10_calls wrk_X10_calls I R I8 R) (d8 : Cs_X10_calls T I R x v8 I8 R) (g9 : St T cn K N 0 wik_X12_calls wrk_X12_calls I8 R I9 R) (d9 : Cs_X12_calls T I8 R m v9 I9 R) : v8.toInt = v9.toInt ∧ LawN I9 R x m := by
  obtain ⟨ha, c, E, s, n, mk, g, q, hOr, hC, hM, hR⟩ := h
  have hM8 := hM.kp hW tm g8 (by decide +kernel) (by decide +kernel) (by decide +kernel) (by decide +kernel) (by decide +kernel) (by decide +kernel) (by decide +kernel) (by decide +kernel) (by decide +kernel)
  have hC8 := hC.kp hW tx g8 (by decide +kernel) (by decide +kernel) (by decide +kernel) (by decide +kernel) (by decide +kernel) (by decide +kernel) (by decide +kernel)
  have h0 := hC.1.1
  obtain ⟨al, dr, nw, pa, A, B, hp, s1, -, -, ⟨t0, t1, t2, -⟩, s5, s6, -⟩ := h0
  obtain ⟨p1, p2, p3, p4, p5, p6, p7⟩ := hp
  have h1 := hM8
  obtain ⟨w, p, k, k1, k2, k3, hav, hs, -⟩ := h1
  have s0 := hs.1 0 (by omega)
  refine ⟨?_, ha, c, E, s, n, mk, g, q, hOr, hC8.kp g8.1 tx g9 (by decide +kernel) (by decide +kernel) (by decide +kernel) (by decide +kernel) (by decide +kernel) (by decide +kernel) (by decide +kernel), hM8.kp g8.1 tm g9 (by decide +kernel) (by decide +kernel) (by decide +kernel) (by decide +kernel) (by decide +kernel) (by decide +kernel) (by decide +kernel) (by decide +kernel) (by decide +kernel), hR⟩
  rcases d8 with ⟨a1, a2, -⟩ | ⟨a1, a2, -⟩ <;> rcases d9 with ⟨b1, b2, -⟩ | ⟨b1, b2, -⟩
  · omega
  · have := (hM8.ha1 b2).1
    omega
  · have := hM8.ha0 b2
    omega
  · have y1 := a2 nw p4
    have y2 := b1 w k1
    omega
theorem ln_alpN (h : LawN I R x m) (k9 : (I8 x 9).toInt = (I x 9).toInt) (k11 : (I8 x 11).toInt = (I x 11).toInt) (hW : Wf T cn K N I R 0) (tx : T x = 1) (tm : T m = 15) (g8 : St T cn K N 0 wik_X10_alp wrk_X10_alp I R I8 R8) (hF : ∀ dr, R x 3 = some dr → FrK R dr (fun _ => True) T I I8) (hO : ∀ dr, R x 3 = some dr → FrO 2 dr T I I8) (kr : R8 x 2 = R x 2 ∧ R8 x 3 = R x 3) (kp : (∀ a j, R7 (T a) → I8 a j = I a j) ∧ I8 x 5 = I x 5) (hI9 : ∀ a j, a < cn → wm wi_alpT (T a) j = false → I9 a j = I8 a j) (hR9 : ∀ a j, a < cn → wm wr_alpT (T a) j = false → R9 a j = R8 a j) (h14 : ∀ a j, a < cn → T a = 14 → I9 a j = I8 a j) (hN : AlN T cn I8 I9 R8 R9 m) : LawN I9 R9 x m := by
  obtain ⟨ha, c, E, s, n, mk, g, q, hOr, hC, hM, hR⟩ := h
  have lt : ∀ a r, T a = r → ¬ r = 0 → a < cn := fun a r ta hr => (g8.1.1 a (by rw [ta]; exact hr)).1
  have hm : m < cn := lt m 15 tm (by decide)
  have hC8 : CVn I8 R8 x ha c E s n mk g q := CVn.alpN hC k9 k11 g8 hW tx kr.1 (hC.1.1.alpN hW tx hO hF kr kp (g8.rcell tx (by decide +kernel)) (g8.rcell tx (by decide +kernel)) (fun a j ta => by
    rcases ta with ta | ta | ta | ta | ta | ta | ta | ta | ta | ta | ta <;> exact g8.rcell ta (wm_no (by decide +kernel))))
  have hM8 := hM.kp hW tm g8 (by decide +kernel) (by decide +kernel) (by decide +kernel) (by decide +kernel) (by decide +kernel) (by decide +kernel) (by decide +kernel) (by decide +kernel) (by decide +kernel)
  obtain ⟨n3, n19, n20, nr⟩ := hN
  refine ⟨ha, c, E, s, n, mk, g, q, hOr, hC8.alp9 g8.1 tx hI9 hR9, ?_, hR⟩
  obtain ⟨w, p, k, p1, p2, p3, hav, hs, hn, hmk, hp, hk⟩ := hM8
  have tw : T w = 77 := g8.1.rs tm rfl rfl p1
  have tp : T p = 78 := g8.1.rs tm rfl rfl p2
  have tk : T k = 79 := g8.1.rs tm rfl rfl p3
  refine ⟨w, p, k, (hR9 m 16 hm (by rw [tm]; decide +kernel)).trans p1, (hR9 m 17 hm (by rw [tm]; decide +kernel)).trans p2, (hR9 m 18 hm (by rw [tm]; decide +kernel)).trans p3, hav.kp n3 (fun b hb => ?_), hs.eq (fun c _ => nr w c (lt w 77 tw (by decide)) (Or.inl tw)), by rw [n19]; exact hn, by rw [n20]; exact hmk, fun i hi => (hp i hi).eq (fun c _ => nr p _ (lt p 78 tp (by decide)) (Or.inr (Or.inl tp))), fun i hi => (hk i hi).eq (fun c _ => nr k _ (lt k 79 tk (by decide)) (Or.inr (Or.inr (Or.inl tk))))⟩
  have tb : T b = 14 := g8.1.rsN tm rfl hb
  have hb' : b < cn := lt b 14 tb (by decide)
  exact ⟨fun j => h14 b j hb' tb, fun v => (v.kp g8.1 tb (h14 b 8 hb' tb) (fun a j ta => nr a j (lt a _ rfl (fun z => by rw [z] at ta; cases ta)) (Or.inr (Or.inr (Or.inr ta))))).cr (fun j => hR9 b j hb' (by rw [tb]; exact wm_no (by decide +kernel)))⟩
theorem ln_alpY {l : Nat → Int} {E' : Nat → Nat → Int} (h : LawN I R x m) (k9 : (I8 x 9).toInt = 0) (k11 : (I8 x 11).toInt = 0) (hOr1 : OrC 1 l E') (hW : Wf T cn K N I R 0) (tx : T x = 1) (tm : T m = 15) (g8 : St T cn K N 0 wik_X10_alp wrk_X10_alp I R I8 R8) (r2 : R8 x 2 = R x 3 ∧ R8 x 3 = R x 2) (f3 : ∀ dr, R x 3 = some dr → AlT R dr → AlC I8 R dr l E') (f1 : (I8 x 5).toInt = 1) (f4 : ∀ b, R8 x 6 = some b → (I8 b 0).toInt = 0) (f5 : ∀ b, R8 x 6 = some b → (I8 b 1).toInt = 0) (f6 : ∀ b, R8 x 6 = some b → (I8 b 2).toInt = 0) (f7 : ∀ b, R8 x 7 = some b → (I8 b 0).toInt = 0) (f8 : ∀ b, R8 x 7 = some b → (I8 b 2).toInt = 0) (f2 : ∀ b, R8 x 2 = some b → ∀ k, k < 7 → (I8 b (csl k)).toInt = l k) (hI9 : ∀ a j, a < cn → wm wi_alpT (T a) j = false → I9 a j = I8 a j) (hR9 : ∀ a j, a < cn → wm wr_alpT (T a) j = false → R9 a j = R8 a j) (hY : AlY I9 R8 R9 m l E') : LawN I9 R9 x m := by
  obtain ⟨ha, c, E, s, n, mk, g, q, hOr, hC, hM, hR⟩ := h
  have lt : ∀ a r, T a = r → ¬ r = 0 → a < cn := fun a r ta hr => (g8.1.1 a (by rw [ta]; exact hr)).1
  have hm : m < cn := lt m 15 tm (by decide)
  have hC8 : CVn I8 R8 x 1 l E' (fun _ => 0) 0 0 g q := CVn.alpY hC k9 k11 g8 hW tx (hC.1.1.alpY hW tx r2 (g8.rcell tx (by decide +kernel)) (g8.rcell tx (by decide +kernel)) (fun a j ta => by
    rcases ta with ta | ta | ta | ta | ta | ta | ta | ta | ta | ta | ta <;> exact g8.rcell ta (wm_no (by decide +kernel))) f1 (fun b hb => ⟨f2 b hb 0 (by omega), f2 b hb, f2 b hb 2 (by omega), f2 b hb 5 (by omega)⟩) f3 f4 f5 f6 f7 f8)
  have hM8 := hM.kp hW tm g8 (by decide +kernel) (by decide +kernel) (by decide +kernel) (by decide +kernel) (by decide +kernel) (by decide +kernel) (by decide +kernel) (by decide +kernel) (by decide +kernel)
  obtain ⟨w, p, k, p1, p2, p3, -⟩ := hM8
  obtain ⟨⟨b, y1, y2, y3, y4, y5, y6⟩, yw, y19, y20⟩ := hY
  exact ⟨1, l, E', fun _ => 0, 0, 0, g, q, hOr1, hC8.alp9 g8.1 tx hI9 hR9, ⟨w, p, k, (hR9 m 16 hm (by rw [tm]; decide +kernel)).trans p1, (hR9 m 17 hm (by rw [tm]; decide +kernel)).trans p2, (hR9 m 18 hm (by rw [tm]; decide +kernel)).trans p3, Or.inr ⟨rfl, b, y1, y2, y3, y4, y5, y6⟩, ⟨fun c hc => by rw [yw w p1 c (by omega)]; rfl, fun k hk z => by exfalso; revert z; show ¬ (k : Int) < 0; omega⟩, y19, y20, fun i hi => by omega, fun i hi => by omega⟩, ⟨by decide, by decide⟩, fun i hi => by omega, fun i hi => by omega, fun z => by omega⟩
theorem ln_nights (tx : T x = 1) (tm : T m = 15) (h8 : LawN I8 R8 x m) (hW8 : Wf T cn K N I8 R8 0) (g9 : St T cn K N 0 wik_X12_nights wrk_X12_nights I8 R8 I9 R8) (hr : ∀ w, R8 m 16 = some w → ∀ c : Nat, c < 15 → I9 w c = I8 w c) : LawN I9 R8 x m := by
  obtain ⟨ha, c, E, s, n, mk, g, q, hOr, hC, hM, hR⟩ := h8
  refine ⟨ha, c, E, s, n, mk, g, q, hOr, hC.kp hW8 tx g9 (by decide +kernel) (by decide +kernel) (by decide +kernel) (by decide +kernel) (by decide +kernel) (by decide +kernel) (by decide +kernel), ?_, hR⟩
  obtain ⟨w, p, k, p1, p2, p3, hav, hs, hn, hmk, hp, hk⟩ := hM
  have tp : T p = 78 := hW8.rs tm rfl rfl p2
  have tk : T k = 79 := hW8.rs tm rfl rfl p3
  exact ⟨w, p, k, p1, p2, p3, hav.kq hW8 tm (fun a j ta => by
    rcases ta with ta | ta
    · exact g9.cell ta (wm_no (by decide +kernel))
    · exact g9.2.1 a j (wm_p (p := fun r => !(rdm r)) (by decide +kernel) (by rw [ta]; rfl))), hs.eq (fun c hc => hr w p1 c hc), by rw [g9.cell tm (by decide +kernel)]; exact hn, by rw [g9.cell tm (by decide +kernel)]; exact hmk, fun i hi => (hp i hi).eq (fun c _ => g9.cell tp (wm_no (by decide +kernel))), fun i hi => (hk i hi).eq (fun c _ => g9.cell tk (wm_no (by decide +kernel)))⟩
end CzLn
