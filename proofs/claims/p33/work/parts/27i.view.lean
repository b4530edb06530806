/-! ===== the law's roads of the acts ===== -/
section CzVl
variable {T : Nat → Nat} {cn : Nat} {K N : Nat → Nat} {I I8 I9 : cz_I} {R R8 : cz_R} {x m : Nat} {v8 v9 u1 u2 b8 b9 : Int32}
theorem CVw.cab {ha mi ca n mk : Int} {s : Nat → Int} {g q : Nat → Nat → Int} {d : Int} (h : CVw I R x ha mi ca s n mk g q) (hW : Wf T cn K N I R d) (tx : T x = 1) : 0 ≤ ca ∧ ca ≤ 6 := by
  obtain ⟨al, dr, nw, pa, A, B, ⟨p1, -⟩, ⟨-, -, s3, -⟩, -⟩ := h
  have a := iv2_11 hW (hW.rs tx rfl rfl p1) (rfl : I al 11 = I al 11)
  omega
theorem MVw.h01 {ha mi ca n mk : Int} {s : Nat → Int} {g q : Nat → Nat → Int} (h : MVw I R m ha mi ca s n mk g q) : ha = 0 ∨ ha = 1 := by
  obtain ⟨w, p, k, -, -, -, hav, -⟩ := h
  rcases hav with ⟨h1, -⟩ | ⟨h1, -⟩
  · exact Or.inl h1
  · exact Or.inr h1
theorem lw_cloud (h : LawA I R x m) (hW : Wf T cn K N I R 0) (tx : T x = 1) (tm : T m = 15) (g8 : St T cn K N 0 wik_X10_cloud wrk_X10_cloud I R I8 R8) (d8 : Cs_X10_cloud T I R x u1 u2 v8 I8 R8) (g9 : St T cn K N 0 wik_X12_cloud wrk_X12_cloud I8 R8 I9 R8) (d9 : Cs_X12_cloud T I8 R8 m u1 u2 v9 I9 R8) : v8.toInt = v9.toInt ∧ LawA I9 R8 x m := by
  obtain ⟨ha, mi, ca, s, n, mk, g, q, hC, hM, hR⟩ := h
  have cb := hC.cab hW tx
  have nb := hC.nb hW tx
  have h01 := hM.h01
  have hM8 := hM.kp hW tm g8 (by decide +kernel) (by decide +kernel) (by decide +kernel) (by decide +kernel) (by decide +kernel) (by decide +kernel) (by decide +kernel) (by decide +kernel) (by decide +kernel) (by decide +kernel)
  have c := c_cloud hC hW tx g8 d8
  have mm := m_cloud hM8 g8.1 tm g9 d9
  have hR2 := hR
  obtain ⟨r0, rg, rq, rh⟩ := hR2
  rcases c with ⟨a1, a2, a3⟩ | ⟨a1, a2, a3⟩ <;> rcases mm with ⟨b1, b2, b3⟩ | ⟨b1, b2, b3⟩
  · exact ⟨by omega, ha, mi, ca, s, n, mk, g, q, a3.kp g8.1 tx g9 (by decide +kernel) (by decide +kernel) (by decide +kernel) (by decide +kernel) (by decide +kernel) (by decide +kernel) (by decide +kernel) (by decide +kernel) (by decide +kernel) (by decide +kernel) (by decide +kernel) (by decide +kernel), b3, hR⟩
  · exfalso; exact a2 b2
  · exfalso; exact b2 a2
  · exact ⟨by omega, ha, mi, ca, _, _, _, _, _, a3.kp g8.1 tx g9 (by decide +kernel) (by decide +kernel) (by decide +kernel) (by decide +kernel) (by decide +kernel) (by decide +kernel) (by decide +kernel) (by decide +kernel) (by decide +kernel) (by decide +kernel) (by decide +kernel) (by decide +kernel), b3, hR.keep (by omega) ⟨show 0 ≤ s 0 from r0.1, r0.2⟩⟩
theorem lw_draw (h : LawA I R x m) (hW : Wf T cn K N I R 0) (tx : T x = 1) (tm : T m = 15) (g8 : St T cn K N 0 wik_X10_draw wrk_X10_draw I R I8 R8) (d8 : Cs_X10_draw T I R x v8 I8 R8) (g9 : St T cn K N 0 wik_X12_draw wrk_X12_draw I8 R8 I9 R8) (d9 : Cs_X12_draw T I8 R8 m v9 I9 R8) : v8.toInt = v9.toInt ∧ LawA I9 R8 x m := by
  obtain ⟨ha, mi, ca, s, n, mk, g, q, hC, hM, hR⟩ := h
  have cb := hC.cab hW tx
  have nb := hC.nb hW tx
  have h01 := hM.h01
  have hM8 := hM.kp hW tm g8 (by decide +kernel) (by decide +kernel) (by decide +kernel) (by decide +kernel) (by decide +kernel) (by decide +kernel) (by decide +kernel) (by decide +kernel) (by decide +kernel) (by decide +kernel)
  have c := c_draw hC hW tx g8 d8
  have mm := m_draw hM8 g8.1 tm g9 d9
  have hR2 := hR
  obtain ⟨r0, rg, rq, rh⟩ := hR2
  rcases c with ⟨a1, a2, a3⟩ | ⟨a1, a2, a3⟩ <;> rcases mm with ⟨b1, b2, b3⟩ | ⟨b1, b2, b3⟩
  · exact ⟨by omega, ha, mi, ca, s, n, mk, g, q, a3.kp g8.1 tx g9 (by decide +kernel) (by decide +kernel) (by decide +kernel) (by decide +kernel) (by decide +kernel) (by decide +kernel) (by decide +kernel) (by decide +kernel) (by decide +kernel) (by decide +kernel) (by decide +kernel) (by decide +kernel), b3, hR⟩
  · exfalso; exact a2 b2
  · exfalso; exact b2 a2
  · exact ⟨by omega, ha, mi, ca, _, _, _, _, _, a3.kp g8.1 tx g9 (by decide +kernel) (by decide +kernel) (by decide +kernel) (by decide +kernel) (by decide +kernel) (by decide +kernel) (by decide +kernel) (by decide +kernel) (by decide +kernel) (by decide +kernel) (by decide +kernel) (by decide +kernel), b3, hR.keep (by omega) ⟨show 0 ≤ s 0 from r0.1, r0.2⟩⟩
theorem lw_lift (h : LawA I R x m) (hW : Wf T cn K N I R 0) (tx : T x = 1) (tm : T m = 15) (g8 : St T cn K N 0 wik_X10_lift wrk_X10_lift I R I8 R8) (d8 : Cs_X10_lift T I R x v8 I8 R8) (g9 : St T cn K N 0 wik_X12_lift wrk_X12_lift I8 R8 I9 R8) (d9 : Cs_X12_lift T I8 R8 m v9 I9 R8) : v8.toInt = v9.toInt ∧ LawA I9 R8 x m := by
  obtain ⟨ha, mi, ca, s, n, mk, g, q, hC, hM, hR⟩ := h
  have cb := hC.cab hW tx
  have nb := hC.nb hW tx
  have h01 := hM.h01
  have hM8 := hM.kp hW tm g8 (by decide +kernel) (by decide +kernel) (by decide +kernel) (by decide +kernel) (by decide +kernel) (by decide +kernel) (by decide +kernel) (by decide +kernel) (by decide +kernel) (by decide +kernel)
  have c := c_lift hC hW tx g8 d8
  have mm := m_lift hM8 g8.1 tm g9 d9
  have hR2 := hR
  obtain ⟨r0, rg, rq, rh⟩ := hR2
  rcases c with ⟨a1, a2, a3⟩ | ⟨a1, a2, a3⟩ <;> rcases mm with ⟨b1, b2, b3⟩ | ⟨b1, b2, b3⟩
  · exact ⟨by omega, ha, mi, ca, s, n, mk, g, q, a3.kp g8.1 tx g9 (by decide +kernel) (by decide +kernel) (by decide +kernel) (by decide +kernel) (by decide +kernel) (by decide +kernel) (by decide +kernel) (by decide +kernel) (by decide +kernel) (by decide +kernel) (by decide +kernel) (by decide +kernel), b3, hR⟩
  · exfalso; omega
  · exfalso; have := rh; omega
  · exact ⟨by omega, ha, mi, ca, _, _, _, _, _, a3.kp g8.1 tx g9 (by decide +kernel) (by decide +kernel) (by decide +kernel) (by decide +kernel) (by decide +kernel) (by decide +kernel) (by decide +kernel) (by decide +kernel) (by decide +kernel) (by decide +kernel) (by decide +kernel) (by decide +kernel), b3, hR.keep (by omega) ⟨show 0 ≤ s 0 from r0.1, r0.2⟩⟩
theorem lw_seed (h : LawA I R x m) (hW : Wf T cn K N I R 0) (tx : T x = 1) (tm : T m = 15) (g8 : St T cn K N 0 wik_X10_seed wrk_X10_seed I R I8 R) (d8 : Cs_X10_seed T I R x u1 v8 I8 R) (g9 : St T cn K N 0 wik_X12_seed wrk_X12_seed I8 R I9 R) (d9 : Cs_X12_seed T I8 R m u1 v9 I9 R) : v8.toInt = v9.toInt ∧ LawA I9 R x m := by
  obtain ⟨ha, mi, ca, s, n, mk, g, q, hC, hM, hR⟩ := h
  have cb := hC.cab hW tx
  have nb := hC.nb hW tx
  have h01 := hM.h01
  have hM8 := hM.kp hW tm g8 (by decide +kernel) (by decide +kernel) (by decide +kernel) (by decide +kernel) (by decide +kernel) (by decide +kernel) (by decide +kernel) (by decide +kernel) (by decide +kernel) (by decide +kernel)
  have c := c_seed hC hW tx g8 d8
  have mm := m_seed hM8 g8.1 tm g9 d9
  have hR2 := hR
  obtain ⟨r0, rg, rq, rh⟩ := hR2
  rcases c with ⟨a1, a2, a3⟩ | ⟨a1, a2, a3⟩ <;> rcases mm with ⟨b1, b2, b3⟩ | ⟨b1, b2, b3⟩
  · exact ⟨by omega, ha, mi, ca, s, n, mk, g, q, a3.kp g8.1 tx g9 (by decide +kernel) (by decide +kernel) (by decide +kernel) (by decide +kernel) (by decide +kernel) (by decide +kernel) (by decide +kernel) (by decide +kernel) (by decide +kernel) (by decide +kernel) (by decide +kernel) (by decide +kernel), b3, hR⟩
  · exfalso; exact a2 b2
  · exfalso; exact b2 a2
  · exact ⟨by omega, ha, mi, ca, _, _, _, _, _, a3.kp g8.1 tx g9 (by decide +kernel) (by decide +kernel) (by decide +kernel) (by decide +kernel) (by decide +kernel) (by decide +kernel) (by decide +kernel) (by decide +kernel) (by decide +kernel) (by decide +kernel) (by decide +kernel) (by decide +kernel), b3, ⟨r0, rg, rq, fun z => by omega⟩⟩
theorem lw_undo (h : LawA I R x m) (hW : Wf T cn K N I R 0) (tx : T x = 1) (tm : T m = 15) (g8 : St T cn K N 0 wik_X10_undo wrk_X10_undo I R I8 R) (d8 : Cs_X10_undo T I R x v8 I8 R) (g9 : St T cn K N 0 wik_X12_undo wrk_X12_undo I8 R I9 R) (d9 : Cs_X12_undo T I8 R m v9 I9 R) : v8.toInt = v9.toInt ∧ LawA I9 R x m := by
  obtain ⟨ha, mi, ca, s, n, mk, g, q, hC, hM, hR⟩ := h
  have cb := hC.cab hW tx
  have nb := hC.nb hW tx
  have h01 := hM.h01
  have hM8 := hM.kp hW tm g8 (by decide +kernel) (by decide +kernel) (by decide +kernel) (by decide +kernel) (by decide +kernel) (by decide +kernel) (by decide +kernel) (by decide +kernel) (by decide +kernel) (by decide +kernel)
  have c := c_undo hC hW tx g8 d8
  have mm := m_undo hM8 g8.1 tm g9 d9
  have hR2 := hR
  obtain ⟨r0, rg, rq, rh⟩ := hR2
  rcases c with ⟨a1, a2, a3⟩ | ⟨a1, a2, a3⟩ <;> rcases mm with ⟨b1, b2, b3⟩ | ⟨b1, b2, b3⟩
  · exact ⟨by omega, ha, mi, ca, s, n, mk, g, q, a3.kp g8.1 tx g9 (by decide +kernel) (by decide +kernel) (by decide +kernel) (by decide +kernel) (by decide +kernel) (by decide +kernel) (by decide +kernel) (by decide +kernel) (by decide +kernel) (by decide +kernel) (by decide +kernel) (by decide +kernel), b3, hR⟩
  · exfalso; omega
  · exfalso; have := rh; omega
  · exact ⟨by omega, ha, mi, ca, _, _, _, _, _, a3.kp g8.1 tx g9 (by decide +kernel) (by decide +kernel) (by decide +kernel) (by decide +kernel) (by decide +kernel) (by decide +kernel) (by decide +kernel) (by decide +kernel) (by decide +kernel) (by decide +kernel) (by decide +kernel) (by decide +kernel), b3, ⟨rg _ (by omega), fun i hi => rg i (by omega), rq, fun z => by omega⟩⟩
theorem lw_back (h : LawA I R x m) (hW : Wf T cn K N I R 0) (tx : T x = 1) (tm : T m = 15) (g8 : St T cn K N 0 wik_X10_back wrk_X10_back I R I8 R) (d8 : Cs_X10_back T I R x u1 v8 I8 R) (g9 : St T cn K N 0 wik_X12_back wrk_X12_back I8 R I9 R) (d9 : Cs_X12_back T I8 R m u1 v9 I9 R) : v8.toInt = v9.toInt ∧ LawA I9 R x m := by
  obtain ⟨ha, mi, ca, s, n, mk, g, q, hC, hM, hR⟩ := h
  have cb := hC.cab hW tx
  have nb := hC.nb hW tx
  have h01 := hM.h01
  have hM8 := hM.kp hW tm g8 (by decide +kernel) (by decide +kernel) (by decide +kernel) (by decide +kernel) (by decide +kernel) (by decide +kernel) (by decide +kernel) (by decide +kernel) (by decide +kernel) (by decide +kernel)
  have c := c_back hC hW tx g8 d8
  have mm := m_back hM8 g8.1 tm g9 d9
  have hR2 := hR
  obtain ⟨r0, rg, rq, rh⟩ := hR2
  rcases c with ⟨a1, a2, a3⟩ | ⟨a1, a2, a3⟩ <;> rcases mm with ⟨b1, b2, b3⟩ | ⟨b1, b2, b3⟩
  · exact ⟨by omega, ha, mi, ca, s, n, mk, g, q, a3.kp g8.1 tx g9 (by decide +kernel) (by decide +kernel) (by decide +kernel) (by decide +kernel) (by decide +kernel) (by decide +kernel) (by decide +kernel) (by decide +kernel) (by decide +kernel) (by decide +kernel) (by decide +kernel) (by decide +kernel), b3, hR⟩
  · exfalso; omega
  · exfalso; have := rh; omega
  · exact ⟨by omega, ha, mi, ca, _, _, _, _, _, a3.kp g8.1 tx g9 (by decide +kernel) (by decide +kernel) (by decide +kernel) (by decide +kernel) (by decide +kernel) (by decide +kernel) (by decide +kernel) (by decide +kernel) (by decide +kernel) (by decide +kernel) (by decide +kernel) (by decide +kernel), b3, ⟨rq _ (by omega), fun i hi => by omega, rq, fun z => by omega⟩⟩
theorem lw_mark (h : LawA I R x m) (hW : Wf T cn K N I R 0) (tx : T x = 1) (tm : T m = 15) (g8 : St T cn K N 0 wik_X10_mark wrk_X10_mark I R I8 R) (d8 : Cs_X10_mark T I R x v8 I8 R) (g9 : St T cn K N 0 wik_X12_mark wrk_X12_mark I8 R I9 R) (d9 : Cs_X12_mark T I8 R m v9 I9 R) : v8.toInt = v9.toInt ∧ LawA I9 R x m := by
  obtain ⟨ha, mi, ca, s, n, mk, g, q, hC, hM, hR⟩ := h
  have cb := hC.cab hW tx
  have nb := hC.nb hW tx
  have h01 := hM.h01
  have hM8 := hM.kp hW tm g8 (by decide +kernel) (by decide +kernel) (by decide +kernel) (by decide +kernel) (by decide +kernel) (by decide +kernel) (by decide +kernel) (by decide +kernel) (by decide +kernel) (by decide +kernel)
  have c := c_mark hC hW tx g8 d8
  have mm := m_mark hM8 g8.1 tm g9 d9
  have hR2 := hR
  obtain ⟨r0, rg, rq, rh⟩ := hR2
  rcases c with ⟨a1, a2, a3⟩ | ⟨a1, a2, a3⟩ <;> rcases mm with ⟨b1, b2, b3⟩ | ⟨b1, b2, b3⟩
  · exact ⟨by omega, ha, mi, ca, s, n, mk, g, q, a3.kp g8.1 tx g9 (by decide +kernel) (by decide +kernel) (by decide +kernel) (by decide +kernel) (by decide +kernel) (by decide +kernel) (by decide +kernel) (by decide +kernel) (by decide +kernel) (by decide +kernel) (by decide +kernel) (by decide +kernel), b3, hR⟩
  · exfalso; exact a2 b2
  · exfalso; exact b2 a2
  · exact ⟨by omega, ha, mi, ca, _, _, _, _, _, a3.kp g8.1 tx g9 (by decide +kernel) (by decide +kernel) (by decide +kernel) (by decide +kernel) (by decide +kernel) (by decide +kernel) (by decide +kernel) (by decide +kernel) (by decide +kernel) (by decide +kernel) (by decide +kernel) (by decide +kernel), b3, ⟨r0, rg, fun i hi => by
      show 0 ≤ (if (i : Int) < mk then q i 0 else s 0) ∧ (if (i : Int) < mk then q i 0 else s 0) ≤ 63
      split
      · rename_i z; exact rq i z
      · exact r0, fun z => by omega⟩⟩
theorem lw_call (h : LawA I R x m) (hW : Wf T cn K N I R 0) (tx : T x = 1) (tm : T m = 15) (g8 : St T cn K N 0 wik_X10_call wrk_X10_call I R I8 R8) (d8 : Cs_X10_call T I R x u1 b8 v8 I8 R8) (g9 : St T cn K N 0 wik_X12_call wrk_X12_call I8 R8 I9 R8) (d9 : Cs_X12_call T I8 R8 m u1 b9 v9 I9 R8) (eb : b8.toInt = b9.toInt) : v8.toInt = v9.toInt ∧ LawA I9 R8 x m := by
  obtain ⟨ha, mi, ca, s, n, mk, g, q, hC, hM, hR⟩ := h
  have cb := hC.cab hW tx
  have nb := hC.nb hW tx
  have h01 := hM.h01
  have hM8 := hM.kp hW tm g8 (by decide +kernel) (by decide +kernel) (by decide +kernel) (by decide +kernel) (by decide +kernel) (by decide +kernel) (by decide +kernel) (by decide +kernel) (by decide +kernel) (by decide +kernel)
  have c := c_call hC hW tx g8 d8
  have mm := m_call hM8 g8.1 tm g9 d9
  have hR2 := hR
  obtain ⟨r0, rg, rq, rh⟩ := hR2
  rw [← eb] at mm
  rcases c with ⟨a1, a2, a3⟩ | ⟨a1, a2, z1, y1, a3⟩ <;> rcases mm with ⟨b1, b2, b3⟩ | ⟨b1, b2, z2, y2, b3⟩
  · exact ⟨by omega, ha, mi, ca, s, n, mk, g, q, a3.kp g8.1 tx g9 (by decide +kernel) (by decide +kernel) (by decide +kernel) (by decide +kernel) (by decide +kernel) (by decide +kernel) (by decide +kernel) (by decide +kernel) (by decide +kernel) (by decide +kernel) (by decide +kernel) (by decide +kernel), b3, hR⟩
  · exact absurd b2.2 a2
  · exfalso
    obtain ⟨w, p, k, -, -, -, hav, -⟩ := hM
    rcases hav with ⟨h1, -, -, h4⟩ | ⟨h1, -⟩
    · omega
    · exact b2 ⟨h1, a2⟩
  · obtain rfl : z1 = z2 := Int32.toInt_inj.mp (y1.trans y2.symm)
    exact ⟨by omega, ha, mi, ca, _, _, _, _, _, a3.kp g8.1 tx g9 (by decide +kernel) (by decide +kernel) (by decide +kernel) (by decide +kernel) (by decide +kernel) (by decide +kernel) (by decide +kernel) (by decide +kernel) (by decide +kernel) (by decide +kernel) (by decide +kernel) (by decide +kernel), b3, hR.keep (by omega) (xo_b (by rw [y1]; exact r0) (by omega))⟩
theorem lw_calls (h : LawA I R x m) (hW : Wf T cn K N I R 0) (tx : T x = 1) (tm : T m = 15) (g8 : St T cn K N 0 wik_X10_calls wrk_X10_calls I R I8 R) (d8 : Cs_X10_calls T I R x v8 I8 R) (g9 : St T cn K N 0 wik_X12_calls wrk_X12_calls I8 R I9 R) (d9 : Cs_X12_calls T I8 R m v9 I9 R) : v8.toInt = v9.toInt ∧ LawA I9 R x m := by
  obtain ⟨ha, mi, ca, s, n, mk, g, q, hC, hM, hR⟩ := h
  have hM8 := hM.kp hW tm g8 (by decide +kernel) (by decide +kernel) (by decide +kernel) (by decide +kernel) (by decide +kernel) (by decide +kernel) (by decide +kernel) (by decide +kernel) (by decide +kernel) (by decide +kernel)
  have hC8 := hC.kp hW tx g8 (by decide +kernel) (by decide +kernel) (by decide +kernel) (by decide +kernel) (by decide +kernel) (by decide +kernel) (by decide +kernel) (by decide +kernel) (by decide +kernel) (by decide +kernel) (by decide +kernel) (by decide +kernel)
  have h0 := hC
  obtain ⟨al, dr, nw, pa, A, B, hp, ⟨s1, s2, s3, ⟨t0, t1, t2⟩, s5, s6⟩, -⟩ := h0
  obtain ⟨p1, p2, p3, p4, p5, p6, p7⟩ := hp
  have h1 := hM8
  obtain ⟨w, p, k, k1, k2, k3, hav, hs, -⟩ := h1
  have s0 := hs 0 (by omega)
  refine ⟨?_, ha, mi, ca, s, n, mk, g, q, hC8.kp g8.1 tx g9 (by decide +kernel) (by decide +kernel) (by decide +kernel) (by decide +kernel) (by decide +kernel) (by decide +kernel) (by decide +kernel) (by decide +kernel) (by decide +kernel) (by decide +kernel) (by decide +kernel) (by decide +kernel), hM8.kp g8.1 tm g9 (by decide +kernel) (by decide +kernel) (by decide +kernel) (by decide +kernel) (by decide +kernel) (by decide +kernel) (by decide +kernel) (by decide +kernel) (by decide +kernel) (by decide +kernel), hR⟩
  rcases d8 with ⟨a1, a2, -⟩ | ⟨a1, a2, -⟩ <;> rcases d9 with ⟨b1, b2, -⟩ | ⟨b1, b2, -⟩
  · omega
  · have := (hM8.ha1 b2).1
    omega
  · have := hM8.ha0 b2
    omega
  · have y1 := a2 nw p4
    have y2 := b1 w k1
    omega
end CzVl
