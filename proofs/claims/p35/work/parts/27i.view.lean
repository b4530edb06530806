/-! ===== the law's roads of the acts ===== -/
section CzVl
variable {T : Nat → Nat} {cn : Nat} {K N : Nat → Nat} {I I8 I9 : cz_I} {R R8 : cz_R} {x m : Nat} {v8 v9 u1 u2 b8 b9 : Int32}
theorem CVw.cab {ha mi ca n mk : Int} {s : Nat → Int} {g q : Nat → Nat → Int} {d : Int} (h : CVw I R x ha mi ca s n mk g q) (hW : Wf T cn K N I R d) (tx : T x = 1) : 0 ≤ ca ∧ ca ≤ 6 := by
  obtain ⟨al, dr, nw, pa, A, B, ⟨p1, -⟩, ⟨-, -, s3, -⟩, -⟩ := h
  have a := iv2_11 hW (hW.rs tx rfl rfl p1) (rfl : I al 11 = I al 11)
  exact om_495ffa83 s3 a.2 a.1
theorem MVw.h01 {ha mi ca n mk : Int} {s : Nat → Int} {g q : Nat → Nat → Int} (h : MVw I R m ha mi ca s n mk g q) : ha = 0 ∨ ha = 1 := by
  obtain ⟨w, p, k, -, -, -, hav, -⟩ := h
  rcases hav with ⟨h1, -⟩ | ⟨h1, -⟩
  · exact Or.inl h1
  · exact Or.inr h1
theorem lw_cloud (h : LawA I R x m) (hW : Wf T cn K N I R 0) (tx : T x = 1) (tm : T m = 15) (g8 : St T cn K N 0 wik_X10_cloud wrk_X10_cloud I R I8 R8) (d8 : Cs_X10_cloud T I R x u1 u2 v8 I8 R8) (g9 : St T cn K N 0 wik_X12_cloud wrk_X12_cloud I8 R8 I9 R8) (d9 : Cs_X12_cloud T I8 R8 m u1 u2 v9 I9 R8) : v8.toInt = v9.toInt ∧ LawA I9 R8 x m := by
  obtain ⟨ha, mi, ca, s, n, mk, g, q, hC, hM, hR⟩ := h
  have cb := hC.cab hW tx
  have nb := hC.nb hW tx
  have h01 := hM.h01
  have hM8 := hM.kp hW tm g8 (by decide +kernel) (by decide +kernel) (by decide +kernel) (by decide +kernel) (by decide +kernel) (by decide +kernel) (by decide +kernel) (by decide +kernel) (by decide +kernel) (by decide +kernel)
  have c := c_cloud hC hW tx g8 d8
  have mm := m_cloud hM8 g8.1 tm g9 d9
  have hR2 := hR
  obtain ⟨r0, rg, rq, rh⟩ := hR2
  rcases c with ⟨a1, a2, a3⟩ | ⟨a1, a2, a3⟩ <;> rcases mm with ⟨b1, b2, b3⟩ | ⟨b1, b2, b3⟩
  · exact ⟨by exact om_5bac22bd a1 b1, ha, mi, ca, s, n, mk, g, q, a3.kp g8.1 tx g9 (by decide +kernel) (by decide +kernel) (by decide +kernel) (by decide +kernel) (by decide +kernel) (by decide +kernel) (by decide +kernel) (by decide +kernel) (by decide +kernel) (by decide +kernel) (by decide +kernel) (by decide +kernel), b3, hR⟩
  · exfalso; exact a2 b2
  · exfalso; exact b2 a2
  · exact ⟨by exact om_3345b898 a1 b1, ha, mi, ca, _, _, _, _, _, a3.kp g8.1 tx g9 (by decide +kernel) (by decide +kernel) (by decide +kernel) (by decide +kernel) (by decide +kernel) (by decide +kernel) (by decide +kernel) (by decide +kernel) (by decide +kernel) (by decide +kernel) (by decide +kernel) (by decide +kernel), b3, hR.keep (by exact om_21cdfca3 a2.1) ⟨show 0 ≤ s 0 from r0.1, r0.2⟩⟩
theorem lw_draw (h : LawA I R x m) (hW : Wf T cn K N I R 0) (tx : T x = 1) (tm : T m = 15) (g8 : St T cn K N 0 wik_X10_draw wrk_X10_draw I R I8 R8) (d8 : Cs_X10_draw T I R x v8 I8 R8) (g9 : St T cn K N 0 wik_X12_draw wrk_X12_draw I8 R8 I9 R8) (d9 : Cs_X12_draw T I8 R8 m v9 I9 R8) : v8.toInt = v9.toInt ∧ LawA I9 R8 x m := by
  obtain ⟨ha, mi, ca, s, n, mk, g, q, hC, hM, hR⟩ := h
  have cb := hC.cab hW tx
  have nb := hC.nb hW tx
  have h01 := hM.h01
  have hM8 := hM.kp hW tm g8 (by decide +kernel) (by decide +kernel) (by decide +kernel) (by decide +kernel) (by decide +kernel) (by decide +kernel) (by decide +kernel) (by decide +kernel) (by decide +kernel) (by decide +kernel)
  have c := c_draw hC hW tx g8 d8
  have mm := m_draw hM8 g8.1 tm g9 d9
  have hR2 := hR
  obtain ⟨r0, rg, rq, rh⟩ := hR2
  rcases c with ⟨a1, a2, a3⟩ | ⟨a1, a2, a3⟩ <;> rcases mm with ⟨b1, b2, b3⟩ | ⟨b1, b2, b3⟩
  · exact ⟨by exact om_357b0e22 a1 b1, ha, mi, ca, s, n, mk, g, q, a3.kp g8.1 tx g9 (by decide +kernel) (by decide +kernel) (by decide +kernel) (by decide +kernel) (by decide +kernel) (by decide +kernel) (by decide +kernel) (by decide +kernel) (by decide +kernel) (by decide +kernel) (by decide +kernel) (by decide +kernel), b3, hR⟩
  · exfalso; exact a2 b2
  · exfalso; exact b2 a2
  · exact ⟨by exact om_2757374c a1 b1, ha, mi, ca, _, _, _, _, _, a3.kp g8.1 tx g9 (by decide +kernel) (by decide +kernel) (by decide +kernel) (by decide +kernel) (by decide +kernel) (by decide +kernel) (by decide +kernel) (by decide +kernel) (by decide +kernel) (by decide +kernel) (by decide +kernel) (by decide +kernel), b3, hR.keep (by exact om_21cdfca3 a2.1) ⟨show 0 ≤ s 0 from r0.1, r0.2⟩⟩
theorem lw_lift (h : LawA I R x m) (hW : Wf T cn K N I R 0) (tx : T x = 1) (tm : T m = 15) (g8 : St T cn K N 0 wik_X10_lift wrk_X10_lift I R I8 R8) (d8 : Cs_X10_lift T I R x v8 I8 R8) (g9 : St T cn K N 0 wik_X12_lift wrk_X12_lift I8 R8 I9 R8) (d9 : Cs_X12_lift T I8 R8 m v9 I9 R8) : v8.toInt = v9.toInt ∧ LawA I9 R8 x m := by
  obtain ⟨ha, mi, ca, s, n, mk, g, q, hC, hM, hR⟩ := h
  have cb := hC.cab hW tx
  have nb := hC.nb hW tx
  have h01 := hM.h01
  have hM8 := hM.kp hW tm g8 (by decide +kernel) (by decide +kernel) (by decide +kernel) (by decide +kernel) (by decide +kernel) (by decide +kernel) (by decide +kernel) (by decide +kernel) (by decide +kernel) (by decide +kernel)
  have c := c_lift hC hW tx g8 d8
  have mm := m_lift hM8 g8.1 tm g9 d9
  have hR2 := hR
  obtain ⟨r0, rg, rq, rh⟩ := hR2
  rcases c with ⟨a1, a2, a3⟩ | ⟨a1, a2, a3⟩ <;> rcases mm with ⟨b1, b2, b3⟩ | ⟨b1, b2, b3⟩
  · exact ⟨by exact om_5bac22bd a1 b1, ha, mi, ca, s, n, mk, g, q, a3.kp g8.1 tx g9 (by decide +kernel) (by decide +kernel) (by decide +kernel) (by decide +kernel) (by decide +kernel) (by decide +kernel) (by decide +kernel) (by decide +kernel) (by decide +kernel) (by decide +kernel) (by decide +kernel) (by decide +kernel), b3, hR⟩
  · exfalso; exact om_904f8317 a2 b2.2
  · exfalso; have := rh; exact om_d962c708 h01 rh a2 b2 this
  · exact ⟨by exact om_3345b898 a1 b1, ha, mi, ca, _, _, _, _, _, a3.kp g8.1 tx g9 (by decide +kernel) (by decide +kernel) (by decide +kernel) (by decide +kernel) (by decide +kernel) (by decide +kernel) (by decide +kernel) (by decide +kernel) (by decide +kernel) (by decide +kernel) (by decide +kernel) (by decide +kernel), b3, hR.keep (by exact om_21cdfca3 b2.1) ⟨show 0 ≤ s 0 from r0.1, r0.2⟩⟩
theorem lw_seed (h : LawA I R x m) (hW : Wf T cn K N I R 0) (tx : T x = 1) (tm : T m = 15) (g8 : St T cn K N 0 wik_X10_seed wrk_X10_seed I R I8 R) (d8 : Cs_X10_seed T I R x u1 v8 I8 R) (g9 : St T cn K N 0 wik_X12_seed wrk_X12_seed I8 R I9 R) (d9 : Cs_X12_seed T I8 R m u1 v9 I9 R) : v8.toInt = v9.toInt ∧ LawA I9 R x m := by
  obtain ⟨ha, mi, ca, s, n, mk, g, q, hC, hM, hR⟩ := h
  have cb := hC.cab hW tx
  have nb := hC.nb hW tx
  have h01 := hM.h01
  have hM8 := hM.kp hW tm g8 (by decide +kernel) (by decide +kernel) (by decide +kernel) (by decide +kernel) (by decide +kernel) (by decide +kernel) (by decide +kernel) (by decide +kernel) (by decide +kernel) (by decide +kernel)
  have c := c_seed hC hW tx g8 d8
  have mm := m_seed hM8 g8.1 tm g9 d9
  have hR2 := hR
  obtain ⟨r0, rg, rq, rh⟩ := hR2
  rcases c with ⟨a1, a2, a3⟩ | ⟨a1, a2, a3⟩ <;> rcases mm with ⟨b1, b2, b3⟩ | ⟨b1, b2, b3⟩
  · exact ⟨by exact om_5bac22bd a1 b1, ha, mi, ca, s, n, mk, g, q, a3.kp g8.1 tx g9 (by decide +kernel) (by decide +kernel) (by decide +kernel) (by decide +kernel) (by decide +kernel) (by decide +kernel) (by decide +kernel) (by decide +kernel) (by decide +kernel) (by decide +kernel) (by decide +kernel) (by decide +kernel), b3, hR⟩
  · exfalso; exact a2 b2
  · exfalso; exact b2 a2
  · exact ⟨by exact om_3345b898 a1 b1, ha, mi, ca, _, _, _, _, _, a3.kp g8.1 tx g9 (by decide +kernel) (by decide +kernel) (by decide +kernel) (by decide +kernel) (by decide +kernel) (by decide +kernel) (by decide +kernel) (by decide +kernel) (by decide +kernel) (by decide +kernel) (by decide +kernel) (by decide +kernel), b3, ⟨r0, rg, rq, fun z => by exact om_9df9a61e a2.1 z⟩⟩
theorem lw_undo (h : LawA I R x m) (hW : Wf T cn K N I R 0) (tx : T x = 1) (tm : T m = 15) (g8 : St T cn K N 0 wik_X10_undo wrk_X10_undo I R I8 R) (d8 : Cs_X10_undo T I R x v8 I8 R) (g9 : St T cn K N 0 wik_X12_undo wrk_X12_undo I8 R I9 R) (d9 : Cs_X12_undo T I8 R m v9 I9 R) : v8.toInt = v9.toInt ∧ LawA I9 R x m := by
  obtain ⟨ha, mi, ca, s, n, mk, g, q, hC, hM, hR⟩ := h
  have cb := hC.cab hW tx
  have nb := hC.nb hW tx
  have h01 := hM.h01
  have hM8 := hM.kp hW tm g8 (by decide +kernel) (by decide +kernel) (by decide +kernel) (by decide +kernel) (by decide +kernel) (by decide +kernel) (by decide +kernel) (by decide +kernel) (by decide +kernel) (by decide +kernel)
  have c := c_undo hC hW tx g8 d8
  have mm := m_undo hM8 g8.1 tm g9 d9
  have hR2 := hR
  obtain ⟨r0, rg, rq, rh⟩ := hR2
  rcases c with ⟨a1, a2, a3⟩ | ⟨a1, a2, a3⟩ <;> rcases mm with ⟨b1, b2, b3⟩ | ⟨b1, b2, b3⟩
  · exact ⟨by exact om_5bac22bd a1 b1, ha, mi, ca, s, n, mk, g, q, a3.kp g8.1 tx g9 (by decide +kernel) (by decide +kernel) (by decide +kernel) (by decide +kernel) (by decide +kernel) (by decide +kernel) (by decide +kernel) (by decide +kernel) (by decide +kernel) (by decide +kernel) (by decide +kernel) (by decide +kernel), b3, hR⟩
  · exfalso; exact om_904f8317 a2 b2.2
  · exfalso; have := rh; exact om_f79518df nb.1.2 nb.1.1 h01 rh a2 b2 this
  · exact ⟨by exact om_3345b898 a1 b1, ha, mi, ca, _, _, _, _, _, a3.kp g8.1 tx g9 (by decide +kernel) (by decide +kernel) (by decide +kernel) (by decide +kernel) (by decide +kernel) (by decide +kernel) (by decide +kernel) (by decide +kernel) (by decide +kernel) (by decide +kernel) (by decide +kernel) (by decide +kernel), b3, ⟨rg _ (by exact om_ade5bec3 nb.1.2 nb.1.1 a2), fun i hi => rg i (by exact om_7c0d6b96 hi), rq, fun z => by exact om_6b54e0c0 b2.1 z⟩⟩
theorem lw_back (h : LawA I R x m) (hW : Wf T cn K N I R 0) (tx : T x = 1) (tm : T m = 15) (g8 : St T cn K N 0 wik_X10_back wrk_X10_back I R I8 R) (d8 : Cs_X10_back T I R x u1 v8 I8 R) (g9 : St T cn K N 0 wik_X12_back wrk_X12_back I8 R I9 R) (d9 : Cs_X12_back T I8 R m u1 v9 I9 R) : v8.toInt = v9.toInt ∧ LawA I9 R x m := by
  obtain ⟨ha, mi, ca, s, n, mk, g, q, hC, hM, hR⟩ := h
  have cb := hC.cab hW tx
  have nb := hC.nb hW tx
  have h01 := hM.h01
  have hM8 := hM.kp hW tm g8 (by decide +kernel) (by decide +kernel) (by decide +kernel) (by decide +kernel) (by decide +kernel) (by decide +kernel) (by decide +kernel) (by decide +kernel) (by decide +kernel) (by decide +kernel)
  have c := c_back hC hW tx g8 d8
  have mm := m_back hM8 g8.1 tm g9 d9
  have hR2 := hR
  obtain ⟨r0, rg, rq, rh⟩ := hR2
  rcases c with ⟨a1, a2, a3⟩ | ⟨a1, a2, a3⟩ <;> rcases mm with ⟨b1, b2, b3⟩ | ⟨b1, b2, b3⟩
  · exact ⟨by exact om_5bac22bd a1 b1, ha, mi, ca, s, n, mk, g, q, a3.kp g8.1 tx g9 (by decide +kernel) (by decide +kernel) (by decide +kernel) (by decide +kernel) (by decide +kernel) (by decide +kernel) (by decide +kernel) (by decide +kernel) (by decide +kernel) (by decide +kernel) (by decide +kernel) (by decide +kernel), b3, hR⟩
  · exfalso; exact om_3fc3c925 a2 b2.2.1 b2.2.2
  · exfalso; have := rh; exact om_74a951ee h01 rh a2.2 a2.1 b2 this
  · exact ⟨by exact om_3345b898 a1 b1, ha, mi, ca, _, _, _, _, _, a3.kp g8.1 tx g9 (by decide +kernel) (by decide +kernel) (by decide +kernel) (by decide +kernel) (by decide +kernel) (by decide +kernel) (by decide +kernel) (by decide +kernel) (by decide +kernel) (by decide +kernel) (by decide +kernel) (by decide +kernel), b3, ⟨rq _ (by exact om_479568b2 a2.1 a2.2), fun i hi => by exact om_3ce8c7cc hi, rq, fun z => by exact om_02ee7812 b2.1 z⟩⟩
theorem lw_mark (h : LawA I R x m) (hW : Wf T cn K N I R 0) (tx : T x = 1) (tm : T m = 15) (g8 : St T cn K N 0 wik_X10_mark wrk_X10_mark I R I8 R) (d8 : Cs_X10_mark T I R x v8 I8 R) (g9 : St T cn K N 0 wik_X12_mark wrk_X12_mark I8 R I9 R) (d9 : Cs_X12_mark T I8 R m v9 I9 R) : v8.toInt = v9.toInt ∧ LawA I9 R x m := by
  obtain ⟨ha, mi, ca, s, n, mk, g, q, hC, hM, hR⟩ := h
  have cb := hC.cab hW tx
  have nb := hC.nb hW tx
  have h01 := hM.h01
  have hM8 := hM.kp hW tm g8 (by decide +kernel) (by decide +kernel) (by decide +kernel) (by decide +kernel) (by decide +kernel) (by decide +kernel) (by decide +kernel) (by decide +kernel) (by decide +kernel) (by decide +kernel)
  have c := c_mark hC hW tx g8 d8
  have mm := m_mark hM8 g8.1 tm g9 d9
  have hR2 := hR
  obtain ⟨r0, rg, rq, rh⟩ := hR2
  rcases c with ⟨a1, a2, a3⟩ | ⟨a1, a2, a3⟩ <;> rcases mm with ⟨b1, b2, b3⟩ | ⟨b1, b2, b3⟩
  · exact ⟨by exact om_357b0e22 a1 b1, ha, mi, ca, s, n, mk, g, q, a3.kp g8.1 tx g9 (by decide +kernel) (by decide +kernel) (by decide +kernel) (by decide +kernel) (by decide +kernel) (by decide +kernel) (by decide +kernel) (by decide +kernel) (by decide +kernel) (by decide +kernel) (by decide +kernel) (by decide +kernel), b3, hR⟩
  · exfalso; exact a2 b2
  · exfalso; exact b2 a2
  · exact ⟨by exact om_2757374c a1 b1, ha, mi, ca, _, _, _, _, _, a3.kp g8.1 tx g9 (by decide +kernel) (by decide +kernel) (by decide +kernel) (by decide +kernel) (by decide +kernel) (by decide +kernel) (by decide +kernel) (by decide +kernel) (by decide +kernel) (by decide +kernel) (by decide +kernel) (by decide +kernel), b3, ⟨r0, rg, fun i hi => by
      show 0 ≤ (if (i : Int) < mk then q i 0 else s 0) ∧ (if (i : Int) < mk then q i 0 else s 0) ≤ 63
      split
      · rename_i z; exact rq i z
      · exact r0, fun z => by exact om_74585e71 a2.1 z⟩⟩
theorem lw_call (h : LawA I R x m) (hW : Wf T cn K N I R 0) (tx : T x = 1) (tm : T m = 15) (g8 : St T cn K N 0 wik_X10_call wrk_X10_call I R I8 R8) (d8 : Cs_X10_call T I R x u1 b8 v8 I8 R8) (g9 : St T cn K N 0 wik_X12_call wrk_X12_call I8 R8 I9 R8) (d9 : Cs_X12_call T I8 R8 m u1 b9 v9 I9 R8) (eb : b8.toInt = b9.toInt) : v8.toInt = v9.toInt ∧ LawA I9 R8 x m := by
  obtain ⟨ha, mi, ca, s, n, mk, g, q, hC, hM, hR⟩ := h
  have cb := hC.cab hW tx
  have nb := hC.nb hW tx
  have h01 := hM.h01
  have hM8 := hM.kp hW tm g8 (by decide +kernel) (by decide +kernel) (by decide +kernel) (by decide +kernel) (by decide +kernel) (by decide +kernel) (by decide +kernel) (by decide +kernel) (by decide +kernel) (by decide +kernel)
  have c := c_call hC hW tx g8 d8
  have mm := m_call hM8 g8.1 tm g9 d9
  have hR2 := hR
  obtain ⟨r0, rg, rq, rh⟩ := hR2
  rw [← eb] at mm
  rcases c with ⟨a1, a2, a3⟩ | ⟨a1, a2, z1, y1, a3⟩ <;> rcases mm with ⟨b1, b2, b3⟩ | ⟨b1, b2, z2, y2, b3⟩
  · exact ⟨by exact om_5bac22bd a1 b1, ha, mi, ca, s, n, mk, g, q, a3.kp g8.1 tx g9 (by decide +kernel) (by decide +kernel) (by decide +kernel) (by decide +kernel) (by decide +kernel) (by decide +kernel) (by decide +kernel) (by decide +kernel) (by decide +kernel) (by decide +kernel) (by decide +kernel) (by decide +kernel), b3, hR⟩
  · exact absurd b2.2 a2
  · exfalso
    obtain ⟨w, p, k, -, -, -, hav, -⟩ := hM
    rcases hav with ⟨h1, -, -, h4⟩ | ⟨h1, -⟩
    · exact om_279ba68f a2.2.1 a2.1 h4
    · exact b2 ⟨h1, a2⟩
  · obtain rfl : z1 = z2 := Int32.toInt_inj.mp (y1.trans y2.symm)
    exact ⟨by exact om_3345b898 a1 b1, ha, mi, ca, _, _, _, _, _, a3.kp g8.1 tx g9 (by decide +kernel) (by decide +kernel) (by decide +kernel) (by decide +kernel) (by decide +kernel) (by decide +kernel) (by decide +kernel) (by decide +kernel) (by decide +kernel) (by decide +kernel) (by decide +kernel) (by decide +kernel), b3, hR.keep (by exact om_21cdfca3 b2.1) (xo_b (by rw [y1]; exact r0) (by exact om_d73abc73 cb.2 cb.1 a2.1 a2.2.1))⟩
theorem lw_calls (h : LawA I R x m) (hW : Wf T cn K N I R 0) (tx : T x = 1) (tm : T m = 15) (g8 : St T cn K N 0 wik_X10_calls wrk_X10_calls I R I8 R) (d8 : Cs_X10_calls T I R x v8 I8 R) (g9 : St T cn K N 0 wik_X12_calls wrk_X12_calls I8 R I9 R) (d9 : Cs_X12_calls T I8 R m v9 I9 R) : v8.toInt = v9.toInt ∧ LawA I9 R x m := by
  obtain ⟨ha, mi, ca, s, n, mk, g, q, hC, hM, hR⟩ := h
  have hM8 := hM.kp hW tm g8 (by decide +kernel) (by decide +kernel) (by decide +kernel) (by decide +kernel) (by decide +kernel) (by decide +kernel) (by decide +kernel) (by decide +kernel) (by decide +kernel) (by decide +kernel)
  have hC8 := hC.kp hW tx g8 (by decide +kernel) (by decide +kernel) (by decide +kernel) (by decide +kernel) (by decide +kernel) (by decide +kernel) (by decide +kernel) (by decide +kernel) (by decide +kernel) (by decide +kernel) (by decide +kernel) (by decide +kernel)
  have h0 := hC
  obtain ⟨al, dr, nw, pa, A, B, hp, ⟨s1, s2, s3, ⟨t0, t1, t2⟩, s5, s6⟩, -⟩ := h0
  obtain ⟨p1, p2, p3, p4, p5, p6, p7⟩ := hp
  have h1 := hM8
  obtain ⟨w, p, k, k1, k2, k3, hav, hs, -⟩ := h1
  have s0 := hs 0 (by exact om_d64e39d1)
  refine ⟨?_, ha, mi, ca, s, n, mk, g, q, hC8.kp g8.1 tx g9 (by decide +kernel) (by decide +kernel) (by decide +kernel) (by decide +kernel) (by decide +kernel) (by decide +kernel) (by decide +kernel) (by decide +kernel) (by decide +kernel) (by decide +kernel) (by decide +kernel) (by decide +kernel), hM8.kp g8.1 tm g9 (by decide +kernel) (by decide +kernel) (by decide +kernel) (by decide +kernel) (by decide +kernel) (by decide +kernel) (by decide +kernel) (by decide +kernel) (by decide +kernel) (by decide +kernel), hR⟩
  rcases d8 with ⟨a1, a2, -⟩ | ⟨a1, a2, -⟩ <;> rcases d9 with ⟨b1, b2, -⟩ | ⟨b1, b2, -⟩
  · exact om_357b0e22 a2 b1
  · have := (hM8.ha1 b2).1
    exact om_ccd5c8c2 s1 a1 this
  · have := hM8.ha0 b2
    exact om_1437441d s1 a1 this
  · have y1 := a2 nw p4
    have y2 := b1 w k1
    exact om_ff5afca4 t0 s0 y1 y2
end CzVl
