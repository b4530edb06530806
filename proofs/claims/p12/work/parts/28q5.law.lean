section CzSq
variable {T : Nat → Nat} {cn : Nat} {K N : Nat → Nat} {d d' : Int} {wi wr wi' wr' : List Nat} {I I' I8 I9 : cz_I} {R R' R8 R9 : cz_R} {x m : Nat} {ha n mk : Int} {c : Nat → Int} {E X : Nat → Nat → Int} {s s' : Nat → Int} {g q : Nat → Nat → Int} {v8 v9 u1 u2 u3 b8 b9 : Int32}
theorem ln_awake (hOr : OrC ha c E) (hC : CVn I R x ha c E s n mk g q) (hM : MVw I R m ha c E s n mk g q) (hR : RgC ha s n mk g q) (hW : Wf T cn K N I R 0) (tx : T x = 1) (tm : T m = 15) (g8 : St T cn K N 0 wik_X10_awake wrk_X10_awake I R I8 R8) (kq : SkQ I8 R8 x (XE c E s)) (kn : NgQ I8 R8 x (XE c E s) E c) (d8 : Cs_X10_awake T I R x (XE c E s) E c u1 u2 v8 I8 R8) (g9 : St T cn K N 0 wik_X12_awake wrk_X12_awake I8 R8 I9 R8) (d9 : Cs_X12_awake T I8 R8 m (XE c E s) E c u1 u2 v9 I9 R8) : v8.toInt = v9.toInt ∧ LawN I9 R8 x m := by
  have hM8 := hM.kp hW tm g8 (by decide +kernel) (by decide +kernel) (by decide +kernel) (by decide +kernel) (by decide +kernel) (by decide +kernel) (by decide +kernel) (by decide +kernel) (by decide +kernel)
  have hC8 := hC.au hW tx g8 kq kn (by decide +kernel) (by decide +kernel) (by decide +kernel) (by decide +kernel) (by decide +kernel) (by decide +kernel) (by decide +kernel)
  refine ⟨?_, ha, c, E, s, n, mk, g, q, hOr, hC8.kp g8.1 tx g9 (by decide +kernel) (by decide +kernel) (by decide +kernel) (by decide +kernel) (by decide +kernel) (by decide +kernel) (by decide +kernel), hM8.kp g8.1 tm g9 (by decide +kernel) (by decide +kernel) (by decide +kernel) (by decide +kernel) (by decide +kernel) (by decide +kernel) (by decide +kernel) (by decide +kernel) (by decide +kernel), hR⟩
  obtain ⟨al, nw, p1, p4, f5, f0, f1, f3, f6, fw⟩ := hC.1.1.num
  have ct := hC.hE al p1
  have f9 : (I al 9).toInt = c 4 := ct.ct.2.2.2.1
  have f13 : (I al 13).toInt = c 6 := ct.2.1 6 (by omega)
  obtain ⟨g1, g2, -⟩ := hOr.gd
  have s1 := hC.s1b hW tx
  have w0 := hC.1.1.s0q p4
  rcases d8 with ⟨a1, a2, -⟩ | ⟨a1, a2, a3, a4, -⟩ | ⟨a1, a2, a3, a4, a5, -⟩ <;> rcases d9 with ⟨b1, b2, -⟩ | ⟨b1, b2, b3, -⟩ | ⟨b1, b2, b3, b4, b5, -⟩ | ⟨b1, b2, b3, b4, b5, b6, -⟩
  · have q1 := a1 al p1
    have z0 := hM8.ha0 b2
    have z := hOr.z z0
    have z1 := z 1
    have z2 := z 2
    have z3 := z 3
    have z4 := z 4
    have z5 := z 5
    have z6 := z 6
    have zs := hR.2.2.2 z0
    omega
  · have q1 := a1 al p1
    obtain ⟨z, b, w, hb, hw, y0, y1, y2, y3, y4, y5, y6, y00, yw⟩ := hM8.numN b3
    have r1 := b1 b hb
    omega
  · have q1 := a1 al p1
    obtain ⟨z, b, w, hb, hw, y0, y1, y2, y3, y4, y5, y6, y00, yw⟩ := hM8.numN b5
    have r2 := b2 b hb
    have r3 := b3 b hb
    omega
  · have q1 := a1 al p1
    obtain ⟨z, b, w, hb, hw, y0, y1, y2, y3, y4, y5, y6, y00, yw⟩ := hM8.numN b5
    have r2 := b2 b hb
    have r4 := b4 b hb
    omega
  · have q2 := a2 al p1
    have q3 := a3 al p1
    have z0 := hM8.ha0 b2
    have z := hOr.z z0
    have z1 := z 1
    have z2 := z 2
    have z3 := z 3
    have z4 := z 4
    have z5 := z 5
    have z6 := z 6
    have zs := hR.2.2.2 z0
    omega
  · have q2 := a2 al p1
    have q3 := a3 al p1
    obtain ⟨z, b, w, hb, hw, y0, y1, y2, y3, y4, y5, y6, y00, yw⟩ := hM8.numN b3
    have r1 := b1 b hb
    omega
  · have q2 := a2 al p1
    have q3 := a3 al p1
    obtain ⟨z, b, w, hb, hw, y0, y1, y2, y3, y4, y5, y6, y00, yw⟩ := hM8.numN b5
    have r2 := b2 b hb
    have r3 := b3 b hb
    omega
  · have q2 := a2 al p1
    have q3 := a3 al p1
    obtain ⟨z, b, w, hb, hw, y0, y1, y2, y3, y4, y5, y6, y00, yw⟩ := hM8.numN b5
    have r2 := b2 b hb
    have r4 := b4 b hb
    omega
  · have q2 := a2 al p1
    have q4 := a4 al p1
    have z0 := hM8.ha0 b2
    have z := hOr.z z0
    have z1 := z 1
    have z2 := z 2
    have z3 := z 3
    have z4 := z 4
    have z5 := z 5
    have z6 := z 6
    have zs := hR.2.2.2 z0
    omega
  · have q2 := a2 al p1
    have q4 := a4 al p1
    obtain ⟨z, b, w, hb, hw, y0, y1, y2, y3, y4, y5, y6, y00, yw⟩ := hM8.numN b3
    have r1 := b1 b hb
    omega
  · have q2 := a2 al p1
    have q4 := a4 al p1
    obtain ⟨z, b, w, hb, hw, y0, y1, y2, y3, y4, y5, y6, y00, yw⟩ := hM8.numN b5
    have r2 := b2 b hb
    have r3 := b3 b hb
    omega
  · have q2 := a2 al p1
    have q4 := a4 al p1
    obtain ⟨z, b, w, hb, hw, y0, y1, y2, y3, y4, y5, y6, y00, yw⟩ := hM8.numN b5
    have r2 := b2 b hb
    have r4 := b4 b hb
    have ngz := ngz_eq (X := XE c E s) (E := E) f3 fw w0 y2 yw y00 g2.1 s1.1
    have A := a5 al nw p1 p4
    have Bm := b6 b w hb hw
    (try simp only [ngz] at Bm)
    (try simp only [f3, fw, w0] at A)
    (try simp only [y2, yw, y00, nN g2.1 s1.1] at Bm)
    rw [A, Bm]
end CzSq
