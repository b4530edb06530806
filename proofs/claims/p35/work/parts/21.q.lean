section CzQ
variable {X : cz_X} {M : cz_M} {pc : Nat} {ls : Nat → Option Value} {st : List Value} {cn : Nat} {K N : Nat → Nat} {I : cz_I} {R : cz_R} {L : cz_L} {n w : Nat}
theorem q_iadd {x y : Int32} (hd : decode (cz_cc M) pc = .ok (.iadd, 1)) (k : ∀ v : Int32, Tr X M (pc + 1) ls (.int v :: st) cn K N I R L n w) : Tr X M pc ls (.int y :: .int x :: st) cn K N I R L n w := tr_iadd hd (k _)
theorem q_isub {x y : Int32} (hd : decode (cz_cc M) pc = .ok (.isub, 1)) (k : ∀ v : Int32, Tr X M (pc + 1) ls (.int v :: st) cn K N I R L n w) : Tr X M pc ls (.int y :: .int x :: st) cn K N I R L n w := tr_isub hd (k _)
theorem q_imul {x y : Int32} (hd : decode (cz_cc M) pc = .ok (.imul, 1)) (k : ∀ v : Int32, Tr X M (pc + 1) ls (.int v :: st) cn K N I R L n w) : Tr X M pc ls (.int y :: .int x :: st) cn K N I R L n w := tr_imul hd (k _)
theorem q_iand {x y : Int32} (hd : decode (cz_cc M) pc = .ok (.iand, 1)) (k : ∀ v : Int32, Tr X M (pc + 1) ls (.int v :: st) cn K N I R L n w) : Tr X M pc ls (.int y :: .int x :: st) cn K N I R L n w := tr_iand hd (k _)
theorem q_ior {x y : Int32} (hd : decode (cz_cc M) pc = .ok (.ior, 1)) (k : ∀ v : Int32, Tr X M (pc + 1) ls (.int v :: st) cn K N I R L n w) : Tr X M pc ls (.int y :: .int x :: st) cn K N I R L n w := tr_ior hd (k _)
theorem q_ixor {x y : Int32} (hd : decode (cz_cc M) pc = .ok (.ixor, 1)) (k : ∀ v : Int32, Tr X M (pc + 1) ls (.int v :: st) cn K N I R L n w) : Tr X M pc ls (.int y :: .int x :: st) cn K N I R L n w := tr_ixor hd (k _)
theorem q_ishl {x y : Int32} (hd : decode (cz_cc M) pc = .ok (.ishl, 1)) (k : ∀ v : Int32, Tr X M (pc + 1) ls (.int v :: st) cn K N I R L n w) : Tr X M pc ls (.int y :: .int x :: st) cn K N I R L n w := tr_ishl hd (k _)
theorem q_ishr {x y : Int32} (hd : decode (cz_cc M) pc = .ok (.ishr, 1)) (k : ∀ v : Int32, Tr X M (pc + 1) ls (.int v :: st) cn K N I R L n w) : Tr X M pc ls (.int y :: .int x :: st) cn K N I R L n w := tr_ishr hd (k _)
theorem q_iushr {x y : Int32} (hd : decode (cz_cc M) pc = .ok (.iushr, 1)) (k : ∀ v : Int32, Tr X M (pc + 1) ls (.int v :: st) cn K N I R L n w) : Tr X M pc ls (.int y :: .int x :: st) cn K N I R L n w := tr_iushr hd (k _)
theorem q_iaddE {x y : Int32} (hd : decode (cz_cc M) pc = .ok (.iadd, 1)) (h : -2147483648 ≤ x.toInt → x.toInt ≤ 2147483647 → -2147483648 ≤ y.toInt → y.toInt ≤ 2147483647 → -2147483648 ≤ x.toInt + y.toInt ∧ x.toInt + y.toInt ≤ 2147483647) (k : ∀ v : Int32, v.toInt = x.toInt + y.toInt → Tr X M (pc + 1) ls (.int v :: st) cn K N I R L n w) : Tr X M pc ls (.int y :: .int x :: st) cn K N I R L n w := tr_iadd hd (k _ (ti_add (h (Int32.le_toInt _) (Int.le_of_lt_add_one (Int32.toInt_lt _)) (Int32.le_toInt _) (Int.le_of_lt_add_one (Int32.toInt_lt _))).1 (h (Int32.le_toInt _) (Int.le_of_lt_add_one (Int32.toInt_lt _)) (Int32.le_toInt _) (Int.le_of_lt_add_one (Int32.toInt_lt _))).2))
theorem q_isubE {x y : Int32} (hd : decode (cz_cc M) pc = .ok (.isub, 1)) (h : -2147483648 ≤ x.toInt → x.toInt ≤ 2147483647 → -2147483648 ≤ y.toInt → y.toInt ≤ 2147483647 → -2147483648 ≤ x.toInt - y.toInt ∧ x.toInt - y.toInt ≤ 2147483647) (k : ∀ v : Int32, v.toInt = x.toInt - y.toInt → Tr X M (pc + 1) ls (.int v :: st) cn K N I R L n w) : Tr X M pc ls (.int y :: .int x :: st) cn K N I R L n w := tr_isub hd (k _ (ti_sub (h (Int32.le_toInt _) (Int.le_of_lt_add_one (Int32.toInt_lt _)) (Int32.le_toInt _) (Int.le_of_lt_add_one (Int32.toInt_lt _))).1 (h (Int32.le_toInt _) (Int.le_of_lt_add_one (Int32.toInt_lt _)) (Int32.le_toInt _) (Int.le_of_lt_add_one (Int32.toInt_lt _))).2))
theorem q_imulE {x y : Int32} {c : Int} (hd : decode (cz_cc M) pc = .ok (.imul, 1)) (hc : x.toInt = c) (h : -2147483648 ≤ c * y.toInt ∧ c * y.toInt ≤ 2147483647) (k : ∀ v : Int32, v.toInt = c * y.toInt → Tr X M (pc + 1) ls (.int v :: st) cn K N I R L n w) : Tr X M pc ls (.int y :: .int x :: st) cn K N I R L n w := tr_imul hd (k _ (ti_mul hc h.1 h.2))
theorem q_ineg {x : Int32} (hd : decode (cz_cc M) pc = .ok (.ineg, 1)) (k : ∀ v : Int32, Tr X M (pc + 1) ls (.int v :: st) cn K N I R L n w) : Tr X M pc ls (.int x :: st) cn K N I R L n w := tr_ineg hd (k _)
theorem q_ladd {x y : Int64} (hd : decode (cz_cc M) pc = .ok (.ladd, 1)) (k : ∀ v : Int64, Tr X M (pc + 1) ls (.long v :: st) cn K N I R L n w) : Tr X M pc ls (.long y :: .long x :: st) cn K N I R L n w := tr_ladd hd (k _)
theorem q_lmul {x y : Int64} (hd : decode (cz_cc M) pc = .ok (.lmul, 1)) (k : ∀ v : Int64, Tr X M (pc + 1) ls (.long v :: st) cn K N I R L n w) : Tr X M pc ls (.long y :: .long x :: st) cn K N I R L n w := tr_lmul hd (k _)
theorem q_lcmp {x y : Int64} (hd : decode (cz_cc M) pc = .ok (.lcmp, 1)) (k : ∀ v : Int32, Tr X M (pc + 1) ls (.int v :: st) cn K N I R L n w) : Tr X M pc ls (.long y :: .long x :: st) cn K N I R L n w := tr_lcmp hd (k _)
theorem q_i2l {x : Int32} (hd : decode (cz_cc M) pc = .ok (.i2l, 1)) (k : ∀ v : Int64, Tr X M (pc + 1) ls (.long v :: st) cn K N I R L n w) : Tr X M pc ls (.int x :: st) cn K N I R L n w := tr_i2l hd (k _)
theorem ti_rem {x y : Int32} (h0 : 0 ≤ x.toInt) (h1 : 0 < y.toInt) : 0 ≤ (x - x / y * y).toInt ∧ (x - x / y * y).toInt < y.toInt := by
  have hx : x.toInt ≤ 2147483647 := by have := x.toInt_lt; omega
  have e1 : (x / y).toInt = x.toInt / y.toInt := by
    rw [Int32.toInt_div, Int.tdiv_eq_ediv_of_nonneg h0]
    have q1 : 0 ≤ x.toInt / y.toInt := Int.ediv_nonneg h0 (by exact om_087f8ebc h1)
    have q2 : x.toInt / y.toInt ≤ x.toInt := Int.ediv_le_self _ h0
    exact cz_bm (by exact om_e61e4bef q1) (by exact om_29f077f6 h0 hx q2)
  have h3 : 0 ≤ x.toInt / y.toInt * y.toInt ∧ x.toInt / y.toInt * y.toInt ≤ x.toInt := ⟨Int.mul_nonneg (Int.ediv_nonneg h0 (by exact om_087f8ebc h1)) (by exact om_087f8ebc h1), Int.ediv_mul_le _ (by exact om_dd948c47 h1)⟩
  have e2 : (x / y * y).toInt = x.toInt / y.toInt * y.toInt := by
    rw [Int32.toInt_mul, e1]; exact cz_bm (by exact om_f75a1f95 h3.1) (by exact om_959b8217 h0 hx h3.2)
  have e3 : (x - x / y * y).toInt = x.toInt - x.toInt / y.toInt * y.toInt := by
    rw [Int32.toInt_sub, e2]; exact cz_bm (by exact om_1482326c h3.2 e2) (by exact om_5a5e3ce8 h0 hx h3.1 e2)
  have h4 := Int.emod_nonneg x.toInt (show y.toInt ≠ 0 by exact om_dd948c47 h1)
  have h5 := Int.emod_lt_of_pos x.toInt h1
  have h6 := Int.emod_def x.toInt y.toInt
  rw [Int.mul_comm] at h6
  exact om_113bdebb e2 e3 h4 h5 h6
theorem q_iremE {x y : Int32} (hd : decode (cz_cc M) pc = .ok (.irem, 1)) (h0 : 0 ≤ x.toInt ∧ 0 < y.toInt) (k : ∀ v : Int32, 0 ≤ v.toInt ∧ v.toInt < y.toInt → Tr X M (pc + 1) ls (.int v :: st) cn K N I R L n w) : Tr X M pc ls (.int y :: .int x :: st) cn K N I R L n w := tr_irem hd (fun q => by have := h0.2; rw [q] at this; exact absurd this (by decide)) (k _ (ti_rem h0.1 h0.2))
theorem ti_xor {x y : Int32} (h1 : 0 ≤ x.toInt ∧ x.toInt ≤ 1) (h2 : 0 ≤ y.toInt ∧ y.toInt ≤ 1) : 0 ≤ (x ^^^ y).toInt ∧ (x ^^^ y).toInt ≤ 1 := by
  rcases ti_b01 h1.1 h1.2 with rfl | rfl <;> rcases ti_b01 h2.1 h2.2 with rfl | rfl <;> decide
theorem q_ixorE {x y : Int32} (hd : decode (cz_cc M) pc = .ok (.ixor, 1)) (h1 : 0 ≤ x.toInt ∧ x.toInt ≤ 1) (h2 : 0 ≤ y.toInt ∧ y.toInt ≤ 1) (k : ∀ v : Int32, 0 ≤ v.toInt ∧ v.toInt ≤ 1 → Tr X M (pc + 1) ls (.int v :: st) cn K N I R L n w) : Tr X M pc ls (.int y :: .int x :: st) cn K N I R L n w := tr_ixor hd (k _ (ti_xor h1 h2))
theorem ti_shl {x y : Int32} (h1 : x.toInt = 1) (h2 : 0 ≤ y.toInt ∧ y.toInt ≤ 6) : 1 ≤ (x <<< (y &&& 31)).toInt ∧ (x <<< (y &&& 31)).toInt ≤ 64 := by
  have e1 : x = 1 := Int32.toInt_inj.mp (by rw [h1]; rfl)
  subst e1
  have : y.toInt = 0 ∨ y.toInt = 1 ∨ y.toInt = 2 ∨ y.toInt = 3 ∨ y.toInt = 4 ∨ y.toInt = 5 ∨ y.toInt = 6 := by exact om_d68ad6a6 h2.2 h2.1
  rcases this with h | h | h | h | h | h | h
  · obtain rfl : y = 0 := Int32.toInt_inj.mp (by rw [h]; rfl)
    decide
  · obtain rfl : y = 1 := Int32.toInt_inj.mp (by rw [h]; rfl)
    decide
  · obtain rfl : y = 2 := Int32.toInt_inj.mp (by rw [h]; rfl)
    decide
  · obtain rfl : y = 3 := Int32.toInt_inj.mp (by rw [h]; rfl)
    decide
  · obtain rfl : y = 4 := Int32.toInt_inj.mp (by rw [h]; rfl)
    decide
  · obtain rfl : y = 5 := Int32.toInt_inj.mp (by rw [h]; rfl)
    decide
  · obtain rfl : y = 6 := Int32.toInt_inj.mp (by rw [h]; rfl)
    decide
theorem q_ishlE {x y : Int32} (hd : decode (cz_cc M) pc = .ok (.ishl, 1)) (h1 : x.toInt = 1) (h2 : 0 ≤ y.toInt ∧ y.toInt ≤ 6) (k : ∀ v : Int32, 1 ≤ v.toInt ∧ v.toInt ≤ 64 → Tr X M (pc + 1) ls (.int v :: st) cn K N I R L n w) : Tr X M pc ls (.int y :: .int x :: st) cn K N I R L n w := tr_ishl hd (k _ (ti_shl h1 h2))
/-! ===== constants ===== -/
theorem q_iconst {z : Int} (hd : decode (cz_cc M) pc = .ok (.iconst z, 1)) (hz : -2147483648 ≤ z ∧ z ≤ 2147483647) (k : ∀ v : Int32, v.toInt = z → Tr X M (pc + 1) ls (.int v :: st) cn K N I R L n w) : Tr X M pc ls st cn K N I R L n w := tr_iconst hd rfl (k _ (ti_ofInt hz.1 hz.2))
theorem q_bipush {z : Int} (hd : decode (cz_cc M) pc = .ok (.bipush z, 2)) (hz : (Int8.ofInt z).toInt32.toInt = z) (k : ∀ v : Int32, v.toInt = z → Tr X M (pc + 2) ls (.int v :: st) cn K N I R L n w) : Tr X M pc ls st cn K N I R L n w := tr_bipush hd rfl (k _ hz)
theorem q_sipush {z : Int} (hd : decode (cz_cc M) pc = .ok (.sipush z, 3)) (hz : (Int16.ofInt z).toInt32.toInt = z) (k : ∀ v : Int32, v.toInt = z → Tr X M (pc + 3) ls (.int v :: st) cn K N I R L n w) : Tr X M pc ls st cn K N I R L n w := tr_sipush hd rfl (k _ hz)
theorem q_ldc {idx : Nat} {c : Int32} (z : Int) (hd : decode (cz_cc M) pc = .ok (.ldc idx, 2)) (hl1 : Cond.constant (cz_on M.1) idx c ∈ cz_T) (hz : c.toInt = z) (k : ∀ v : Int32, v.toInt = z → Tr X M (pc + 2) ls (.int v :: st) cn K N I R L n w) : Tr X M pc ls st cn K N I R L n w := tr_ldc hd hl1 (k _ hz)
theorem q_ldcw {idx : Nat} {c : Int32} (z : Int) (hd : decode (cz_cc M) pc = .ok (.ldc_w idx, 3)) (hl1 : Cond.constant (cz_on M.1) idx c ∈ cz_T) (hz : c.toInt = z) (k : ∀ v : Int32, v.toInt = z → Tr X M (pc + 3) ls (.int v :: st) cn K N I R L n w) : Tr X M pc ls st cn K N I R L n w := tr_ldcw hd hl1 (k _ hz)
theorem q_lconst {z : Fin 2} (hd : decode (cz_cc M) pc = .ok (.lconst z, 1)) (k : ∀ v : Int64, Tr X M (pc + 1) ls (.long v :: st) cn K N I R L n w) : Tr X M pc ls st cn K N I R L n w := tr_lconst hd rfl (k _)
theorem q_ldc2 {idx : Nat} {c : Int64} (hd : decode (cz_cc M) pc = .ok (.ldc2_w idx, 3)) (hl1 : Cond.constantLong (cz_on M.1) idx c ∈ cz_T) (k : ∀ v : Int64, Tr X M (pc + 3) ls (.long v :: st) cn K N I R L n w) : Tr X M pc ls st cn K N I R L n w := tr_ldc2 hd hl1 (k _)
theorem q_iinc {i : Nat} {z : Int} {x : Int32} (hd : decode (cz_cc M) pc = .ok (.iinc i z, 3)) (hv : ls i = some (.int x)) (hg : ∀ j ∈ cz_lg M, j + 1 ≠ i) (k : ∀ v : Int32, Tr X M (pc + 3) (va_up ls i (some (.int v))) st cn K N I R L n w) : Tr X M pc ls st cn K N I R L n w := tr_iinc hd hv hg (k _)
theorem q_iincE {i : Nat} {z : Int} {x : Int32} (hd : decode (cz_cc M) pc = .ok (.iinc i z, 3)) (hv : ls i = some (.int x)) (hg : ∀ j ∈ cz_lg M, j + 1 ≠ i) (hz : -2147483648 ≤ z ∧ z ≤ 2147483647) (h : -2147483648 ≤ x.toInt → x.toInt ≤ 2147483647 → -2147483648 ≤ x.toInt + z ∧ x.toInt + z ≤ 2147483647) (k : ∀ v : Int32, v.toInt = x.toInt + z → Tr X M (pc + 3) (va_up ls i (some (.int v))) st cn K N I R L n w) : Tr X M pc ls st cn K N I R L n w := tr_iinc hd hv hg (k _ (by
  have e := ti_ofInt hz.1 hz.2
  have h := h (Int32.le_toInt _) (Int.le_of_lt_add_one (Int32.toInt_lt _))
  have q := ti_add (x := x) (y := Int32.ofInt z) (by rw [e]; exact h.1) (by rw [e]; exact h.2)
  rw [q, e]))
/-! ===== branches ===== -/
theorem q_if_eq {x : Int32} {off : Int} (tgt : Nat) (hd : decode (cz_cc M) pc = .ok (.ifCond .eq off, 3)) (ht : (pc : Int) + off = (tgt : Int)) (kt : x.toInt = 0 → Tr X M tgt ls st cn K N I R L n w) (kf : ¬ x.toInt = 0 → Tr X M (pc + 3) ls st cn K N I R L n w) : Tr X M pc ls (.int x :: st) cn K N I R L n w := tr_if_eq tgt hd ht (fun q => kt (by rw [q]; rfl)) (fun q => kf (fun z => q (Int32.toInt_inj.mp (z.trans rfl))))
theorem q_icmp_eq {x y : Int32} {off : Int} (tgt : Nat) (hd : decode (cz_cc M) pc = .ok (.if_icmp .eq off, 3)) (ht : (pc : Int) + off = (tgt : Int)) (kt : x.toInt = y.toInt → Tr X M tgt ls st cn K N I R L n w) (kf : ¬ x.toInt = y.toInt → Tr X M (pc + 3) ls st cn K N I R L n w) : Tr X M pc ls (.int y :: .int x :: st) cn K N I R L n w := tr_icmp_eq tgt hd ht (fun q => kt (by rw [q])) (fun q => kf (fun z => q (Int32.toInt_inj.mp z)))
theorem q_if_ne {x : Int32} {off : Int} (tgt : Nat) (hd : decode (cz_cc M) pc = .ok (.ifCond .ne off, 3)) (ht : (pc : Int) + off = (tgt : Int)) (kt : ¬ x.toInt = 0 → Tr X M tgt ls st cn K N I R L n w) (kf : x.toInt = 0 → Tr X M (pc + 3) ls st cn K N I R L n w) : Tr X M pc ls (.int x :: st) cn K N I R L n w := tr_if_ne tgt hd ht (fun q => kt (fun z => q (Int32.toInt_inj.mp (z.trans rfl)))) (fun q => kf (by rw [q]; rfl))
theorem q_icmp_ne {x y : Int32} {off : Int} (tgt : Nat) (hd : decode (cz_cc M) pc = .ok (.if_icmp .ne off, 3)) (ht : (pc : Int) + off = (tgt : Int)) (kt : ¬ x.toInt = y.toInt → Tr X M tgt ls st cn K N I R L n w) (kf : x.toInt = y.toInt → Tr X M (pc + 3) ls st cn K N I R L n w) : Tr X M pc ls (.int y :: .int x :: st) cn K N I R L n w := tr_icmp_ne tgt hd ht (fun q => kt (fun z => q (Int32.toInt_inj.mp z))) (fun q => kf (by rw [q]))
theorem q_if_lt {x : Int32} {off : Int} (tgt : Nat) (hd : decode (cz_cc M) pc = .ok (.ifCond .lt off, 3)) (ht : (pc : Int) + off = (tgt : Int)) (kt : x.toInt < 0 → Tr X M tgt ls st cn K N I R L n w) (kf : 0 ≤ x.toInt → Tr X M (pc + 3) ls st cn K N I R L n w) : Tr X M pc ls (.int x :: st) cn K N I R L n w := tr_if_lt tgt hd ht (fun q => kt (Int32.lt_iff_toInt_lt.mp q)) (fun q => kf (Int32.le_iff_toInt_le.mp (Int32.not_lt.mp q)))
theorem q_icmp_lt {x y : Int32} {off : Int} (tgt : Nat) (hd : decode (cz_cc M) pc = .ok (.if_icmp .lt off, 3)) (ht : (pc : Int) + off = (tgt : Int)) (kt : x.toInt < y.toInt → Tr X M tgt ls st cn K N I R L n w) (kf : y.toInt ≤ x.toInt → Tr X M (pc + 3) ls st cn K N I R L n w) : Tr X M pc ls (.int y :: .int x :: st) cn K N I R L n w := tr_icmp_lt tgt hd ht (fun q => kt (Int32.lt_iff_toInt_lt.mp q)) (fun q => kf (Int32.le_iff_toInt_le.mp (Int32.not_lt.mp q)))
theorem q_if_ge {x : Int32} {off : Int} (tgt : Nat) (hd : decode (cz_cc M) pc = .ok (.ifCond .ge off, 3)) (ht : (pc : Int) + off = (tgt : Int)) (kt : 0 ≤ x.toInt → Tr X M tgt ls st cn K N I R L n w) (kf : x.toInt < 0 → Tr X M (pc + 3) ls st cn K N I R L n w) : Tr X M pc ls (.int x :: st) cn K N I R L n w := tr_if_ge tgt hd ht (fun q => kt (Int32.le_iff_toInt_le.mp q)) (fun q => kf (Int32.lt_iff_toInt_lt.mp (Int32.not_le.mp q)))
theorem q_icmp_ge {x y : Int32} {off : Int} (tgt : Nat) (hd : decode (cz_cc M) pc = .ok (.if_icmp .ge off, 3)) (ht : (pc : Int) + off = (tgt : Int)) (kt : y.toInt ≤ x.toInt → Tr X M tgt ls st cn K N I R L n w) (kf : x.toInt < y.toInt → Tr X M (pc + 3) ls st cn K N I R L n w) : Tr X M pc ls (.int y :: .int x :: st) cn K N I R L n w := tr_icmp_ge tgt hd ht (fun q => kt (Int32.le_iff_toInt_le.mp q)) (fun q => kf (Int32.lt_iff_toInt_lt.mp (Int32.not_le.mp q)))
theorem q_if_gt {x : Int32} {off : Int} (tgt : Nat) (hd : decode (cz_cc M) pc = .ok (.ifCond .gt off, 3)) (ht : (pc : Int) + off = (tgt : Int)) (kt : 0 < x.toInt → Tr X M tgt ls st cn K N I R L n w) (kf : x.toInt ≤ 0 → Tr X M (pc + 3) ls st cn K N I R L n w) : Tr X M pc ls (.int x :: st) cn K N I R L n w := tr_if_gt tgt hd ht (fun q => kt (Int32.lt_iff_toInt_lt.mp q)) (fun q => kf (Int32.le_iff_toInt_le.mp (Int32.not_lt.mp q)))
theorem q_icmp_gt {x y : Int32} {off : Int} (tgt : Nat) (hd : decode (cz_cc M) pc = .ok (.if_icmp .gt off, 3)) (ht : (pc : Int) + off = (tgt : Int)) (kt : y.toInt < x.toInt → Tr X M tgt ls st cn K N I R L n w) (kf : x.toInt ≤ y.toInt → Tr X M (pc + 3) ls st cn K N I R L n w) : Tr X M pc ls (.int y :: .int x :: st) cn K N I R L n w := tr_icmp_gt tgt hd ht (fun q => kt (Int32.lt_iff_toInt_lt.mp q)) (fun q => kf (Int32.le_iff_toInt_le.mp (Int32.not_lt.mp q)))
theorem q_if_le {x : Int32} {off : Int} (tgt : Nat) (hd : decode (cz_cc M) pc = .ok (.ifCond .le off, 3)) (ht : (pc : Int) + off = (tgt : Int)) (kt : x.toInt ≤ 0 → Tr X M tgt ls st cn K N I R L n w) (kf : 0 < x.toInt → Tr X M (pc + 3) ls st cn K N I R L n w) : Tr X M pc ls (.int x :: st) cn K N I R L n w := tr_if_le tgt hd ht (fun q => kt (Int32.le_iff_toInt_le.mp q)) (fun q => kf (Int32.lt_iff_toInt_lt.mp (Int32.not_le.mp q)))
theorem q_icmp_le {x y : Int32} {off : Int} (tgt : Nat) (hd : decode (cz_cc M) pc = .ok (.if_icmp .le off, 3)) (ht : (pc : Int) + off = (tgt : Int)) (kt : x.toInt ≤ y.toInt → Tr X M tgt ls st cn K N I R L n w) (kf : y.toInt < x.toInt → Tr X M (pc + 3) ls st cn K N I R L n w) : Tr X M pc ls (.int y :: .int x :: st) cn K N I R L n w := tr_icmp_le tgt hd ht (fun q => kt (Int32.le_iff_toInt_le.mp q)) (fun q => kf (Int32.lt_iff_toInt_lt.mp (Int32.not_le.mp q)))
theorem q_iandE {x y : Int32} (hd : decode (cz_cc M) pc = .ok (.iand, 1)) (k : ∀ v : Int32, v = x &&& y → Tr X M (pc + 1) ls (.int v :: st) cn K N I R L n w) : Tr X M pc ls (.int y :: .int x :: st) cn K N I R L n w := tr_iand hd (k _ rfl)
theorem cz_bm6 {z : Int} (h1 : -9223372036854775808 ≤ z) (h2 : z ≤ 9223372036854775807) : z.bmod (2 ^ 64) = z := by
  simp only [Int.bmod]
  split <;> omega
theorem q_ldc2E {idx : Nat} {c : Int64} (z : Int) (hd : decode (cz_cc M) pc = .ok (.ldc2_w idx, 3)) (hl1 : Cond.constantLong (cz_on M.1) idx c ∈ cz_T) (hz : c.toInt = z) (k : ∀ v : Int64, v.toInt = z → Tr X M (pc + 3) ls (.long v :: st) cn K N I R L n w) : Tr X M pc ls st cn K N I R L n w := tr_ldc2 hd hl1 (k _ hz)
theorem q_i2lE {x : Int32} (hd : decode (cz_cc M) pc = .ok (.i2l, 1)) (k : ∀ v : Int64, v.toInt = x.toInt → Tr X M (pc + 1) ls (.long v :: st) cn K N I R L n w) : Tr X M pc ls (.int x :: st) cn K N I R L n w := tr_i2l hd (k _ (by simp))
theorem q_lmulE {x y : Int64} {c : Int} (hd : decode (cz_cc M) pc = .ok (.lmul, 1)) (hc : x.toInt = c) (h : -9223372036854775808 ≤ c * y.toInt ∧ c * y.toInt ≤ 9223372036854775807) (k : ∀ v : Int64, v.toInt = c * y.toInt → Tr X M (pc + 1) ls (.long v :: st) cn K N I R L n w) : Tr X M pc ls (.long y :: .long x :: st) cn K N I R L n w := tr_lmul hd (k _ (by rw [Int64.toInt_mul, hc]; exact cz_bm6 h.1 h.2))
theorem q_laddE {x y : Int64} (hd : decode (cz_cc M) pc = .ok (.ladd, 1)) (h : -9223372036854775808 ≤ x.toInt + y.toInt ∧ x.toInt + y.toInt ≤ 9223372036854775807) (k : ∀ v : Int64, v.toInt = x.toInt + y.toInt → Tr X M (pc + 1) ls (.long v :: st) cn K N I R L n w) : Tr X M pc ls (.long y :: .long x :: st) cn K N I R L n w := tr_ladd hd (k _ (by rw [Int64.toInt_add]; exact cz_bm6 h.1 h.2))
theorem q_l2iE {x : Int64} (hd : decode (cz_cc M) pc = .ok (.l2i, 1)) (h : -2147483648 ≤ x.toInt ∧ x.toInt ≤ 2147483647) (k : ∀ v : Int32, v.toInt = x.toInt → Tr X M (pc + 1) ls (.int v :: st) cn K N I R L n w) : Tr X M pc ls (.long x :: st) cn K N I R L n w := tr_l2i hd (k _ (by rw [Int64.toInt_toInt32]; exact cz_bm h.1 h.2))
/-! ===== the store ===== -/
theorem q_getI {idx ci j k : Nat} {b : Bool} {v : Int32} (hd : decode (cz_cc M) pc = .ok (.getfield idx, 3)) (hf : cz_fl M.1 idx = some (ci, j, 0, b)) (hk : K k = ci) (hv : I k j = v) (kk : Tr X M (pc + 3) ls (.int v :: st) cn K N I R L n w) : Tr X M pc ls (.ref k :: st) cn K N I R L n w := tr_getI hd hf hk (by rw [hv]; exact kk)
theorem q_getZ {idx ci j k : Nat} {b : Bool} {v : Int32} (hd : decode (cz_cc M) pc = .ok (.getfield idx, 3)) (hf : cz_fl M.1 idx = some (ci, j, 3, b)) (hk : K k = ci) (hv : I k j = v) (kk : Tr X M (pc + 3) ls (.int v :: st) cn K N I R L n w) : Tr X M pc ls (.ref k :: st) cn K N I R L n w := tr_getZ hd hf hk (by rw [hv]; exact kk)
theorem q_getL {idx ci j k : Nat} {b : Bool} (hd : decode (cz_cc M) pc = .ok (.getfield idx, 3)) (hf : cz_fl M.1 idx = some (ci, j, 2, b)) (hk : K k = ci) (kk : ∀ v : Int64, Tr X M (pc + 3) ls (.long v :: st) cn K N I R L n w) : Tr X M pc ls (.ref k :: st) cn K N I R L n w := tr_getL hd hf hk (kk _)
theorem q_iald {k : Nat} {i : Int32} (hd : decode (cz_cc M) pc = .ok (.iaload, 1)) (hk : K k = 14) (hi : vp_in i (N k)) (kk : ∀ v : Int32, I k i.toNatClampNeg = v → Tr X M (pc + 1) ls (.int v :: st) cn K N I R L n w) : Tr X M pc ls (.int i :: .ref k :: st) cn K N I R L n w := tr_iald hd hk hi (kk _ rfl)
theorem q_bald {k : Nat} {i : Int32} (hd : decode (cz_cc M) pc = .ok (.baload, 1)) (hk : K k = 13) (hi : vp_in i (N k)) (kk : ∀ v : Int32, I k i.toNatClampNeg = v → Tr X M (pc + 1) ls (.int v :: st) cn K N I R L n w) : Tr X M pc ls (.int i :: .ref k :: st) cn K N I R L n w := tr_bald hd hk hi (kk _ rfl)
theorem q_zald {k : Nat} {i : Int32} (hd : decode (cz_cc M) pc = .ok (.baload, 1)) (hk : K k = 16) (hi : vp_in i (N k)) (kk : ∀ v : Int32, I k i.toNatClampNeg = v → Tr X M (pc + 1) ls (.int v :: st) cn K N I R L n w) : Tr X M pc ls (.int i :: .ref k :: st) cn K N I R L n w := tr_zald hd hk hi (kk _ rfl)
theorem q_lald {k : Nat} {i : Int32} (hd : decode (cz_cc M) pc = .ok (.laload, 1)) (hk : K k = 15) (hi : vp_in i (N k)) (kk : ∀ v : Int64, Tr X M (pc + 1) ls (.long v :: st) cn K N I R L n w) : Tr X M pc ls (.int i :: .ref k :: st) cn K N I R L n w := tr_lald hd hk hi (kk _)
theorem q_alen {k kd len : Nat} (hd : decode (cz_cc M) pc = .ok (.arraylength, 1)) (hk : K k = kd) (h1 : 13 ≤ kd) (h2 : kd < 22) (hn : N k = len) (hl : (Int32.ofNat len).toInt = (len : Int)) (kk : ∀ v : Int32, v.toInt = (len : Int) → Tr X M (pc + 1) ls (.int v :: st) cn K N I R L n w) : Tr X M pc ls (.ref k :: st) cn K N I R L n w := tr_alen hd hk h1 h2 (kk _ (by rw [hn]; exact hl))
variable {T : Nat → Nat} {d : Int} {wi wr : List Nat} {I0 : cz_I} {R0 : cz_R}
theorem q_putI {idx ci j k r : Nat} {b : Bool} {x : Int32} (hd : decode (cz_cc M) pc = .ok (.putfield idx, 3)) (hf : cz_fl M.1 idx = some (ci, j, 0, b)) (hk : K k = ci) (hw : (cz_TT ci j).2.2.2 = false ∨ ((cz_nm M).name = "<init>" ∧ b = false ∧ (cz_TT ci j).1 = cz_on M.1)) (hS : St T cn K N d wi wr I0 R0 I R) (t : T k = r) (hx : iok r j x) (mf : mef r j = true) (hwi : wm wi r j = true)
    (kk : ∀ I' : cz_I, St T cn K N d wi wr I0 R0 I' R → I' k j = x → (∀ a i, ¬ (a = k ∧ i = j) → I' a i = I a i) → Tr X M (pc + 3) ls st cn K N I' R L n w) : Tr X M pc ls (.int x :: .ref k :: st) cn K N I R L n w := tr_putI hd hf hk hw (kk _ (hS.putI t hx mf hwi) uI_at (fun _ _ q => uI_ne q))
theorem q_putZ {idx ci j k r : Nat} {b : Bool} {x : Int32} (hd : decode (cz_cc M) pc = .ok (.putfield idx, 3)) (hf : cz_fl M.1 idx = some (ci, j, 3, b)) (hk : K k = ci) (hw : (cz_TT ci j).2.2.2 = false ∨ ((cz_nm M).name = "<init>" ∧ b = false ∧ (cz_TT ci j).1 = cz_on M.1)) (hS : St T cn K N d wi wr I0 R0 I R) (t : T k = r) (h01 : 0 ≤ x.toInt ∧ x.toInt ≤ 1) (hx : iok r j x) (mf : mef r j = true) (hwi : wm wi r j = true)
    (kk : ∀ I' : cz_I, St T cn K N d wi wr I0 R0 I' R → I' k j = x → (∀ a i, ¬ (a = k ∧ i = j) → I' a i = I a i) → Tr X M (pc + 3) ls st cn K N I' R L n w) : Tr X M pc ls (.int x :: .ref k :: st) cn K N I R L n w := tr_putZ hd hf hk hw (ti_b01 h01.1 h01.2) (kk _ (hS.putI t hx mf hwi) uI_at (fun _ _ q => uI_ne q))
/-- a put that the body proves by itself -/
theorem q_putX {idx ci j k r : Nat} {b : Bool} {x : Int32} {d' : Int} (hd : decode (cz_cc M) pc = .ok (.putfield idx, 3)) (hf : cz_fl M.1 idx = some (ci, j, 0, b)) (hk : K k = ci) (hw : (cz_TT ci j).2.2.2 = false ∨ ((cz_nm M).name = "<init>" ∧ b = false ∧ (cz_TT ci j).1 = cz_on M.1)) (hS : St T cn K N d wi wr I0 R0 I R) (t : T k = r) (hwi : wm wi r j = true) (hW : Wf T cn K N (cz_uI I k j x) R d')
    (kk : ∀ I' : cz_I, St T cn K N d' wi wr I0 R0 I' R → I' k j = x → (∀ a i, ¬ (a = k ∧ i = j) → I' a i = I a i) → Tr X M (pc + 3) ls st cn K N I' R L n w) : Tr X M pc ls (.int x :: .ref k :: st) cn K N I R L n w := tr_putI hd hf hk hw (kk _ (hS.wrote t hwi hW) uI_at (fun _ _ q => uI_ne q))
theorem q_putL {idx ci j k : Nat} {b : Bool} {x : Int64} (hd : decode (cz_cc M) pc = .ok (.putfield idx, 3)) (hf : cz_fl M.1 idx = some (ci, j, 2, b)) (hk : K k = ci) (hw : (cz_TT ci j).2.2.2 = false ∨ ((cz_nm M).name = "<init>" ∧ b = false ∧ (cz_TT ci j).1 = cz_on M.1)) (kk : ∀ L' : cz_L, Tr X M (pc + 3) ls st cn K N I R L' n w) : Tr X M pc ls (.long x :: .ref k :: st) cn K N I R L n w := tr_putL hd hf hk hw (kk _)
theorem q_putR {idx ci j k r y : Nat} {b : Bool} (hd : decode (cz_cc M) pc = .ok (.putfield idx, 3)) (hf : cz_fl M.1 idx = some (ci, j, 1, b)) (hk : K k = ci) (hw : (cz_TT ci j).2.2.2 = false ∨ ((cz_nm M).name = "<init>" ∧ b = false ∧ (cz_TT ci j).1 = cz_on M.1)) (hS : St T cn K N d wi wr I0 R0 I R) (t : T k = r) (hx : okR T (rrf r j) (some y)) (mf : mefR r j = true) (hwi : wm wr r j = true)
    (kk : ∀ R' : cz_R, St T cn K N d wi wr I0 R0 I R' → R' k j = some y → (∀ a i, ¬ (a = k ∧ i = j) → R' a i = R a i) → Tr X M (pc + 3) ls st cn K N I R' L n w) : Tr X M pc ls (.ref y :: .ref k :: st) cn K N I R L n w := tr_putR hd hf hk hw (kk _ (hS.putR t hx mf hwi) uR_at (fun _ _ q => uR_ne q))
theorem q_iast {k r : Nat} {i x : Int32} (hd : decode (cz_cc M) pc = .ok (.iastore, 1)) (hk : K k = 14) (hi : vp_in i (N k)) (hS : St T cn K N d wi wr I0 R0 I R) (t : T k = r) (hx : iok r i.toNatClampNeg x) (mf : mef r i.toNatClampNeg = true) (hwi : wm wi r i.toNatClampNeg = true)
    (kk : ∀ I' : cz_I, St T cn K N d wi wr I0 R0 I' R → I' k i.toNatClampNeg = x → (∀ a j, ¬ (a = k ∧ j = i.toNatClampNeg) → I' a j = I a j) → Tr X M (pc + 1) ls st cn K N I' R L n w) : Tr X M pc ls (.int x :: .int i :: .ref k :: st) cn K N I R L n w := tr_iast hd hk hi (kk _ (hS.putI t hx mf hwi) uI_at (fun _ _ q => uI_ne q))
theorem q_iastX {k r : Nat} {i x : Int32} {d' : Int} (hd : decode (cz_cc M) pc = .ok (.iastore, 1)) (hk : K k = 14) (hi : vp_in i (N k)) (hS : St T cn K N d wi wr I0 R0 I R) (t : T k = r) (hwi : wm wi r i.toNatClampNeg = true) (hW : Wf T cn K N (cz_uI I k i.toNatClampNeg x) R d')
    (kk : ∀ I' : cz_I, St T cn K N d' wi wr I0 R0 I' R → I' k i.toNatClampNeg = x → (∀ a j, ¬ (a = k ∧ j = i.toNatClampNeg) → I' a j = I a j) → Tr X M (pc + 1) ls st cn K N I' R L n w) : Tr X M pc ls (.int x :: .int i :: .ref k :: st) cn K N I R L n w := tr_iast hd hk hi (kk _ (hS.wrote t hwi hW) uI_at (fun _ _ q => uI_ne q))
theorem ti_narb (x : Int32) : -128 ≤ (vp_nar .byte x).toInt ∧ (vp_nar .byte x).toInt ≤ 127 := by
  have e : vp_nar .byte x = x.toInt8.toInt32 := rfl
  rw [e, Int8.toInt_toInt32]
  have h1 := Int8.le_toInt x.toInt8
  have h2 := Int8.toInt_lt x.toInt8
  exact ⟨h1, by omega⟩
theorem q_bastE {k r : Nat} {i x : Int32} (hd : decode (cz_cc M) pc = .ok (.bastore, 1)) (hk : K k = 13) (hi : vp_in i (N k)) (hS : St T cn K N d wi wr I0 R0 I R) (t : T k = r) (hx : riv r i.toNatClampNeg = ((-128 : Int), (127 : Int))) (mf : mef r i.toNatClampNeg = true) (hwi : wm wi r i.toNatClampNeg = true)
    (kk : ∀ I' : cz_I, St T cn K N d wi wr I0 R0 I' R → I' k i.toNatClampNeg = vp_nar .byte x → (∀ a j, ¬ (a = k ∧ j = i.toNatClampNeg) → I' a j = I a j) → Tr X M (pc + 1) ls st cn K N I' R L n w) : Tr X M pc ls (.int x :: .int i :: .ref k :: st) cn K N I R L n w := tr_bast hd hk hi (kk _ (hS.putI t (by rw [iok, hx]; exact ti_narb x) mf hwi) uI_at (fun _ _ q => uI_ne q))
theorem ti_nar {x : Int32} (h : 0 ≤ x.toInt ∧ x.toInt ≤ 1) : 0 ≤ (vp_nar .boolean x).toInt ∧ (vp_nar .boolean x).toInt ≤ 1 := by
  rcases ti_b01 h.1 h.2 with rfl | rfl <;> decide +kernel
theorem q_zast {k r : Nat} {i x : Int32} (hd : decode (cz_cc M) pc = .ok (.bastore, 1)) (hk : K k = 16) (hi : vp_in i (N k)) (hS : St T cn K N d wi wr I0 R0 I R) (t : T k = r) (h01 : 0 ≤ x.toInt ∧ x.toInt ≤ 1) (hx : riv r i.toNatClampNeg = (0, 1)) (mf : mef r i.toNatClampNeg = true) (hwi : wm wi r i.toNatClampNeg = true)
    (kk : ∀ I' : cz_I, St T cn K N d wi wr I0 R0 I' R → (∀ a j, ¬ (a = k ∧ j = i.toNatClampNeg) → I' a j = I a j) → Tr X M (pc + 1) ls st cn K N I' R L n w) : Tr X M pc ls (.int x :: .int i :: .ref k :: st) cn K N I R L n w := tr_zast hd hk hi (kk _ (hS.putI t (by rw [iok, hx]; exact ti_nar h01) mf hwi) (fun _ _ q => uI_ne q))
theorem q_last {k : Nat} {i : Int32} {x : Int64} (hd : decode (cz_cc M) pc = .ok (.lastore, 1)) (hk : K k = 15) (hi : vp_in i (N k)) (kk : ∀ L' : cz_L, Tr X M (pc + 1) ls st cn K N I R L' n w) : Tr X M pc ls (.long x :: .int i :: .ref k :: st) cn K N I R L n w := tr_last hd hk hi (kk _)
/-! ===== longs, exactly ===== -/
/-- only what wl names was written -/
def LgS (T : Nat → Nat) (wl : List Nat) (L L' : cz_L) : Prop := ∀ a j, wm wl (T a) j = false → L' a j = L a j
theorem LgS.rf0 {wl : List Nat} : LgS T wl L L := fun _ _ _ => rfl
theorem LgS.cell {wl : List Nat} {L' : cz_L} {a j r : Nat} (h : LgS T wl L L') (t : T a = r) (hw : wm wl r j = false) : L' a j = L a j := h a j (by rw [t]; exact hw)
theorem LgS.tr {wl wl' : List Nat} {L1 L2 : cz_L} (h : LgS T wl L L1) (h' : LgS T wl' L1 L2) (hl : wl'.all (fun c => wl.contains c) = true) : LgS T wl L L2 := fun a j hw => (h' a j (wm_sub hl hw)).trans (h a j hw)
theorem uL_at {a j : Nat} {x : Int64} : cz_uL L a j x a j = x := by simp [cz_uL, vp_updL]
theorem uL_ne {a j b i : Nat} {x : Int64} (h : ¬ (b = a ∧ i = j)) : cz_uL L a j x b i = L b i := by
  unfold cz_uL
  by_cases hb : b = a
  · subst hb
    have hi : ¬ i = j := fun q => h ⟨rfl, q⟩
    simp [vp_updL, hi]
  · simp [hb]
theorem LgS.wrote {wl : List Nat} {L1 : cz_L} {a j r : Nat} {x : Int64} (h : LgS T wl L L1) (t : T a = r) (hw : wm wl r j = true) : LgS T wl L (cz_uL L1 a j x) := by
  intro b i hb
  rw [uL_ne]
  · exact h b i hb
  · rintro ⟨rfl, rfl⟩
    rw [t, hw] at hb; cases hb
theorem q_getLE {idx ci j k : Nat} {b : Bool} {v : Int64} (hd : decode (cz_cc M) pc = .ok (.getfield idx, 3)) (hf : cz_fl M.1 idx = some (ci, j, 2, b)) (hk : K k = ci) (hv : L k j = v) (kk : Tr X M (pc + 3) ls (.long v :: st) cn K N I R L n w) : Tr X M pc ls (.ref k :: st) cn K N I R L n w := tr_getL hd hf hk (by rw [hv]; exact kk)
theorem q_laldE {k : Nat} {i : Int32} (hd : decode (cz_cc M) pc = .ok (.laload, 1)) (hk : K k = 15) (hi : vp_in i (N k)) (kk : ∀ v : Int64, L k i.toNatClampNeg = v → Tr X M (pc + 1) ls (.long v :: st) cn K N I R L n w) : Tr X M pc ls (.int i :: .ref k :: st) cn K N I R L n w := tr_lald hd hk hi (kk _ rfl)
theorem q_putLE {wl : List Nat} {L0 : cz_L} {idx ci j k r : Nat} {b : Bool} {x : Int64} (hd : decode (cz_cc M) pc = .ok (.putfield idx, 3)) (hf : cz_fl M.1 idx = some (ci, j, 2, b)) (hk : K k = ci) (hw : (cz_TT ci j).2.2.2 = false ∨ ((cz_nm M).name = "<init>" ∧ b = false ∧ (cz_TT ci j).1 = cz_on M.1)) (hL : LgS T wl L0 L) (t : T k = r) (hwl : wm wl r j = true) (kk : ∀ L' : cz_L, LgS T wl L0 L' → L' k j = x → (∀ a i, ¬ (a = k ∧ i = j) → L' a i = L a i) → Tr X M (pc + 3) ls st cn K N I R L' n w) : Tr X M pc ls (.long x :: .ref k :: st) cn K N I R L n w := tr_putL hd hf hk hw (kk _ (hL.wrote t hwl) uL_at (fun _ _ q => uL_ne q))
theorem q_lastE {wl : List Nat} {L0 : cz_L} {k r : Nat} {i : Int32} {x : Int64} (hd : decode (cz_cc M) pc = .ok (.lastore, 1)) (hk : K k = 15) (hi : vp_in i (N k)) (hL : LgS T wl L0 L) (t : T k = r) (hwl : wm wl r i.toNatClampNeg = true) (kk : ∀ L' : cz_L, LgS T wl L0 L' → L' k i.toNatClampNeg = x → (∀ a j, ¬ (a = k ∧ j = i.toNatClampNeg) → L' a j = L a j) → Tr X M (pc + 1) ls st cn K N I R L' n w) : Tr X M pc ls (.long x :: .int i :: .ref k :: st) cn K N I R L n w := tr_last hd hk hi (kk _ (hL.wrote t hwl) uL_at (fun _ _ q => uL_ne q))
theorem q_lcmpE {x y : Int64} (hd : decode (cz_cc M) pc = .ok (.lcmp, 1)) (k : ∀ v : Int32, ((x.toInt = y.toInt ∧ v.toInt = 0) ∨ (x.toInt ≠ y.toInt ∧ v.toInt ≠ 0)) → Tr X M (pc + 1) ls (.int v :: st) cn K N I R L n w) : Tr X M pc ls (.long y :: .long x :: st) cn K N I R L n w := tr_lcmp hd (k _ (by
  unfold lg_cmp
  simp only [gt_iff_lt, Int64.lt_iff_toInt_lt, ← Int64.toInt_inj]
  by_cases h1 : y.toInt < x.toInt
  · rw [if_pos h1]; exact Or.inr ⟨by exact om_f3868db1 h1, by decide⟩
  · rw [if_neg h1]
    by_cases h2 : x.toInt = y.toInt
    · rw [if_pos h2]; exact Or.inl ⟨h2, by decide⟩
    · rw [if_neg h2]; exact Or.inr ⟨h2, by decide⟩))
theorem q_lcmpNe {x y : Int64} {off : Int} (tgt : Nat) (hd : decode (cz_cc M) pc = .ok (.lcmp, 1)) (hd2 : decode (cz_cc M) (pc + 1) = .ok (.ifCond .ne off, 3)) (ht : ((pc + 1 : Nat) : Int) + off = (tgt : Int)) (kt : ¬ x.toInt = y.toInt → Tr X M tgt ls st cn K N I R L n w) (kf : x.toInt = y.toInt → Tr X M (pc + 1 + 3) ls st cn K N I R L n w) : Tr X M pc ls (.long y :: .long x :: st) cn K N I R L n w :=
  q_lcmpE hd (fun _ h => q_if_ne tgt hd2 ht (fun z => kt (fun e => by rcases h with h | h <;> omega)) (fun z => kf (by rcases h with h | h <;> omega)))
end CzQ
