/-- byte j of a number, the highest first -/
def fby (x : Int32) (j : Nat) : Int32 := vp_nar .byte ((x >>> (Int32.ofNat (24 - 8 * j) &&& 31)).toInt8.toInt32)
/-- m bytes f have come behind place n of row t, nothing else has changed there -/
def FbW (I I' : cz_I) (t : Nat) (n : Int) (m : Nat) (f : Nat → Int32) : Prop := ∀ k : Nat, ((k : Int) < n ∨ n + m ≤ (k : Int) → I' t k = I t k) ∧ (∀ j : Nat, j < m → (k : Int) = n + j → I' t k = f j)
theorem FbW.app {I I1 I2 : cz_I} {t : Nat} {n n2 : Int} {m m2 : Nat} {f g : Nat → Int32} (h : FbW I I1 t n m f) (h2 : FbW I1 I2 t n2 m2 g) (hn : n2 = n + m) : FbW I I2 t n (m + m2) (fun j => if j < m then f j else g (j - m)) := by
  subst hn
  intro k
  refine ⟨fun hk => ?_, fun j hj hk => ?_⟩
  · rw [(h2 k).1 (by exact om_64b657f7 hk), (h k).1 (by exact om_494bb617 hk)]
  · by_cases q : j < m
    · show I2 t k = if j < m then f j else g (j - m)
      rw [if_pos q, (h2 k).1 (by exact om_3221c988 hk q), (h k).2 j q hk]
    · show I2 t k = if j < m then f j else g (j - m)
      rw [if_neg q, (h2 k).2 (j - m) (by exact om_2d9aa8f3 hj hk q) (by exact om_1e3f1f18 hk q)]
theorem FbW.rf (I : cz_I) (t : Nat) (n : Int) (f : Nat → Int32) : FbW I I t n 0 f := fun k => ⟨fun _ => rfl, fun j hj => absurd hj (Nat.not_lt_zero _)⟩
theorem FbW.cg {I I' : cz_I} {t : Nat} {n : Int} {m : Nat} {f g : Nat → Int32} (h : FbW I I' t n m f) (hf : ∀ j, j < m → f j = g j) : FbW I I' t n m g := fun k => ⟨(h k).1, fun j hj hk => by rw [← hf j hj]; exact (h k).2 j hj hk⟩
theorem FbW.kp {I I1 I2 : cz_I} {t : Nat} {n : Int} {m : Nat} {f : Nat → Int32} (h : FbW I I1 t n m f) (e : ∀ k, I2 t k = I1 t k) : FbW I I2 t n m f := fun k => ⟨fun q => (e k).trans ((h k).1 q), fun j hj hk => (e k).trans ((h k).2 j hj hk)⟩
theorem FbW.one {I I1 I2 : cz_I} {t i : Nat} {n : Int} {m : Nat} {f : Nat → Int32} (h : FbW I I1 t n m f) (hi : (i : Int) = n + m) (he : I2 t i = f m) (hf : ∀ k, ¬ k = i → I2 t k = I1 t k) : FbW I I2 t n (m + 1) f := by
  intro k
  refine ⟨fun hk => ?_, fun j hj hk => ?_⟩
  · rw [hf k (by exact om_8ce1b472 hi hk), (h k).1 (by exact om_186a092e hk)]
  · by_cases q : j = m
    · subst q
      obtain rfl : k = i := by exact om_f260d8b8 hk hi
      exact he
    · rw [hf k (by exact om_5fd129fb hi hk q), (h k).2 j (by exact om_fe3e2211 hj q) hk]
theorem ti_remE {x y : Int32} (h0 : 0 ≤ x.toInt) (h1 : 0 < y.toInt) : (x - x / y * y).toInt = x.toInt % y.toInt := by
  have hx : x.toInt ≤ 2147483647 := by have := x.toInt_lt; omega
  have e1 : (x / y).toInt = x.toInt / y.toInt := by
    rw [Int32.toInt_div, Int.tdiv_eq_ediv_of_nonneg h0]
    have q1 : 0 ≤ x.toInt / y.toInt := Int.ediv_nonneg h0 (by exact om_087f8ebc h1)
    have q2 : x.toInt / y.toInt ≤ x.toInt := Int.ediv_le_self _ h0
    exact cz_bm (by exact om_e61e4bef q1) (by exact om_29f077f6 h0 hx q2)
  have h3 : 0 ≤ x.toInt / y.toInt * y.toInt ∧ x.toInt / y.toInt * y.toInt ≤ x.toInt := ⟨Int.mul_nonneg (Int.ediv_nonneg h0 (by exact om_087f8ebc h1)) (by exact om_087f8ebc h1), Int.ediv_mul_le _ (by exact om_dd948c47 h1)⟩
  have e2 : (x / y * y).toInt = x.toInt / y.toInt * y.toInt := by
    rw [Int32.toInt_mul, e1]; exact cz_bm (by exact om_f75a1f95 h3.1) (by exact om_959b8217 h0 hx h3.2)
  have e3 : (x - x / y * y).toInt = x.toInt - x.toInt / y.toInt * y.toInt := by
    rw [Int32.toInt_sub, e2]; exact cz_bm (by exact om_1482326c h3.2 e2) (by exact om_5a5e3ce8 h0 hx h3.1 e2)
  have h6 := Int.emod_def x.toInt y.toInt
  rw [Int.mul_comm] at h6
  exact om_3e20ef5c e2 e3 h6
theorem q_iremX {X : cz_X} {M : cz_M} {pc : Nat} {ls : Nat → Option Value} {st : List Value} {cn : Nat} {K N : Nat → Nat} {I : cz_I} {R : cz_R} {L : cz_L} {n w : Nat} {x y : Int32} {c : Int} (hd : decode (cz_cc M) pc = .ok (.irem, 1)) (h0 : 0 ≤ x.toInt) (hy : y.toInt = c) (hc : 0 < c) (k : ∀ v : Int32, v.toInt = x.toInt % c → Tr X M (pc + 1) ls (.int v :: st) cn K N I R L n w) : Tr X M pc ls (.int y :: .int x :: st) cn K N I R L n w := tr_irem hd (fun q => by rw [q] at hy; have : (0 : Int32).toInt = 0 := rfl; exact om_2646eb74 hy hc this) (k _ (by rw [← hy]; exact ti_remE h0 (by exact om_c24b496b hy hc)))
theorem fby_sh {x s : Int32} {j : Nat} (hj : j < 4) (hs : s.toInt = 24 - 8 * (j : Int)) : vp_nar .byte ((x >>> (s &&& 31)).toInt8.toInt32) = fby x j := by
  obtain ⟨k, hk, rfl, ek⟩ := i32_nat (x := s) (n := 25) (by exact om_822d1b7b hj hs) (by exact om_b4c555fe hj hs) (by exact om_bf8436a3)
  rw [fby, show k = 24 - 8 * j by exact om_807831c0 hj hs ek]
/-- the twenty bytes of five numbers -/
def fb5 (a b c d e : Int32) (j : Nat) : Int32 := fby (if j < 4 then a else if j < 8 then b else if j < 12 then c else if j < 16 then d else e) (j % 4)
def wik_X10_putBytes : List Nat := [65, 1151]
def wrk_X10_putBytes : List Nat := []
set_option maxHeartbeats 4000000 in
theorem fk_X10_putBytes {l : Launch} {T : Nat → Nat} {cn : Nat} {K N : Nat → Nat} {I0 : cz_I} {R0 : cz_R} {L0 : cz_L} {d : Int} (hW0 : Wf T cn K N I0 R0 d)  {a0 : Nat} (ta0 : T a0 = 1) {x1 : Int32} (pre0 : (I0 a0 1).toInt ≤ 896) : ConE l mX10_putBytes [.ref a0, .int x1] cn K N I0 R0 L0 (ca_v (fun cn' K' N' I' R' L' => cn = cn' ∧ K = K' ∧ N = N' ∧ R0 = R' ∧ L0 = L' ∧ St T cn K N d wik_X10_putBytes wrk_X10_putBytes I0 R0 I' R0 ∧ ((I' a0 1).toInt = (I0 a0 1).toInt + 4) ∧ (∀ t, R0 a0 0 = some t → FbW I0 I' t (I0 a0 1).toInt 4 (fby x1)) ∧ True)) := by
  refine ConE.of (by decide +kernel) rfl (Nat.le_of_ble_eq_true rfl) rfl (fun X hX hZ hE => ?_)
  subst hX
  have hS0 : St T cn K N d wik_X10_putBytes wrk_X10_putBytes I0 R0 I0 R0 := St.rf0 hW0
  obtain ⟨v1, c2⟩ : ∃ v, I0 a0 1 = v := ⟨_, rfl⟩
  have b3 := iv1_1 hS0.1 ta0 c2
  have p4 := pre0
  rw [c2] at p4
  refine q_bipush dX10_putBytes_0 (by decide +kernel) ?_
  intro v5 h6
  refine tr_istore_n dX10_putBytes_2 (by decide) (by decide) ?_
  refine tr_iload_n dX10_putBytes_3 rfl ?_
  refine q_if_lt 36 dX10_putBytes_4 (by decide) (fun h7 => ?_) (fun h7 => ?_)
  · skip
    exfalso; exact om_0fd43463 h6 h7
  · skip
    refine tr_aload_n dX10_putBytes_7 rfl ?_
    obtain ⟨a8, d9, ta8⟩ := rf1_0 hW0 ta0
    refine tr_getR dX10_putBytes_8 fl10_9 (kR1 hS0.1 ta0) d9 ?_
    refine tr_aload_n dX10_putBytes_11 rfl ?_
    refine q_getI dX10_putBytes_12 fl10_71 (kR1 hS0.1 ta0) c2 ?_
    refine tr_iload_n dX10_putBytes_15 rfl ?_
    refine tr_iload_n dX10_putBytes_16 rfl ?_
    refine tr_ishr dX10_putBytes_17 ?_
    obtain ⟨v10, lx11⟩ : ∃ z, z = x1 >>> (v5 &&& 31) := ⟨_, rfl⟩
    rw [← lx11]
    refine tr_i2b dX10_putBytes_18 ?_
    obtain ⟨v12, lx13⟩ : ∃ z, z = v10.toInt8.toInt32 := ⟨_, rfl⟩
    rw [← lx13]
    refine q_bastE dX10_putBytes_19 (kR17 hS0.1 ta8) (ti_in (nR17 hS0.1 ta8) (by exact om_9126b017 b3.2 b3.1 p4) (by exact om_a7294032 b3.2 b3.1 p4)) hS0 ta8 rfl rfl (by rfl) ?_
    intro I14 hS15 e16 f17
    have c18 : I14 a0 1 = v1 := (f17 _ _ (fun q => by have z := ta0; rw [q.1, ta8] at z; exact absurd z (by decide))).trans c2
    refine tr_aload_n dX10_putBytes_20 rfl ?_
    refine tr_dup dX10_putBytes_21 rfl ?_
    refine q_getI dX10_putBytes_22 fl10_71 (kR1 hS15.1 ta0) c18 ?_
    refine q_iconst dX10_putBytes_25 (by decide) ?_
    intro v19 h20
    refine q_iaddE dX10_putBytes_26 (by intro j1 j2 j3 j4; exact om_5fda214a b3.2 b3.1 p4 h20) ?_
    intro v21 h22
    refine q_putI dX10_putBytes_27 fl10_71 (kR1 hS15.1 ta0) (Or.inl rfl) hS15 ta0 (by show (0 : Int) ≤ v21.toInt ∧ v21.toInt ≤ (900 : Int); exact om_1f6c16a9 b3.2 b3.1 p4 h20 h22) rfl (by decide +kernel) ?_
    intro I23 hS24 e25 f26
    refine q_iincE dX10_putBytes_30 rfl (by decide) (by decide) (by intro j1 j2; exact om_c40a21a1 h6) ?_
    intro v27 h28
    refine tr_goto 3 dX10_putBytes_33 (by decide) ?_
    refine tr_iload_n dX10_putBytes_3 rfl ?_
    refine q_if_lt 36 dX10_putBytes_4 (by decide) (fun h29 => ?_) (fun h29 => ?_)
    · skip
      exfalso; exact om_d6826368 h6 h28 h29
    · skip
      refine tr_aload_n dX10_putBytes_7 rfl ?_
      refine tr_getR dX10_putBytes_8 fl10_9 (kR1 hS24.1 ta0) d9 ?_
      refine tr_aload_n dX10_putBytes_11 rfl ?_
      refine q_getI dX10_putBytes_12 fl10_71 (kR1 hS24.1 ta0) e25 ?_
      refine tr_iload_n dX10_putBytes_15 rfl ?_
      refine tr_iload_n dX10_putBytes_16 rfl ?_
      refine tr_ishr dX10_putBytes_17 ?_
      obtain ⟨v30, lx31⟩ : ∃ z, z = x1 >>> (v27 &&& 31) := ⟨_, rfl⟩
      rw [← lx31]
      refine tr_i2b dX10_putBytes_18 ?_
      obtain ⟨v32, lx33⟩ : ∃ z, z = v30.toInt8.toInt32 := ⟨_, rfl⟩
      rw [← lx33]
      refine q_bastE dX10_putBytes_19 (kR17 hS24.1 ta8) (ti_in (nR17 hS24.1 ta8) (by exact om_30c47482 b3.2 b3.1 p4 h20 h22) (by exact om_63aadaab b3.2 b3.1 p4 h20 h22)) hS24 ta8 rfl rfl (by rfl) ?_
      intro I34 hS35 e36 f37
      have c38 : I34 a0 1 = v21 := (f37 _ _ (fun q => by have z := ta0; rw [q.1, ta8] at z; exact absurd z (by decide))).trans e25
      refine tr_aload_n dX10_putBytes_20 rfl ?_
      refine tr_dup dX10_putBytes_21 rfl ?_
      refine q_getI dX10_putBytes_22 fl10_71 (kR1 hS35.1 ta0) c38 ?_
      refine q_iconst dX10_putBytes_25 (by decide) ?_
      intro v39 h40
      refine q_iaddE dX10_putBytes_26 (by intro j1 j2 j3 j4; exact om_b4a740f8 b3.2 b3.1 p4 h20 h22 h40) ?_
      intro v41 h42
      refine q_putI dX10_putBytes_27 fl10_71 (kR1 hS35.1 ta0) (Or.inl rfl) hS35 ta0 (by show (0 : Int) ≤ v41.toInt ∧ v41.toInt ≤ (900 : Int); exact om_d6a6491f b3.2 b3.1 p4 h20 h22 h40 h42) rfl (by decide +kernel) ?_
      intro I43 hS44 e45 f46
      refine q_iincE dX10_putBytes_30 rfl (by decide) (by decide) (by intro j1 j2; exact om_022b2aa6 h6 h28) ?_
      intro v47 h48
      refine tr_goto 3 dX10_putBytes_33 (by decide) ?_
      refine tr_iload_n dX10_putBytes_3 rfl ?_
      refine q_if_lt 36 dX10_putBytes_4 (by decide) (fun h49 => ?_) (fun h49 => ?_)
      · skip
        exfalso; exact om_6f303b0f h6 h28 h48 h49
      · skip
        refine tr_aload_n dX10_putBytes_7 rfl ?_
        refine tr_getR dX10_putBytes_8 fl10_9 (kR1 hS44.1 ta0) d9 ?_
        refine tr_aload_n dX10_putBytes_11 rfl ?_
        refine q_getI dX10_putBytes_12 fl10_71 (kR1 hS44.1 ta0) e45 ?_
        refine tr_iload_n dX10_putBytes_15 rfl ?_
        refine tr_iload_n dX10_putBytes_16 rfl ?_
        refine tr_ishr dX10_putBytes_17 ?_
        obtain ⟨v50, lx51⟩ : ∃ z, z = x1 >>> (v47 &&& 31) := ⟨_, rfl⟩
        rw [← lx51]
        refine tr_i2b dX10_putBytes_18 ?_
        obtain ⟨v52, lx53⟩ : ∃ z, z = v50.toInt8.toInt32 := ⟨_, rfl⟩
        rw [← lx53]
        refine q_bastE dX10_putBytes_19 (kR17 hS44.1 ta8) (ti_in (nR17 hS44.1 ta8) (by exact om_77a4d254 b3.2 b3.1 p4 h20 h22 h40 h42) (by exact om_3e608999 b3.2 b3.1 p4 h20 h22 h40 h42)) hS44 ta8 rfl rfl (by rfl) ?_
        intro I54 hS55 e56 f57
        have c58 : I54 a0 1 = v41 := (f57 _ _ (fun q => by have z := ta0; rw [q.1, ta8] at z; exact absurd z (by decide))).trans e45
        refine tr_aload_n dX10_putBytes_20 rfl ?_
        refine tr_dup dX10_putBytes_21 rfl ?_
        refine q_getI dX10_putBytes_22 fl10_71 (kR1 hS55.1 ta0) c58 ?_
        refine q_iconst dX10_putBytes_25 (by decide) ?_
        intro v59 h60
        refine q_iaddE dX10_putBytes_26 (by intro j1 j2 j3 j4; exact om_a64179d2 b3.2 b3.1 p4 h20 h22 h40 h42 h60) ?_
        intro v61 h62
        refine q_putI dX10_putBytes_27 fl10_71 (kR1 hS55.1 ta0) (Or.inl rfl) hS55 ta0 (by show (0 : Int) ≤ v61.toInt ∧ v61.toInt ≤ (900 : Int); exact om_49f11085 b3.2 b3.1 p4 h20 h22 h40 h42 h60 h62) rfl (by decide +kernel) ?_
        intro I63 hS64 e65 f66
        refine q_iincE dX10_putBytes_30 rfl (by decide) (by decide) (by intro j1 j2; exact om_284f9924 h6 h28 h48) ?_
        intro v67 h68
        refine tr_goto 3 dX10_putBytes_33 (by decide) ?_
        refine tr_iload_n dX10_putBytes_3 rfl ?_
        refine q_if_lt 36 dX10_putBytes_4 (by decide) (fun h69 => ?_) (fun h69 => ?_)
        · skip
          exfalso; exact om_6c4e2cd3 h6 h28 h48 h68 h69
        · skip
          refine tr_aload_n dX10_putBytes_7 rfl ?_
          refine tr_getR dX10_putBytes_8 fl10_9 (kR1 hS64.1 ta0) d9 ?_
          refine tr_aload_n dX10_putBytes_11 rfl ?_
          refine q_getI dX10_putBytes_12 fl10_71 (kR1 hS64.1 ta0) e65 ?_
          refine tr_iload_n dX10_putBytes_15 rfl ?_
          refine tr_iload_n dX10_putBytes_16 rfl ?_
          refine tr_ishr dX10_putBytes_17 ?_
          obtain ⟨v70, lx71⟩ : ∃ z, z = x1 >>> (v67 &&& 31) := ⟨_, rfl⟩
          rw [← lx71]
          refine tr_i2b dX10_putBytes_18 ?_
          obtain ⟨v72, lx73⟩ : ∃ z, z = v70.toInt8.toInt32 := ⟨_, rfl⟩
          rw [← lx73]
          refine q_bastE dX10_putBytes_19 (kR17 hS64.1 ta8) (ti_in (nR17 hS64.1 ta8) (by exact om_420692e4 b3.2 b3.1 p4 h20 h22 h40 h42 h60 h62) (by exact om_d39b31e6 b3.2 b3.1 p4 h20 h22 h40 h42 h60 h62)) hS64 ta8 rfl rfl (by rfl) ?_
          intro I74 hS75 e76 f77
          have c78 : I74 a0 1 = v61 := (f77 _ _ (fun q => by have z := ta0; rw [q.1, ta8] at z; exact absurd z (by decide))).trans e65
          refine tr_aload_n dX10_putBytes_20 rfl ?_
          refine tr_dup dX10_putBytes_21 rfl ?_
          refine q_getI dX10_putBytes_22 fl10_71 (kR1 hS75.1 ta0) c78 ?_
          refine q_iconst dX10_putBytes_25 (by decide) ?_
          intro v79 h80
          refine q_iaddE dX10_putBytes_26 (by intro j1 j2 j3 j4; exact om_fc2a3e71 b3.2 b3.1 p4 h20 h22 h40 h42 h60 h62 h80) ?_
          intro v81 h82
          refine q_putI dX10_putBytes_27 fl10_71 (kR1 hS75.1 ta0) (Or.inl rfl) hS75 ta0 (by show (0 : Int) ≤ v81.toInt ∧ v81.toInt ≤ (900 : Int); exact om_84957e43 b3.2 b3.1 p4 h20 h22 h40 h42 h60 h62 h80 h82) rfl (by decide +kernel) ?_
          intro I83 hS84 e85 f86
          refine q_iincE dX10_putBytes_30 rfl (by decide) (by decide) (by intro j1 j2; exact om_954f625a h6 h28 h48 h68) ?_
          intro v87 h88
          refine tr_goto 3 dX10_putBytes_33 (by decide) ?_
          refine tr_iload_n dX10_putBytes_3 rfl ?_
          refine q_if_lt 36 dX10_putBytes_4 (by decide) (fun h89 => ?_) (fun h89 => ?_)
          · skip
            exact tr_vret hZ dX10_putBytes_36 rfl (by decide) (by decide) ⟨rfl, rfl, rfl, rfl, rfl, rfl, hS84, (by (try rw [e85]); (try rw [c2]); first | done | with_reducible assumption | exact om_b7db5390 h20 h22 h40 h42 h60 h62 h80 h82), (fun t ht => by
                obtain rfl := Option.some.inj (d9.symm.trans ht)
                have el0 : v5 = Int32.ofNat 24 := Int32.toInt_inj.mp ((show v5.toInt = 24 by exact om_96522407 h6).trans rfl)
                have w0 := FbW.one (FbW.rf I0 a8 v1.toInt (fby x1)) (i := v1.toNatClampNeg) (by have q := ti_nat (i := v1) (by exact om_fcc7a5b0 b3.2 b3.1 p4 h20 h22 h40 h42 h60 h62 h80 h82); exact om_b9fb378e h20 h22 h40 h42 h60 h62 h80 h82 q) (e16.trans (by rw [lx13, lx11, el0]; rfl)) (fun k hk => f17 _ _ (fun q => hk q.2))
                have x0 := w0.kp (fun k => f26 _ _ (fun q => by have z := ta8; rw [q.1, ta0] at z; exact absurd z (by decide)))
                have el1 : v27 = Int32.ofNat 16 := Int32.toInt_inj.mp ((show v27.toInt = 16 by exact om_7ac70bfa h6 h28).trans rfl)
                have w1 := FbW.one x0 (i := v21.toNatClampNeg) (by have q := ti_nat (i := v21) (by exact om_3c303349 b3.2 b3.1 p4 h20 h22 h40 h42 h60 h62 h80 h82); exact om_062ff84e h20 h22 h40 h42 h60 h62 h80 h82 q) (e36.trans (by rw [lx33, lx31, el1]; rfl)) (fun k hk => f37 _ _ (fun q => hk q.2))
                have x1 := w1.kp (fun k => f46 _ _ (fun q => by have z := ta8; rw [q.1, ta0] at z; exact absurd z (by decide)))
                have el2 : v47 = Int32.ofNat 8 := Int32.toInt_inj.mp ((show v47.toInt = 8 by exact om_4e8c9019 h6 h28 h48).trans rfl)
                have w2 := FbW.one x1 (i := v41.toNatClampNeg) (by have q := ti_nat (i := v41) (by exact om_5ed137c3 b3.2 b3.1 p4 h20 h22 h40 h42 h60 h62 h80 h82); exact om_e2f8635f h20 h22 h40 h42 h60 h62 h80 h82 q) (e56.trans (by rw [lx53, lx51, el2]; rfl)) (fun k hk => f57 _ _ (fun q => hk q.2))
                have x2 := w2.kp (fun k => f66 _ _ (fun q => by have z := ta8; rw [q.1, ta0] at z; exact absurd z (by decide)))
                have el3 : v67 = Int32.ofNat 0 := Int32.toInt_inj.mp ((show v67.toInt = 0 by exact om_f69cf438 h6 h28 h48 h68).trans rfl)
                have w3 := FbW.one x2 (i := v61.toNatClampNeg) (by have q := ti_nat (i := v61) (by exact om_ab5a4417 b3.2 b3.1 p4 h20 h22 h40 h42 h60 h62 h80 h82); exact om_ae206908 h20 h22 h40 h42 h60 h62 h80 h82 q) (e76.trans (by rw [lx73, lx71, el3]; rfl)) (fun k hk => f77 _ _ (fun q => hk q.2))
                have x3 := w3.kp (fun k => f86 _ _ (fun q => by have z := ta8; rw [q.1, ta0] at z; exact absurd z (by decide)))
                rw [c2]
                exact x3), trivial⟩
          · skip
            exfalso; exact om_3ca46771 h6 h28 h48 h68 h88 h89
def wik_X10_feed : List Nat := [65, 1151]
def wrk_X10_feed : List Nat := []
set_option maxHeartbeats 4000000 in
theorem fk_X10_feed {l : Launch} {T : Nat → Nat} {cn : Nat} {K N : Nat → Nat} {I0 : cz_I} {R0 : cz_R} {L0 : cz_L} {d : Int} (hW0 : Wf T cn K N I0 R0 d)  {a0 : Nat} (ta0 : T a0 = 1) {x1 : Int32} {x2 : Int32} {x3 : Int32} {x4 : Int32} {x5 : Int32} : ConE l mX10_feed [.ref a0, .int x1, .int x2, .int x3, .int x4, .int x5] cn K N I0 R0 L0 (ca_i (fun v cn' K' N' I' R' L' => cn = cn' ∧ K = K' ∧ N = N' ∧ R0 = R' ∧ L0 = L' ∧ St T cn K N d wik_X10_feed wrk_X10_feed I0 R0 I' R0 ∧ (∀ t, R0 a0 0 = some t → (¬ (I0 a0 1).toInt + 20 ≤ 900 → ∀ k, I' t k = I0 t k) ∧ ((I0 a0 1).toInt + 20 ≤ 900 → FbW I0 I' t (I0 a0 1).toInt 20 (fb5 x1 x2 x3 x4 x5))) ∧ ((((I0 a0 1).toInt + 20 > 900) ∧ (v.toInt = -1) ∧ ((I' a0 1).toInt = (I0 a0 1).toInt) ∧ True) ∨ (((I0 a0 1).toInt + 20 ≤ 900) ∧ (v.toInt = (I0 a0 1).toInt + 20) ∧ ((I' a0 1).toInt = (I0 a0 1).toInt + 20) ∧ True)) ∧ True)) := by
  refine ConE.of (by decide +kernel) rfl (Nat.le_of_ble_eq_true rfl) rfl (fun X hX hZ hE => ?_)
  subst hX
  have hS0 : St T cn K N d wik_X10_feed wrk_X10_feed I0 R0 I0 R0 := St.rf0 hW0
  obtain ⟨v1, c2⟩ : ∃ v, I0 a0 1 = v := ⟨_, rfl⟩
  have b3 := iv1_1 hS0.1 ta0 c2
  refine tr_aload_n dX10_feed_0 rfl ?_
  refine q_getI dX10_feed_1 fl10_71 (kR1 hS0.1 ta0) c2 ?_
  refine q_bipush dX10_feed_4 (by decide +kernel) ?_
  intro v4 h5
  refine q_iaddE dX10_feed_6 (by intro j1 j2 j3 j4; exact om_8721b699 b3.2 b3.1 h5) ?_
  intro v6 h7
  refine q_sipush dX10_feed_7 (by decide +kernel) ?_
  intro v8 h9
  refine q_icmp_le 15 dX10_feed_10 (by decide) (fun h10 => ?_) (fun h10 => ?_)
  · skip
    refine tr_aload_n dX10_feed_15 rfl ?_
    refine tr_iload_n dX10_feed_16 rfl ?_
    refine q_callVv hE (M' := mX10_putBytes) (as := [_]) dX10_feed_17 lk10_75 inX10_putBytes seX10_putBytes myX10_putBytes (by decide) ⟨by decide, by decide⟩ rfl (kR1 hS0.1 ta0) (Nat.le_of_ble_eq_true rfl) rfl rfl (by decide) (by decide) (fk_X10_putBytes hS0.1  ta0 (by (try rw [c2]); first | done | with_reducible assumption | exact om_5c5eefc8 b3.2 b3.1 h5 h7 h9 h10)) ?_
    rintro cn' K' N' I11 R12 L13 ⟨rfl, rfl, rfl, rfl, rfl, g14, p17, rp18, -⟩
    have hS19 := hS0.tr g14 (by decide +kernel) (by decide +kernel)
    obtain ⟨v20, c21⟩ : ∃ v, I11 a0 1 = v := ⟨_, rfl⟩
    have b22 := iv1_1 hS19.1 ta0 c21
    rw [c21] at p17
    rw [c2] at p17
    refine tr_aload_n dX10_feed_20 rfl ?_
    refine tr_iload_n dX10_feed_21 rfl ?_
    refine q_callVv hE (M' := mX10_putBytes) (as := [_]) dX10_feed_22 lk10_75 inX10_putBytes seX10_putBytes myX10_putBytes (by decide) ⟨by decide, by decide⟩ rfl (kR1 hS19.1 ta0) (Nat.le_of_ble_eq_true rfl) rfl rfl (by decide) (by decide) (fk_X10_putBytes hS19.1  ta0 (by (try rw [c21]); first | done | with_reducible assumption | exact om_bd649093 b3.2 b3.1 h5 h7 h9 h10 p17)) ?_
    rintro cn' K' N' I23 R24 L25 ⟨rfl, rfl, rfl, rfl, rfl, g26, p29, rp30, -⟩
    have hS31 := hS19.tr g26 (by decide +kernel) (by decide +kernel)
    obtain ⟨v32, c33⟩ : ∃ v, I23 a0 1 = v := ⟨_, rfl⟩
    have b34 := iv1_1 hS31.1 ta0 c33
    rw [c33] at p29
    rw [c21] at p29
    refine tr_aload_n dX10_feed_25 rfl ?_
    refine tr_iload_n dX10_feed_26 rfl ?_
    refine q_callVv hE (M' := mX10_putBytes) (as := [_]) dX10_feed_27 lk10_75 inX10_putBytes seX10_putBytes myX10_putBytes (by decide) ⟨by decide, by decide⟩ rfl (kR1 hS31.1 ta0) (Nat.le_of_ble_eq_true rfl) rfl rfl (by decide) (by decide) (fk_X10_putBytes hS31.1  ta0 (by (try rw [c33]); first | done | with_reducible assumption | exact om_12b8d284 b3.2 b3.1 h5 h7 h9 h10 p17 p29)) ?_
    rintro cn' K' N' I35 R36 L37 ⟨rfl, rfl, rfl, rfl, rfl, g38, p41, rp42, -⟩
    have hS43 := hS31.tr g38 (by decide +kernel) (by decide +kernel)
    obtain ⟨v44, c45⟩ : ∃ v, I35 a0 1 = v := ⟨_, rfl⟩
    have b46 := iv1_1 hS43.1 ta0 c45
    rw [c45] at p41
    rw [c33] at p41
    refine tr_aload_n dX10_feed_30 rfl ?_
    refine tr_iload dX10_feed_31 rfl ?_
    refine q_callVv hE (M' := mX10_putBytes) (as := [_]) dX10_feed_33 lk10_75 inX10_putBytes seX10_putBytes myX10_putBytes (by decide) ⟨by decide, by decide⟩ rfl (kR1 hS43.1 ta0) (Nat.le_of_ble_eq_true rfl) rfl rfl (by decide) (by decide) (fk_X10_putBytes hS43.1  ta0 (by (try rw [c45]); first | done | with_reducible assumption | exact om_671c5274 b3.2 b3.1 h5 h7 h9 h10 p17 p29 p41)) ?_
    rintro cn' K' N' I47 R48 L49 ⟨rfl, rfl, rfl, rfl, rfl, g50, p53, rp54, -⟩
    have hS55 := hS43.tr g50 (by decide +kernel) (by decide +kernel)
    obtain ⟨v56, c57⟩ : ∃ v, I47 a0 1 = v := ⟨_, rfl⟩
    have b58 := iv1_1 hS55.1 ta0 c57
    rw [c57] at p53
    rw [c45] at p53
    refine tr_aload_n dX10_feed_36 rfl ?_
    refine tr_iload dX10_feed_37 rfl ?_
    refine q_callVv hE (M' := mX10_putBytes) (as := [_]) dX10_feed_39 lk10_75 inX10_putBytes seX10_putBytes myX10_putBytes (by decide) ⟨by decide, by decide⟩ rfl (kR1 hS55.1 ta0) (Nat.le_of_ble_eq_true rfl) rfl rfl (by decide) (by decide) (fk_X10_putBytes hS55.1  ta0 (by (try rw [c57]); first | done | with_reducible assumption | exact om_a3b8074d b3.2 b3.1 h5 h7 h9 h10 p17 p29 p41 p53)) ?_
    rintro cn' K' N' I59 R60 L61 ⟨rfl, rfl, rfl, rfl, rfl, g62, p65, rp66, -⟩
    have hS67 := hS55.tr g62 (by decide +kernel) (by decide +kernel)
    obtain ⟨v68, c69⟩ : ∃ v, I59 a0 1 = v := ⟨_, rfl⟩
    have b70 := iv1_1 hS67.1 ta0 c69
    rw [c69] at p65
    rw [c57] at p65
    refine tr_aload_n dX10_feed_42 rfl ?_
    refine q_getI dX10_feed_43 fl10_71 (kR1 hS67.1 ta0) c69 ?_
    obtain ⟨a71, d72, ta71⟩ := rf1_0 hW0 ta0
    exact tr_iret hZ dX10_feed_46 rfl (by decide) (by decide) ⟨v68, rfl, rfl, rfl, rfl, rfl, rfl, hS67, (fun t ht => ⟨fun q => by rw [c2] at q; omega, fun _ => by
        have z := (((((rp18 t ht).app (rp30 t ht) (by rw [c21, c2]; exact om_51971ac3 p17)).app (rp42 t ht) (by rw [c33, c2]; exact om_9aada1ad h5 h7 p17 p29)).app (rp54 t ht) (by rw [c45, c2]; exact om_af0bf0a2 h5 h7 p17 p29 p41)).app (rp66 t ht) (by rw [c57, c2]; exact om_ae3b97b6 h5 h7 p17 p29 p41 p53))
        exact z.cg (fun j hj => by
          have q : j = 0 ∨ j = 1 ∨ j = 2 ∨ j = 3 ∨ j = 4 ∨ j = 5 ∨ j = 6 ∨ j = 7 ∨ j = 8 ∨ j = 9 ∨ j = 10 ∨ j = 11 ∨ j = 12 ∨ j = 13 ∨ j = 14 ∨ j = 15 ∨ j = 16 ∨ j = 17 ∨ j = 18 ∨ j = 19 := by exact om_eadafdad hj
          rcases q with rfl | rfl | rfl | rfl | rfl | rfl | rfl | rfl | rfl | rfl | rfl | rfl | rfl | rfl | rfl | rfl | rfl | rfl | rfl | rfl <;> rfl)⟩), (Or.inr (⟨(by (try rw [c2]); first | done | with_reducible assumption | exact om_b4477e06 b3.2 b3.1 h5 h7 h9 h10 p17 p29 p41 p53 p65), (by (try rw [c2]); first | done | with_reducible assumption | exact om_e9d409bc h5 h7 p17 p29 p41 p53 p65), (by (try rw [c69]); (try rw [c2]); first | done | with_reducible assumption | exact om_e9d409bc h5 h7 p17 p29 p41 p53 p65), trivial⟩)), trivial⟩
  · skip
    refine q_iconst dX10_feed_13 (by decide) ?_
    intro v73 h74
    obtain ⟨a75, d76, ta75⟩ := rf1_0 hW0 ta0
    exact tr_iret hZ dX10_feed_14 rfl (by decide) (by decide) ⟨v73, rfl, rfl, rfl, rfl, rfl, rfl, hS0, (fun t ht => ⟨fun _ _ => rfl, fun q => by rw [c2] at q; omega⟩), (Or.inl ⟨(by (try rw [c2]); first | done | with_reducible assumption | exact om_7d826c96 b3.2 b3.1 h5 h7 h9 h10), (by first | done | with_reducible assumption | omega), (by (try rw [c2]); first | done | with_reducible assumption | omega), trivial⟩), trivial⟩
def wik_X12_feed : List Nat := [960, 966, 4927]
def wrk_X12_feed : List Nat := []
set_option maxHeartbeats 4000000 in
theorem fk_X12_feed {l : Launch} {T : Nat → Nat} {cn : Nat} {K N : Nat → Nat} {I0 : cz_I} {R0 : cz_R} {L0 : cz_L} {d : Int} (hW0 : Wf T cn K N I0 R0 d)  {a0 : Nat} (ta0 : T a0 = 15) {x1 : Int32} {x2 : Int32} {x3 : Int32} {x4 : Int32} {x5 : Int32} : ConE l mX12_feed [.ref a0, .int x1, .int x2, .int x3, .int x4, .int x5] cn K N I0 R0 L0 (ca_i (fun v cn' K' N' I' R' L' => cn = cn' ∧ K = K' ∧ N = N' ∧ R0 = R' ∧ L0 = L' ∧ St T cn K N d wik_X12_feed wrk_X12_feed I0 R0 I' R0 ∧ (∀ t, R0 a0 5 = some t → (¬ (I0 a0 6).toInt + 20 ≤ 900 → ∀ k, I' t k = I0 t k) ∧ ((I0 a0 6).toInt + 20 ≤ 900 → FbW I0 I' t (I0 a0 6).toInt 20 (fb5 x1 x2 x3 x4 x5))) ∧ ((((I0 a0 6).toInt + 20 > 900) ∧ (v.toInt = -1) ∧ ((I' a0 6).toInt = (I0 a0 6).toInt) ∧ True) ∨ (((I0 a0 6).toInt + 20 ≤ 900) ∧ (v.toInt = (I0 a0 6).toInt + 20) ∧ ((I' a0 6).toInt = (I0 a0 6).toInt + 20) ∧ True)) ∧ True)) := by
  refine ConE.of (by decide +kernel) rfl (Nat.le_of_ble_eq_true rfl) rfl (fun X hX hZ hE => ?_)
  subst hX
  have hS0 : St T cn K N d wik_X12_feed wrk_X12_feed I0 R0 I0 R0 := St.rf0 hW0
  obtain ⟨v1, c2⟩ : ∃ v, I0 a0 6 = v := ⟨_, rfl⟩
  have b3 := iv15_6 hS0.1 ta0 c2
  refine tr_aload_n dX12_feed_0 rfl ?_
  refine q_iconst dX12_feed_1 (by decide) ?_
  intro v4 h5
  refine q_putI dX12_feed_2 fl12_70 (kR15 hS0.1 ta0) (Or.inl rfl) hS0 ta0 (iokF rfl) rfl (by decide +kernel) ?_
  intro I6 hS7 e8 f9
  have c10 : I6 a0 6 = v1 := (f9 _ _ (fun q => absurd q.2 (by decide))).trans c2
  refine tr_aload_n dX12_feed_5 rfl ?_
  refine q_getI dX12_feed_6 fl12_378 (kR15 hS7.1 ta0) c10 ?_
  refine q_bipush dX12_feed_9 (by decide +kernel) ?_
  intro v11 h12
  refine q_iaddE dX12_feed_11 (by intro j1 j2 j3 j4; exact om_8721b699 b3.2 b3.1 h12) ?_
  intro v13 h14
  refine q_sipush dX12_feed_12 (by decide +kernel) ?_
  intro v15 h16
  refine q_icmp_le 20 dX12_feed_15 (by decide) (fun h17 => ?_) (fun h17 => ?_)
  · skip
    refine q_iconst dX12_feed_20 (by decide) ?_
    intro v18 h19
    refine tr_istore dX12_feed_21 (by decide) (by decide) ?_
    have lp36 : ∀ (fu : Nat) (ls : Nat → Option Value) (v20 : Int32) (I28 : cz_I) (v30 : Int32), ls 0 = some (.ref a0) → ls 1 = some (.int x1) → ls 2 = some (.int x2) → ls 3 = some (.int x3) → ls 4 = some (.int x4) → ls 5 = some (.int x5) → ls 6 = some (.int v20) → St T cn K N d wik_X12_feed wrk_X12_feed I0 R0 I28 R0 → I28 a0 6 = v30 → v30.toInt = v1.toInt + v20.toInt → 0 ≤ v20.toInt → v20.toInt ≤ 20 → (∀ t, R0 a0 5 = some t → FbW I0 I28 t v1.toInt v20.toInt.toNat (fb5 x1 x2 x3 x4 x5)) → (-v20.toInt + 2147483647).toNat < fu → Tr X mX12_feed 23 ls [] cn K N I28 R0 L0 0 0 := by
      intro fu
      induction fu with
      | zero => intros; rename_i hz; exact absurd hz (Nat.not_lt_zero _)
      | succ fu ih36 =>
        intro ls v20 I28 v30 hl21 hl22 hl23 hl24 hl25 hl26 hl27 hS29 c31 g32 g33 g34 rw35 hm36
        have b38 := iv15_6 hS29.1 ta0 c31
        refine tr_iload dX12_feed_23 hl27 ?_
        refine q_bipush dX12_feed_25 (by decide +kernel) ?_
        intro v39 h40
        refine q_icmp_ge 117 dX12_feed_27 (by decide) (fun h41 => ?_) (fun h41 => ?_)
        · skip
          refine tr_aload_n dX12_feed_117 hl21 ?_
          refine q_getI dX12_feed_118 fl12_378 (kR15 hS29.1 ta0) c31 ?_
          exact tr_iret hZ dX12_feed_121 rfl (by decide) (by decide) ⟨v30, rfl, rfl, rfl, rfl, rfl, rfl, hS29, (fun t ht => ⟨fun q => by rw [c2] at q; omega, fun _ => by have z := rw35 t ht; rw [show v20.toInt.toNat = 20 by exact om_d86fba46 g33 g34 h40 h41] at z; rw [c2]; exact z⟩), (Or.inr (⟨(by (try rw [c2]); first | done | with_reducible assumption | exact om_663d446b b3.2 b3.1 h12 h14 h16 h17 g32), (by (try rw [c2]); first | done | with_reducible assumption | exact om_dc91ad41 h12 h14 g32 g33 g34 h40 h41), (by (try rw [c31]); (try rw [c2]); first | done | with_reducible assumption | exact om_dc91ad41 h12 h14 g32 g33 g34 h40 h41), trivial⟩)), trivial⟩
        · skip
          refine tr_iload dX12_feed_30 hl27 ?_
          refine q_iconst dX12_feed_32 (by decide) ?_
          intro v42 h43
          refine q_icmp_ge 40 dX12_feed_33 (by decide) (fun h44 => ?_) (fun h44 => ?_)
          · skip
            refine tr_iload dX12_feed_40 hl27 ?_
            refine q_bipush dX12_feed_42 (by decide +kernel) ?_
            intro v45 h46
            refine q_icmp_ge 51 dX12_feed_44 (by decide) (fun h47 => ?_) (fun h47 => ?_)
            · skip
              refine tr_iload dX12_feed_51 hl27 ?_
              refine q_bipush dX12_feed_53 (by decide +kernel) ?_
              intro v48 h49
              refine q_icmp_ge 62 dX12_feed_55 (by decide) (fun h50 => ?_) (fun h50 => ?_)
              · skip
                refine tr_iload dX12_feed_62 hl27 ?_
                refine q_bipush dX12_feed_64 (by decide +kernel) ?_
                intro v51 h52
                refine q_icmp_ge 74 dX12_feed_66 (by decide) (fun h53 => ?_) (fun h53 => ?_)
                · skip
                  refine tr_iload dX12_feed_74 hl26 ?_
                  refine tr_istore dX12_feed_76 (by decide) (by decide) ?_
                  refine tr_aload_n dX12_feed_78 hl21 ?_
                  obtain ⟨a54, d55, ta54⟩ := rf15_5 hW0 ta0
                  refine tr_getR dX12_feed_79 fl12_13 (kR15 hS29.1 ta0) d55 ?_
                  refine tr_aload_n dX12_feed_82 hl21 ?_
                  refine q_getI dX12_feed_83 fl12_378 (kR15 hS29.1 ta0) c31 ?_
                  refine tr_iload dX12_feed_86 rfl ?_
                  refine q_bipush dX12_feed_88 (by decide +kernel) ?_
                  intro v56 h57
                  refine q_bipush dX12_feed_90 (by decide +kernel) ?_
                  intro v58 h59
                  refine tr_iload dX12_feed_92 hl27 ?_
                  refine q_iconst dX12_feed_94 (by decide) ?_
                  intro v60 h61
                  refine q_iremX (c := 4) dX12_feed_95 (by exact om_2cfcd5a5 g33) (by exact om_668bd13a h61) (by decide) ?_
                  intro v62 h63
                  refine q_imulE (c := 8) dX12_feed_96 (by exact om_ab0fb6d5 h59) (by exact om_e515617b h40 h41 h52 h53 h63) ?_
                  intro v64 h65
                  refine q_isubE dX12_feed_97 (by intro j1 j2 j3 j4; exact om_5d85b0e8 h57 h63 h65 j3 j4) ?_
                  intro v66 h67
                  refine tr_ishr dX12_feed_98 ?_
                  obtain ⟨v68, lx69⟩ : ∃ z, z = x5 >>> (v66 &&& 31) := ⟨_, rfl⟩
                  rw [← lx69]
                  refine tr_i2b dX12_feed_99 ?_
                  obtain ⟨v70, lx71⟩ : ∃ z, z = v68.toInt8.toInt32 := ⟨_, rfl⟩
                  rw [← lx71]
                  refine q_bastE dX12_feed_100 (kR76 hS29.1 ta54) (ti_in (nR76 hS29.1 ta54) (by exact om_cc59603c b38.2 b38.1) (by exact om_6397845e b3.2 b3.1 h12 h14 h16 h17 g32 b38.2 b38.1 h40 h41 h52 h53 h63)) hS29 ta54 rfl rfl (by rfl) ?_
                  intro I72 hS73 e74 f75
                  have c76 : I72 a0 6 = v30 := (f75 _ _ (fun q => by have z := ta0; rw [q.1, ta54] at z; exact absurd z (by decide))).trans c31
                  refine tr_aload_n dX12_feed_101 hl21 ?_
                  refine tr_dup dX12_feed_102 rfl ?_
                  refine q_getI dX12_feed_103 fl12_378 (kR15 hS73.1 ta0) c76 ?_
                  refine q_iconst dX12_feed_106 (by decide) ?_
                  intro v77 h78
                  refine q_iaddE dX12_feed_107 (by intro j1 j2 j3 j4; exact om_f1028c16 b38.2 b38.1 h78) ?_
                  intro v79 h80
                  refine q_putI dX12_feed_108 fl12_378 (kR15 hS73.1 ta0) (Or.inl rfl) hS73 ta0 (by show (0 : Int) ≤ v79.toInt ∧ v79.toInt ≤ (900 : Int); exact om_e300a95f b3.2 b3.1 h12 h14 h16 h17 g32 b38.2 b38.1 h40 h41 h52 h53 h63 h78 h80) rfl (by decide +kernel) ?_
                  intro I81 hS82 e83 f84
                  refine q_iincE dX12_feed_111 hl27 (by decide) (by decide) (by intro j1 j2; exact om_6a98a368 h40 h41 h52 h53 h63) ?_
                  intro v85 h86
                  refine tr_goto 23 dX12_feed_114 (by decide) ?_
                  exact ih36 _ v85 I81 v79 hl21 hl22 hl23 hl24 hl25 hl26 rfl hS82 e83 (by exact om_bf9a333f h12 h14 g32 h63 h78 h80 h86) (by exact om_e0e81faa h40 h41 h52 h53 h63 h86) (by exact om_f0daeb88 h40 h41 h52 h53 h63 h86) (fun t ht => by
                      obtain rfl := Option.some.inj (d55.symm.trans ht)
                      rw [show v85.toInt.toNat = v20.toInt.toNat + 1 by exact om_d353f6d7 h40 h41 h52 h53 h63 h86]
                      refine (FbW.one (rw35 _ ht) (i := v30.toNatClampNeg) (by have q := ti_nat (i := v30) (by exact om_1cfe4d4d b38.2 b38.1 h78 h80); exact om_f46a53cc h12 h14 g32 h40 h41 h52 h53 h63 h78 h80 h86 q) (e74.trans ?_) (fun k hk => f75 _ _ (fun q => hk q.2))).kp (fun k => f84 _ _ (fun q => by have z := ta54; rw [q.1, ta0] at z; exact absurd z (by decide)))
                      rw [lx71, lx69, fb5, if_neg (by exact om_9f851aba h40 h41 h52 h53 h63 h86), if_neg (by exact om_ee8d1a72 h40 h41 h52 h53 h63 h86), if_neg (by exact om_89f0f329 h40 h41 h52 h53 h63 h86), if_neg (by exact om_b97893f7 h40 h41 h52 h53 h63 h86)]
                      exact fby_sh (by exact om_20df663c) (by exact om_80d86d1b h40 h41 h52 h53 h57 h63 h65 h67 h86)) (by exact om_f1df3a33 hm36 h40 h41 h52 h53 h63 h86)
                · skip
                  refine tr_iload dX12_feed_69 hl25 ?_
                  refine tr_goto 76 dX12_feed_71 (by decide) ?_
                  refine tr_istore dX12_feed_76 (by decide) (by decide) ?_
                  refine tr_aload_n dX12_feed_78 hl21 ?_
                  obtain ⟨a87, d88, ta87⟩ := rf15_5 hW0 ta0
                  refine tr_getR dX12_feed_79 fl12_13 (kR15 hS29.1 ta0) d88 ?_
                  refine tr_aload_n dX12_feed_82 hl21 ?_
                  refine q_getI dX12_feed_83 fl12_378 (kR15 hS29.1 ta0) c31 ?_
                  refine tr_iload dX12_feed_86 rfl ?_
                  refine q_bipush dX12_feed_88 (by decide +kernel) ?_
                  intro v89 h90
                  refine q_bipush dX12_feed_90 (by decide +kernel) ?_
                  intro v91 h92
                  refine tr_iload dX12_feed_92 hl27 ?_
                  refine q_iconst dX12_feed_94 (by decide) ?_
                  intro v93 h94
                  refine q_iremX (c := 4) dX12_feed_95 (by exact om_2cfcd5a5 g33) (by exact om_668bd13a h94) (by decide) ?_
                  intro v95 h96
                  refine q_imulE (c := 8) dX12_feed_96 (by exact om_ab0fb6d5 h92) (by exact om_77365079 h49 h50 h52 h53 h96) ?_
                  intro v97 h98
                  refine q_isubE dX12_feed_97 (by intro j1 j2 j3 j4; exact om_5d85b0e8 h90 h96 h98 j3 j4) ?_
                  intro v99 h100
                  refine tr_ishr dX12_feed_98 ?_
                  obtain ⟨v101, lx102⟩ : ∃ z, z = x4 >>> (v99 &&& 31) := ⟨_, rfl⟩
                  rw [← lx102]
                  refine tr_i2b dX12_feed_99 ?_
                  obtain ⟨v103, lx104⟩ : ∃ z, z = v101.toInt8.toInt32 := ⟨_, rfl⟩
                  rw [← lx104]
                  refine q_bastE dX12_feed_100 (kR76 hS29.1 ta87) (ti_in (nR76 hS29.1 ta87) (by exact om_cc59603c b38.2 b38.1) (by exact om_50c27fe9 b3.2 b3.1 h12 h14 h16 h17 g32 b38.2 b38.1 h49 h50 h52 h53 h96)) hS29 ta87 rfl rfl (by rfl) ?_
                  intro I105 hS106 e107 f108
                  have c109 : I105 a0 6 = v30 := (f108 _ _ (fun q => by have z := ta0; rw [q.1, ta87] at z; exact absurd z (by decide))).trans c31
                  refine tr_aload_n dX12_feed_101 hl21 ?_
                  refine tr_dup dX12_feed_102 rfl ?_
                  refine q_getI dX12_feed_103 fl12_378 (kR15 hS106.1 ta0) c109 ?_
                  refine q_iconst dX12_feed_106 (by decide) ?_
                  intro v110 h111
                  refine q_iaddE dX12_feed_107 (by intro j1 j2 j3 j4; exact om_f1028c16 b38.2 b38.1 h111) ?_
                  intro v112 h113
                  refine q_putI dX12_feed_108 fl12_378 (kR15 hS106.1 ta0) (Or.inl rfl) hS106 ta0 (by show (0 : Int) ≤ v112.toInt ∧ v112.toInt ≤ (900 : Int); exact om_1035bdfe b3.2 b3.1 h12 h14 h16 h17 g32 b38.2 b38.1 h49 h50 h52 h53 h96 h111 h113) rfl (by decide +kernel) ?_
                  intro I114 hS115 e116 f117
                  refine q_iincE dX12_feed_111 hl27 (by decide) (by decide) (by intro j1 j2; exact om_e05dc5b2 h49 h50 h52 h53 h96) ?_
                  intro v118 h119
                  refine tr_goto 23 dX12_feed_114 (by decide) ?_
                  exact ih36 _ v118 I114 v112 hl21 hl22 hl23 hl24 hl25 hl26 rfl hS115 e116 (by exact om_bf9a333f h12 h14 g32 h96 h111 h113 h119) (by exact om_4ea509bd h49 h50 h52 h53 h96 h119) (by exact om_c432a3c9 h49 h50 h52 h53 h96 h119) (fun t ht => by
                      obtain rfl := Option.some.inj (d88.symm.trans ht)
                      rw [show v118.toInt.toNat = v20.toInt.toNat + 1 by exact om_27a0be93 h49 h50 h52 h53 h96 h119]
                      refine (FbW.one (rw35 _ ht) (i := v30.toNatClampNeg) (by have q := ti_nat (i := v30) (by exact om_1cfe4d4d b38.2 b38.1 h111 h113); exact om_78ade26b h12 h14 g32 h49 h50 h52 h53 h96 h111 h113 h119 q) (e107.trans ?_) (fun k hk => f108 _ _ (fun q => hk q.2))).kp (fun k => f117 _ _ (fun q => by have z := ta87; rw [q.1, ta0] at z; exact absurd z (by decide)))
                      rw [lx104, lx102, fb5, if_neg (by exact om_501c1df0 h49 h50 h52 h53 h96 h119), if_neg (by exact om_87266354 h49 h50 h52 h53 h96 h119), if_neg (by exact om_8cd8b012 h49 h50 h52 h53 h96 h119), if_pos (by exact om_12bb18a3 h49 h50 h52 h53 h96 h119)]
                      exact fby_sh (by exact om_20df663c) (by exact om_d9abeb5a h49 h50 h52 h53 h90 h96 h98 h100 h119)) (by exact om_227f0dd2 hm36 h49 h50 h52 h53 h96 h119)
              · skip
                refine tr_iload_n dX12_feed_58 hl24 ?_
                refine tr_goto 76 dX12_feed_59 (by decide) ?_
                refine tr_istore dX12_feed_76 (by decide) (by decide) ?_
                refine tr_aload_n dX12_feed_78 hl21 ?_
                obtain ⟨a120, d121, ta120⟩ := rf15_5 hW0 ta0
                refine tr_getR dX12_feed_79 fl12_13 (kR15 hS29.1 ta0) d121 ?_
                refine tr_aload_n dX12_feed_82 hl21 ?_
                refine q_getI dX12_feed_83 fl12_378 (kR15 hS29.1 ta0) c31 ?_
                refine tr_iload dX12_feed_86 rfl ?_
                refine q_bipush dX12_feed_88 (by decide +kernel) ?_
                intro v122 h123
                refine q_bipush dX12_feed_90 (by decide +kernel) ?_
                intro v124 h125
                refine tr_iload dX12_feed_92 hl27 ?_
                refine q_iconst dX12_feed_94 (by decide) ?_
                intro v126 h127
                refine q_iremX (c := 4) dX12_feed_95 (by exact om_2cfcd5a5 g33) (by exact om_668bd13a h127) (by decide) ?_
                intro v128 h129
                refine q_imulE (c := 8) dX12_feed_96 (by exact om_ab0fb6d5 h125) (by exact om_6ad04d60 h129) ?_
                intro v130 h131
                refine q_isubE dX12_feed_97 (by intro j1 j2 j3 j4; exact om_5d85b0e8 h123 h129 h131 j3 j4) ?_
                intro v132 h133
                refine tr_ishr dX12_feed_98 ?_
                obtain ⟨v134, lx135⟩ : ∃ z, z = x3 >>> (v132 &&& 31) := ⟨_, rfl⟩
                rw [← lx135]
                refine tr_i2b dX12_feed_99 ?_
                obtain ⟨v136, lx137⟩ : ∃ z, z = v134.toInt8.toInt32 := ⟨_, rfl⟩
                rw [← lx137]
                refine q_bastE dX12_feed_100 (kR76 hS29.1 ta120) (ti_in (nR76 hS29.1 ta120) (by exact om_cc59603c b38.2 b38.1) (by exact om_38486e67 b3.2 b3.1 h12 h14 h16 h17 g32 b38.2 b38.1 h46 h47 h49 h50 h129)) hS29 ta120 rfl rfl (by rfl) ?_
                intro I138 hS139 e140 f141
                have c142 : I138 a0 6 = v30 := (f141 _ _ (fun q => by have z := ta0; rw [q.1, ta120] at z; exact absurd z (by decide))).trans c31
                refine tr_aload_n dX12_feed_101 hl21 ?_
                refine tr_dup dX12_feed_102 rfl ?_
                refine q_getI dX12_feed_103 fl12_378 (kR15 hS139.1 ta0) c142 ?_
                refine q_iconst dX12_feed_106 (by decide) ?_
                intro v143 h144
                refine q_iaddE dX12_feed_107 (by intro j1 j2 j3 j4; exact om_f1028c16 b38.2 b38.1 h144) ?_
                intro v145 h146
                refine q_putI dX12_feed_108 fl12_378 (kR15 hS139.1 ta0) (Or.inl rfl) hS139 ta0 (by show (0 : Int) ≤ v145.toInt ∧ v145.toInt ≤ (900 : Int); exact om_8cf054ac b3.2 b3.1 h12 h14 h16 h17 g32 b38.2 b38.1 h46 h47 h49 h50 h129 h144 h146) rfl (by decide +kernel) ?_
                intro I147 hS148 e149 f150
                refine q_iincE dX12_feed_111 hl27 (by decide) (by decide) (by intro j1 j2; exact om_2799cb48 h46 h47 h49 h50 h129) ?_
                intro v151 h152
                refine tr_goto 23 dX12_feed_114 (by decide) ?_
                exact ih36 _ v151 I147 v145 hl21 hl22 hl23 hl24 hl25 hl26 rfl hS148 e149 (by exact om_bf9a333f h12 h14 g32 h129 h144 h146 h152) (by exact om_818a22d6 h46 h47 h49 h50 h129 h152) (by exact om_d1b8524b h46 h47 h49 h50 h129 h152) (fun t ht => by
                    obtain rfl := Option.some.inj (d121.symm.trans ht)
                    rw [show v151.toInt.toNat = v20.toInt.toNat + 1 by exact om_fbbe4e10 h46 h47 h49 h50 h129 h152]
                    refine (FbW.one (rw35 _ ht) (i := v30.toNatClampNeg) (by have q := ti_nat (i := v30) (by exact om_1cfe4d4d b38.2 b38.1 h144 h146); exact om_fe829da1 h12 h14 g32 h46 h47 h49 h50 h129 h144 h146 h152 q) (e140.trans ?_) (fun k hk => f141 _ _ (fun q => hk q.2))).kp (fun k => f150 _ _ (fun q => by have z := ta120; rw [q.1, ta0] at z; exact absurd z (by decide)))
                    rw [lx137, lx135, fb5, if_neg (by exact om_44ca1709 h46 h47 h49 h50 h129 h152), if_neg (by exact om_be66d621 h46 h47 h49 h50 h129 h152), if_pos (by exact om_4e252445 h46 h47 h49 h50 h129 h152)]
                    exact fby_sh (by exact om_20df663c) (by exact om_be774429 h46 h47 h49 h50 h123 h129 h131 h133 h152)) (by exact om_c860e167 hm36 h46 h47 h49 h50 h129 h152)
            · skip
              refine tr_iload_n dX12_feed_47 hl23 ?_
              refine tr_goto 76 dX12_feed_48 (by decide) ?_
              refine tr_istore dX12_feed_76 (by decide) (by decide) ?_
              refine tr_aload_n dX12_feed_78 hl21 ?_
              obtain ⟨a153, d154, ta153⟩ := rf15_5 hW0 ta0
              refine tr_getR dX12_feed_79 fl12_13 (kR15 hS29.1 ta0) d154 ?_
              refine tr_aload_n dX12_feed_82 hl21 ?_
              refine q_getI dX12_feed_83 fl12_378 (kR15 hS29.1 ta0) c31 ?_
              refine tr_iload dX12_feed_86 rfl ?_
              refine q_bipush dX12_feed_88 (by decide +kernel) ?_
              intro v155 h156
              refine q_bipush dX12_feed_90 (by decide +kernel) ?_
              intro v157 h158
              refine tr_iload dX12_feed_92 hl27 ?_
              refine q_iconst dX12_feed_94 (by decide) ?_
              intro v159 h160
              refine q_iremX (c := 4) dX12_feed_95 (by exact om_2cfcd5a5 g33) (by exact om_668bd13a h160) (by decide) ?_
              intro v161 h162
              refine q_imulE (c := 8) dX12_feed_96 (by exact om_ab0fb6d5 h158) (by exact om_ca15516d h43 h44 h46 h47 h162) ?_
              intro v163 h164
              refine q_isubE dX12_feed_97 (by intro j1 j2 j3 j4; exact om_5d85b0e8 h156 h162 h164 j3 j4) ?_
              intro v165 h166
              refine tr_ishr dX12_feed_98 ?_
              obtain ⟨v167, lx168⟩ : ∃ z, z = x2 >>> (v165 &&& 31) := ⟨_, rfl⟩
              rw [← lx168]
              refine tr_i2b dX12_feed_99 ?_
              obtain ⟨v169, lx170⟩ : ∃ z, z = v167.toInt8.toInt32 := ⟨_, rfl⟩
              rw [← lx170]
              refine q_bastE dX12_feed_100 (kR76 hS29.1 ta153) (ti_in (nR76 hS29.1 ta153) (by exact om_cc59603c b38.2 b38.1) (by exact om_62d1b524 b3.2 b3.1 h12 h14 h16 h17 g32 b38.2 b38.1 h43 h44 h46 h47 h162)) hS29 ta153 rfl rfl (by rfl) ?_
              intro I171 hS172 e173 f174
              have c175 : I171 a0 6 = v30 := (f174 _ _ (fun q => by have z := ta0; rw [q.1, ta153] at z; exact absurd z (by decide))).trans c31
              refine tr_aload_n dX12_feed_101 hl21 ?_
              refine tr_dup dX12_feed_102 rfl ?_
              refine q_getI dX12_feed_103 fl12_378 (kR15 hS172.1 ta0) c175 ?_
              refine q_iconst dX12_feed_106 (by decide) ?_
              intro v176 h177
              refine q_iaddE dX12_feed_107 (by intro j1 j2 j3 j4; exact om_f1028c16 b38.2 b38.1 h177) ?_
              intro v178 h179
              refine q_putI dX12_feed_108 fl12_378 (kR15 hS172.1 ta0) (Or.inl rfl) hS172 ta0 (by show (0 : Int) ≤ v178.toInt ∧ v178.toInt ≤ (900 : Int); exact om_2807e192 b3.2 b3.1 h12 h14 h16 h17 g32 b38.2 b38.1 h43 h44 h46 h47 h162 h177 h179) rfl (by decide +kernel) ?_
              intro I180 hS181 e182 f183
              refine q_iincE dX12_feed_111 hl27 (by decide) (by decide) (by intro j1 j2; exact om_de59ad1e h43 h44 h46 h47 h162) ?_
              intro v184 h185
              refine tr_goto 23 dX12_feed_114 (by decide) ?_
              exact ih36 _ v184 I180 v178 hl21 hl22 hl23 hl24 hl25 hl26 rfl hS181 e182 (by exact om_bf9a333f h12 h14 g32 h162 h177 h179 h185) (by exact om_a14d300a h43 h44 h46 h47 h162 h185) (by exact om_bfe19005 h43 h44 h46 h47 h162 h185) (fun t ht => by
                  obtain rfl := Option.some.inj (d154.symm.trans ht)
                  rw [show v184.toInt.toNat = v20.toInt.toNat + 1 by exact om_59c04f9b h43 h44 h46 h47 h162 h185]
                  refine (FbW.one (rw35 _ ht) (i := v30.toNatClampNeg) (by have q := ti_nat (i := v30) (by exact om_1cfe4d4d b38.2 b38.1 h177 h179); exact om_217dce29 h12 h14 g32 h43 h44 h46 h47 h162 h177 h179 h185 q) (e173.trans ?_) (fun k hk => f174 _ _ (fun q => hk q.2))).kp (fun k => f183 _ _ (fun q => by have z := ta153; rw [q.1, ta0] at z; exact absurd z (by decide)))
                  rw [lx170, lx168, fb5, if_neg (by exact om_ccb20d53 h43 h44 h46 h47 h162 h185), if_pos (by exact om_b9e36f7a h43 h44 h46 h47 h162 h185)]
                  exact fby_sh (by exact om_20df663c) (by exact om_3f119f28 h43 h44 h46 h47 h156 h162 h164 h166 h185)) (by exact om_c9e6ac36 hm36 h43 h44 h46 h47 h162 h185)
          · skip
            refine tr_iload_n dX12_feed_36 hl22 ?_
            refine tr_goto 76 dX12_feed_37 (by decide) ?_
            refine tr_istore dX12_feed_76 (by decide) (by decide) ?_
            refine tr_aload_n dX12_feed_78 hl21 ?_
            obtain ⟨a186, d187, ta186⟩ := rf15_5 hW0 ta0
            refine tr_getR dX12_feed_79 fl12_13 (kR15 hS29.1 ta0) d187 ?_
            refine tr_aload_n dX12_feed_82 hl21 ?_
            refine q_getI dX12_feed_83 fl12_378 (kR15 hS29.1 ta0) c31 ?_
            refine tr_iload dX12_feed_86 rfl ?_
            refine q_bipush dX12_feed_88 (by decide +kernel) ?_
            intro v188 h189
            refine q_bipush dX12_feed_90 (by decide +kernel) ?_
            intro v190 h191
            refine tr_iload dX12_feed_92 hl27 ?_
            refine q_iconst dX12_feed_94 (by decide) ?_
            intro v192 h193
            refine q_iremX (c := 4) dX12_feed_95 (by exact om_2cfcd5a5 g33) (by exact om_668bd13a h193) (by decide) ?_
            intro v194 h195
            refine q_imulE (c := 8) dX12_feed_96 (by exact om_ab0fb6d5 h191) (by exact om_6ad04d60 h195) ?_
            intro v196 h197
            refine q_isubE dX12_feed_97 (by intro j1 j2 j3 j4; exact om_5d85b0e8 h189 h195 h197 j3 j4) ?_
            intro v198 h199
            refine tr_ishr dX12_feed_98 ?_
            obtain ⟨v200, lx201⟩ : ∃ z, z = x1 >>> (v198 &&& 31) := ⟨_, rfl⟩
            rw [← lx201]
            refine tr_i2b dX12_feed_99 ?_
            obtain ⟨v202, lx203⟩ : ∃ z, z = v200.toInt8.toInt32 := ⟨_, rfl⟩
            rw [← lx203]
            refine q_bastE dX12_feed_100 (kR76 hS29.1 ta186) (ti_in (nR76 hS29.1 ta186) (by exact om_cc59603c b38.2 b38.1) (by exact om_5a6207b5 b3.2 b3.1 h12 h14 h16 h17 g32 g33 g34 b38.2 b38.1 h43 h44 h195)) hS29 ta186 rfl rfl (by rfl) ?_
            intro I204 hS205 e206 f207
            have c208 : I204 a0 6 = v30 := (f207 _ _ (fun q => by have z := ta0; rw [q.1, ta186] at z; exact absurd z (by decide))).trans c31
            refine tr_aload_n dX12_feed_101 hl21 ?_
            refine tr_dup dX12_feed_102 rfl ?_
            refine q_getI dX12_feed_103 fl12_378 (kR15 hS205.1 ta0) c208 ?_
            refine q_iconst dX12_feed_106 (by decide) ?_
            intro v209 h210
            refine q_iaddE dX12_feed_107 (by intro j1 j2 j3 j4; exact om_f1028c16 b38.2 b38.1 h210) ?_
            intro v211 h212
            refine q_putI dX12_feed_108 fl12_378 (kR15 hS205.1 ta0) (Or.inl rfl) hS205 ta0 (by show (0 : Int) ≤ v211.toInt ∧ v211.toInt ≤ (900 : Int); exact om_7f7e91a5 b3.2 b3.1 h12 h14 h16 h17 g32 g33 g34 b38.2 b38.1 h43 h44 h195 h210 h212) rfl (by decide +kernel) ?_
            intro I213 hS214 e215 f216
            refine q_iincE dX12_feed_111 hl27 (by decide) (by decide) (by intro j1 j2; exact om_3aec6e94 g33 g34 h43 h44 h195) ?_
            intro v217 h218
            refine tr_goto 23 dX12_feed_114 (by decide) ?_
            exact ih36 _ v217 I213 v211 hl21 hl22 hl23 hl24 hl25 hl26 rfl hS214 e215 (by exact om_bf9a333f h12 h14 g32 h195 h210 h212 h218) (by exact om_78a56b24 g33 g34 h43 h44 h195 h218) (by exact om_9bc27654 g33 g34 h43 h44 h195 h218) (fun t ht => by
                obtain rfl := Option.some.inj (d187.symm.trans ht)
                rw [show v217.toInt.toNat = v20.toInt.toNat + 1 by exact om_9c4e0a00 g33 g34 h43 h44 h195 h218]
                refine (FbW.one (rw35 _ ht) (i := v30.toNatClampNeg) (by have q := ti_nat (i := v30) (by exact om_1cfe4d4d b38.2 b38.1 h210 h212); exact om_3f9033a0 h12 h14 g32 g33 g34 h43 h44 h195 h210 h212 h218 q) (e206.trans ?_) (fun k hk => f207 _ _ (fun q => hk q.2))).kp (fun k => f216 _ _ (fun q => by have z := ta186; rw [q.1, ta0] at z; exact absurd z (by decide)))
                rw [lx203, lx201, fb5, if_pos (by exact om_80dd2498 g33 g34 h43 h44 h195 h218)]
                exact fby_sh (by exact om_20df663c) (by exact om_9888bdbf g33 g34 h43 h44 h189 h195 h197 h199 h218)) (by exact om_40eb1593 g33 g34 hm36 h43 h44 h195 h218)
    exact lp36 _ _ v18 I6 v1 rfl rfl rfl rfl rfl rfl rfl hS7 c10 (by exact om_8a2a5c0e h19) (by exact om_d99fa9e4 h19) (by exact om_307e5ce7 h19) (fun t ht => by rw [show v18.toInt.toNat = 0 by exact om_8b46d78f h19]; exact (FbW.rf I0 t _ _).kp (fun k => (f9 _ _ (fun q => by have z := hW0.rs ta0 rfl rfl ht; rw [q.1, ta0] at z; exact absurd z (by decide))))) (Nat.lt_succ_self _)
  · skip
    refine q_iconst dX12_feed_18 (by decide) ?_
    intro v219 h220
    exact tr_iret hZ dX12_feed_19 rfl (by decide) (by decide) ⟨v219, rfl, rfl, rfl, rfl, rfl, rfl, hS7, (fun t ht => ⟨fun _ k => (f9 _ _ (fun q => by have z := hW0.rs ta0 rfl rfl ht; rw [q.1, ta0] at z; exact absurd z (by decide))), fun q => by rw [c2] at q; omega⟩), (Or.inl ⟨(by (try rw [c2]); first | done | with_reducible assumption | exact om_7d826c96 b3.2 b3.1 h12 h14 h16 h17), (by first | done | with_reducible assumption | omega), (by (try rw [c10]); (try rw [c2]); first | done | with_reducible assumption | omega), trivial⟩), trivial⟩
